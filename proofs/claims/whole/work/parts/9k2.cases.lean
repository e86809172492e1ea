/-! THE LAW: its cases 4 to 8 -/
section LC
variable {D : va_G} {A : Nat → Prop} {α : Nat → Nat} {p : Program} {l : Launch} {e : Env} {m : MethodId} {c : Code} {meth : Method} {below : List Frame} {s : State} {b L N : Nat} {xs : Nat → Int32} {w : va_W} {H : Heap} {locs : List Loc} {ls : Array Slot} {x : Int32} {Q : State → Prop}
variable {P B Qs : Nat} {err pk pst pe tl dnB dnP nB nP day votes isOpen baskets lays recs fneed clos pastN logN hsN hsX txl mTaped mErr mPpl mBts mUs mRa mSt mKi mVal mLet mFin mNp mNb mOuts mWant mFnd : Int32} {tp dnums dbNames dpNames dfBoats nums bNames pNames fBoats boatO seaO faultO daysO backB sailB plc car bnd bsk dyL rsn pastF logF blB blC kpZ tx mTape mNum mNam mFst mBnm mW mUn mSl mKp mnNum mnNam mnBo mnBn : Nat → Int32} {hsF kpF : Nat → StT} {mWd : Int64}
theorem lc_sail (C : LCtx D A p m c s b L xs) (hP : va_P D vwCl w H) (hD : va_D A w) (hS : va_S A s.heap H locs) (hV : SVW D α w err pk pst pe tp tl dnums dbNames dpNames dfBoats dnB dnP nums bNames pNames fBoats nB nP day votes isOpen baskets lays recs fneed clos boatO seaO faultO daysO backB sailB plc car bnd bsk dyL rsn pastF pastN logF logN blB blC hsN hsX hsF kpF kpZ tx txl) (hB : Blk w 234 (cM D α 234 mTaped mErr mPpl mBts mUs mRa mSt mKi mWd mVal mLet mFin mNp mNb mOuts mWant mFnd mTape mNum mNam mFst mBnm mW mUn mSl mKp mnNum mnNam mnBo mnBn)) (hR : RALL N P B Qs nums bNames pNames fBoats nB nP day votes isOpen baskets lays recs fneed clos boatO seaO faultO daysO backB sailB plc car bnd bsk dyL rsn pastF pastN logF logN hsN hsX hsF kpF kpZ tp tl err txl mTaped mErr mPpl mBts mUs mTape mNum mNam mFst mBnm mW mUn mSl mKp) (hN : N ≤ 600) (hl : lv_has ls 8 [(0, .ref b), (1, .ref (α 0)), (2, .ref (α 234)), (3, .int x)]) (hx : ∀ k : Int32, 1 ≤ k → k ≤ 5 → vp_in (x + k) L) (kk : ∀ (w1 : va_W) (H1 : Heap) (locs1 : List Loc), INV D α (N + 1) w1 → va_P D vwCl w1 H1 → va_D A w1 → va_S A s.heap H1 locs1 → W p l e room_1 s m #[Value.ref b] below meth c H1 locs1 248 12703 Q (F0 m 1529 ls [])) : W p l e room_1 s m #[Value.ref b] below meth c H locs 248 12703 Q (F0 m 364 ls []) := by
  obtain ⟨S, hK, hE, hX, hbl, hbA⟩ := C
  refine lv_aload_n S.1 S.2.1 dL_law_364 rfl (lv_at hl 1 rfl) ?_
  refine lv_aload_n S.1 S.2.1 dL_law_365 rfl (lv_at hl 0 rfl) ?_
  refine lv_iload_n S.1 S.2.1 dL_law_366 rfl (lv_at hl 3 rfl) ?_
  refine lv_iconst (v := 1) S.1 S.2.1 dL_law_367 (by decide) ?_
  refine lv_iadd S.1 S.2.1 dL_law_368 ?_
  refine va_sld S.1 S.2.1 hX hbl hbA hS (hx 1 (by decide) (by decide)) dL_law_369 ?_
  refine lv_aload_n S.1 S.2.1 dL_law_370 rfl (lv_at hl 0 rfl) ?_
  refine lv_iload_n S.1 S.2.1 dL_law_371 rfl (lv_at hl 3 rfl) ?_
  refine lv_iconst (v := 2) S.1 S.2.1 dL_law_372 (by decide) ?_
  refine lv_iadd S.1 S.2.1 dL_law_373 ?_
  refine va_sld S.1 S.2.1 hX hbl hbA hS (hx 2 (by decide) (by decide)) dL_law_374 ?_
  refine g_aft0 (st1 := [.int (f_X11_sail nB day votes isOpen baskets lays recs fneed clos boatO seaO faultO daysO backB sailB plc car bnd bsk dyL rsn pastF pastN logF logN hsN hsX hsF (xs (x + 1).toNatClampNeg) (xs (x + 2).toNatClampNeg)).1]) (g_V (As := [.int (xs (x + 1).toNatClampNeg), .int (xs (x + 2).toNatClampNeg)]) (rest := []) S mi_X11_sail qw594 (c_X11_sail l D A w α err pk pst pe tp tl dnums dbNames dpNames dfBoats dnB dnP nums bNames pNames fBoats nB nP day votes isOpen baskets lays recs fneed clos boatO seaO faultO daysO backB sailB plc car bnd bsk dyL rsn pastF pastN logF logN blB blC hsN hsX hsF kpF kpZ tx txl (xs (x + 1).toNatClampNeg) (xs (x + 2).toNatClampNeg) hV) hK hP hD hE hS (hV.1 0 _ rfl) rfl rfl rfl hl.1 (Nat.le_of_ble_eq_true rfl) rfl rfl ⟨(Nat.le_of_ble_eq_true rfl), (Nat.le_of_ble_eq_true rfl)⟩ ⟨(Nat.le_of_ble_eq_true rfl), (Nat.le_of_ble_eq_true rfl)⟩ dL_law_375) hS rfl (fun w1 H locs hQ hP hD hS => ?_)
  have hB := hB.other hQ.2 (Or.inr (by decide))
  have hV2 := hQ.1
  refine lv_aload_n S.1 S.2.1 dL_law_378 rfl (lv_at hl 2 rfl) ?_
  refine lv_aload_n S.1 S.2.1 dL_law_379 rfl (lv_at hl 0 rfl) ?_
  refine lv_iload_n S.1 S.2.1 dL_law_380 rfl (lv_at hl 3 rfl) ?_
  refine lv_iconst (v := 1) S.1 S.2.1 dL_law_381 (by decide) ?_
  refine lv_iadd S.1 S.2.1 dL_law_382 ?_
  refine va_sld S.1 S.2.1 hX hbl hbA hS (hx 1 (by decide) (by decide)) dL_law_383 ?_
  refine lv_aload_n S.1 S.2.1 dL_law_384 rfl (lv_at hl 0 rfl) ?_
  refine lv_iload_n S.1 S.2.1 dL_law_385 rfl (lv_at hl 3 rfl) ?_
  refine lv_iconst (v := 2) S.1 S.2.1 dL_law_386 (by decide) ?_
  refine lv_iadd S.1 S.2.1 dL_law_387 ?_
  refine va_sld S.1 S.2.1 hX hbl hbA hS (hx 2 (by decide) (by decide)) dL_law_388 ?_
  refine g_aft0 (st1 := [.int (f_X12_sail mPpl mBts mUs mW mUn (xs (x + 1).toNatClampNeg) (xs (x + 2).toNatClampNeg)).1, .int (f_X11_sail nB day votes isOpen baskets lays recs fneed clos boatO seaO faultO daysO backB sailB plc car bnd bsk dyL rsn pastF pastN logF logN hsN hsX hsF (xs (x + 1).toNatClampNeg) (xs (x + 2).toNatClampNeg)).1]) (g_V (As := [.int (xs (x + 1).toNatClampNeg), .int (xs (x + 2).toNatClampNeg)]) (rest := [.int (f_X11_sail nB day votes isOpen baskets lays recs fneed clos boatO seaO faultO daysO backB sailB plc car bnd bsk dyL rsn pastF pastN logF logN hsN hsX hsF (xs (x + 1).toNatClampNeg) (xs (x + 2).toNatClampNeg)).1]) S mi_X12_sail qw1558 (c_X12_sail l D A w1 α 234 mTaped mErr mPpl mBts mUs mRa mSt mKi mWd mVal mLet mFin mNp mNb mOuts mWant mFnd mTape mNum mNam mFst mBnm mW mUn mSl mKp mnNum mnNam mnBo mnBn (xs (x + 1).toNatClampNeg) (xs (x + 2).toNatClampNeg) hB (rh_us hR) (rh_ppl hR) (rh_bts hR) (rh_lg hR)) hK hP hD hE hS (hB 0 _ rfl) rfl rfl rfl hl.1 (Nat.le_of_ble_eq_true rfl) rfl rfl ⟨(Nat.le_of_ble_eq_true rfl), (Nat.le_of_ble_eq_true rfl)⟩ ⟨(Nat.le_of_ble_eq_true rfl), (Nat.le_of_ble_eq_true rfl)⟩ dL_law_389) hS rfl (fun w2 H locs hQ2 hP hD hS => ?_)
  have hV3 := hV2.agree (fun j hj => (hQ2.2).2 j (Or.inl hj))
  have hB3 := hQ2.1
  obtain ⟨hA, hR3⟩ := ra_sail hR hN (xs (x + 1).toNatClampNeg) (xs (x + 2).toNatClampNeg)
  refine lv_icmp_eq (tgt := 1529) S.1 S.2.1 dL_law_392 (by decide) (fun _ => ?_) (fun z => absurd hA z)
  exact kk _ _ _ (INV.mk hV3 hB3 hR3) hP hD hS
theorem lc_delay (C : LCtx D A p m c s b L xs) (hP : va_P D vwCl w H) (hD : va_D A w) (hS : va_S A s.heap H locs) (hV : SVW D α w err pk pst pe tp tl dnums dbNames dpNames dfBoats dnB dnP nums bNames pNames fBoats nB nP day votes isOpen baskets lays recs fneed clos boatO seaO faultO daysO backB sailB plc car bnd bsk dyL rsn pastF pastN logF logN blB blC hsN hsX hsF kpF kpZ tx txl) (hB : Blk w 234 (cM D α 234 mTaped mErr mPpl mBts mUs mRa mSt mKi mWd mVal mLet mFin mNp mNb mOuts mWant mFnd mTape mNum mNam mFst mBnm mW mUn mSl mKp mnNum mnNam mnBo mnBn)) (hR : RALL N P B Qs nums bNames pNames fBoats nB nP day votes isOpen baskets lays recs fneed clos boatO seaO faultO daysO backB sailB plc car bnd bsk dyL rsn pastF pastN logF logN hsN hsX hsF kpF kpZ tp tl err txl mTaped mErr mPpl mBts mUs mTape mNum mNam mFst mBnm mW mUn mSl mKp) (hN : N ≤ 600) (hl : lv_has ls 8 [(0, .ref b), (1, .ref (α 0)), (2, .ref (α 234)), (3, .int x)]) (hx : ∀ k : Int32, 1 ≤ k → k ≤ 5 → vp_in (x + k) L) (kk : ∀ (w1 : va_W) (H1 : Heap) (locs1 : List Loc), INV D α (N + 1) w1 → va_P D vwCl w1 H1 → va_D A w1 → va_S A s.heap H1 locs1 → W p l e room_1 s m #[Value.ref b] below meth c H1 locs1 248 12703 Q (F0 m 1529 ls [])) : W p l e room_1 s m #[Value.ref b] below meth c H locs 248 12703 Q (F0 m 397 ls []) := by
  obtain ⟨S, hK, hE, hX, hbl, hbA⟩ := C
  refine lv_aload_n S.1 S.2.1 dL_law_397 rfl (lv_at hl 1 rfl) ?_
  refine lv_aload_n S.1 S.2.1 dL_law_398 rfl (lv_at hl 0 rfl) ?_
  refine lv_iload_n S.1 S.2.1 dL_law_399 rfl (lv_at hl 3 rfl) ?_
  refine lv_iconst (v := 1) S.1 S.2.1 dL_law_400 (by decide) ?_
  refine lv_iadd S.1 S.2.1 dL_law_401 ?_
  refine va_sld S.1 S.2.1 hX hbl hbA hS (hx 1 (by decide) (by decide)) dL_law_402 ?_
  refine lv_aload_n S.1 S.2.1 dL_law_403 rfl (lv_at hl 0 rfl) ?_
  refine lv_iload_n S.1 S.2.1 dL_law_404 rfl (lv_at hl 3 rfl) ?_
  refine lv_iconst (v := 2) S.1 S.2.1 dL_law_405 (by decide) ?_
  refine lv_iadd S.1 S.2.1 dL_law_406 ?_
  refine va_sld S.1 S.2.1 hX hbl hbA hS (hx 2 (by decide) (by decide)) dL_law_407 ?_
  refine g_aft0 (st1 := [.int (f_X11_delay nB day votes isOpen baskets lays recs fneed clos boatO seaO faultO daysO backB sailB plc car bnd bsk dyL rsn pastF pastN logF logN hsN hsX hsF (xs (x + 1).toNatClampNeg) (xs (x + 2).toNatClampNeg)).1]) (g_V (As := [.int (xs (x + 1).toNatClampNeg), .int (xs (x + 2).toNatClampNeg)]) (rest := []) S mi_X11_delay qw679 (c_X11_delay l D A w α err pk pst pe tp tl dnums dbNames dpNames dfBoats dnB dnP nums bNames pNames fBoats nB nP day votes isOpen baskets lays recs fneed clos boatO seaO faultO daysO backB sailB plc car bnd bsk dyL rsn pastF pastN logF logN blB blC hsN hsX hsF kpF kpZ tx txl (xs (x + 1).toNatClampNeg) (xs (x + 2).toNatClampNeg) hV) hK hP hD hE hS (hV.1 0 _ rfl) rfl rfl rfl hl.1 (Nat.le_of_ble_eq_true rfl) rfl rfl ⟨(Nat.le_of_ble_eq_true rfl), (Nat.le_of_ble_eq_true rfl)⟩ ⟨(Nat.le_of_ble_eq_true rfl), (Nat.le_of_ble_eq_true rfl)⟩ dL_law_408) hS rfl (fun w1 H locs hQ hP hD hS => ?_)
  have hB := hB.other hQ.2 (Or.inr (by decide))
  have hV2 := hQ.1
  refine lv_aload_n S.1 S.2.1 dL_law_411 rfl (lv_at hl 2 rfl) ?_
  refine lv_aload_n S.1 S.2.1 dL_law_412 rfl (lv_at hl 0 rfl) ?_
  refine lv_iload_n S.1 S.2.1 dL_law_413 rfl (lv_at hl 3 rfl) ?_
  refine lv_iconst (v := 1) S.1 S.2.1 dL_law_414 (by decide) ?_
  refine lv_iadd S.1 S.2.1 dL_law_415 ?_
  refine va_sld S.1 S.2.1 hX hbl hbA hS (hx 1 (by decide) (by decide)) dL_law_416 ?_
  refine lv_aload_n S.1 S.2.1 dL_law_417 rfl (lv_at hl 0 rfl) ?_
  refine lv_iload_n S.1 S.2.1 dL_law_418 rfl (lv_at hl 3 rfl) ?_
  refine lv_iconst (v := 2) S.1 S.2.1 dL_law_419 (by decide) ?_
  refine lv_iadd S.1 S.2.1 dL_law_420 ?_
  refine va_sld S.1 S.2.1 hX hbl hbA hS (hx 2 (by decide) (by decide)) dL_law_421 ?_
  refine g_aft0 (st1 := [.int (f_X12_delay mBts mUs mW mUn (xs (x + 1).toNatClampNeg) (xs (x + 2).toNatClampNeg)).1, .int (f_X11_delay nB day votes isOpen baskets lays recs fneed clos boatO seaO faultO daysO backB sailB plc car bnd bsk dyL rsn pastF pastN logF logN hsN hsX hsF (xs (x + 1).toNatClampNeg) (xs (x + 2).toNatClampNeg)).1]) (g_V (As := [.int (xs (x + 1).toNatClampNeg), .int (xs (x + 2).toNatClampNeg)]) (rest := [.int (f_X11_delay nB day votes isOpen baskets lays recs fneed clos boatO seaO faultO daysO backB sailB plc car bnd bsk dyL rsn pastF pastN logF logN hsN hsX hsF (xs (x + 1).toNatClampNeg) (xs (x + 2).toNatClampNeg)).1]) S mi_X12_delay qw1595 (c_X12_delay l D A w1 α 234 mTaped mErr mPpl mBts mUs mRa mSt mKi mWd mVal mLet mFin mNp mNb mOuts mWant mFnd mTape mNum mNam mFst mBnm mW mUn mSl mKp mnNum mnNam mnBo mnBn (xs (x + 1).toNatClampNeg) (xs (x + 2).toNatClampNeg) hB (rh_us hR) (rh_bts hR)) hK hP hD hE hS (hB 0 _ rfl) rfl rfl rfl hl.1 (Nat.le_of_ble_eq_true rfl) rfl rfl ⟨(Nat.le_of_ble_eq_true rfl), (Nat.le_of_ble_eq_true rfl)⟩ ⟨(Nat.le_of_ble_eq_true rfl), (Nat.le_of_ble_eq_true rfl)⟩ dL_law_422) hS rfl (fun w2 H locs hQ2 hP hD hS => ?_)
  have hV3 := hV2.agree (fun j hj => (hQ2.2).2 j (Or.inl hj))
  have hB3 := hQ2.1
  obtain ⟨hA, hR3⟩ := ra_delay hR hN (xs (x + 1).toNatClampNeg) (xs (x + 2).toNatClampNeg)
  refine lv_icmp_eq (tgt := 1529) S.1 S.2.1 dL_law_425 (by decide) (fun _ => ?_) (fun z => absurd hA z)
  exact kk _ _ _ (INV.mk hV3 hB3 hR3) hP hD hS
theorem lc_comeHome (C : LCtx D A p m c s b L xs) (hP : va_P D vwCl w H) (hD : va_D A w) (hS : va_S A s.heap H locs) (hV : SVW D α w err pk pst pe tp tl dnums dbNames dpNames dfBoats dnB dnP nums bNames pNames fBoats nB nP day votes isOpen baskets lays recs fneed clos boatO seaO faultO daysO backB sailB plc car bnd bsk dyL rsn pastF pastN logF logN blB blC hsN hsX hsF kpF kpZ tx txl) (hB : Blk w 234 (cM D α 234 mTaped mErr mPpl mBts mUs mRa mSt mKi mWd mVal mLet mFin mNp mNb mOuts mWant mFnd mTape mNum mNam mFst mBnm mW mUn mSl mKp mnNum mnNam mnBo mnBn)) (hR : RALL N P B Qs nums bNames pNames fBoats nB nP day votes isOpen baskets lays recs fneed clos boatO seaO faultO daysO backB sailB plc car bnd bsk dyL rsn pastF pastN logF logN hsN hsX hsF kpF kpZ tp tl err txl mTaped mErr mPpl mBts mUs mTape mNum mNam mFst mBnm mW mUn mSl mKp) (hN : N ≤ 600) (hl : lv_has ls 8 [(0, .ref b), (1, .ref (α 0)), (2, .ref (α 234)), (3, .int x)]) (hx : ∀ k : Int32, 1 ≤ k → k ≤ 5 → vp_in (x + k) L) (kk : ∀ (w1 : va_W) (H1 : Heap) (locs1 : List Loc), INV D α (N + 1) w1 → va_P D vwCl w1 H1 → va_D A w1 → va_S A s.heap H1 locs1 → W p l e room_1 s m #[Value.ref b] below meth c H1 locs1 248 12703 Q (F0 m 1529 ls [])) : W p l e room_1 s m #[Value.ref b] below meth c H locs 248 12703 Q (F0 m 430 ls []) := by
  obtain ⟨S, hK, hE, hX, hbl, hbA⟩ := C
  refine lv_aload_n S.1 S.2.1 dL_law_430 rfl (lv_at hl 1 rfl) ?_
  refine lv_aload_n S.1 S.2.1 dL_law_431 rfl (lv_at hl 0 rfl) ?_
  refine lv_iload_n S.1 S.2.1 dL_law_432 rfl (lv_at hl 3 rfl) ?_
  refine lv_iconst (v := 1) S.1 S.2.1 dL_law_433 (by decide) ?_
  refine lv_iadd S.1 S.2.1 dL_law_434 ?_
  refine va_sld S.1 S.2.1 hX hbl hbA hS (hx 1 (by decide) (by decide)) dL_law_435 ?_
  refine g_aft0 (st1 := [.int (f_X11_comeHome nB day votes isOpen baskets lays recs fneed clos boatO seaO faultO daysO backB sailB plc car bnd bsk dyL rsn pastF pastN logF logN hsN hsX hsF (xs (x + 1).toNatClampNeg)).1]) (g_V (As := [.int (xs (x + 1).toNatClampNeg)]) (rest := []) S mi_X11_comeHome qw692 (c_X11_comeHome l D A w α err pk pst pe tp tl dnums dbNames dpNames dfBoats dnB dnP nums bNames pNames fBoats nB nP day votes isOpen baskets lays recs fneed clos boatO seaO faultO daysO backB sailB plc car bnd bsk dyL rsn pastF pastN logF logN blB blC hsN hsX hsF kpF kpZ tx txl (xs (x + 1).toNatClampNeg) hV) hK hP hD hE hS (hV.1 0 _ rfl) rfl rfl rfl hl.1 (Nat.le_of_ble_eq_true rfl) rfl rfl ⟨(Nat.le_of_ble_eq_true rfl), (Nat.le_of_ble_eq_true rfl)⟩ ⟨(Nat.le_of_ble_eq_true rfl), (Nat.le_of_ble_eq_true rfl)⟩ dL_law_436) hS rfl (fun w1 H locs hQ hP hD hS => ?_)
  have hB := hB.other hQ.2 (Or.inr (by decide))
  have hV2 := hQ.1
  refine lv_aload_n S.1 S.2.1 dL_law_439 rfl (lv_at hl 2 rfl) ?_
  refine lv_aload_n S.1 S.2.1 dL_law_440 rfl (lv_at hl 0 rfl) ?_
  refine lv_iload_n S.1 S.2.1 dL_law_441 rfl (lv_at hl 3 rfl) ?_
  refine lv_iconst (v := 1) S.1 S.2.1 dL_law_442 (by decide) ?_
  refine lv_iadd S.1 S.2.1 dL_law_443 ?_
  refine va_sld S.1 S.2.1 hX hbl hbA hS (hx 1 (by decide) (by decide)) dL_law_444 ?_
  refine g_aft0 (st1 := [.int (f_X12_comeHome mPpl mBts mUs mW mUn (xs (x + 1).toNatClampNeg)).1, .int (f_X11_comeHome nB day votes isOpen baskets lays recs fneed clos boatO seaO faultO daysO backB sailB plc car bnd bsk dyL rsn pastF pastN logF logN hsN hsX hsF (xs (x + 1).toNatClampNeg)).1]) (g_V (As := [.int (xs (x + 1).toNatClampNeg)]) (rest := [.int (f_X11_comeHome nB day votes isOpen baskets lays recs fneed clos boatO seaO faultO daysO backB sailB plc car bnd bsk dyL rsn pastF pastN logF logN hsN hsX hsF (xs (x + 1).toNatClampNeg)).1]) S mi_X12_comeHome qw1599 (c_X12_comeHome l D A w1 α 234 mTaped mErr mPpl mBts mUs mRa mSt mKi mWd mVal mLet mFin mNp mNb mOuts mWant mFnd mTape mNum mNam mFst mBnm mW mUn mSl mKp mnNum mnNam mnBo mnBn (xs (x + 1).toNatClampNeg) hB (rh_us hR) (rh_ppl hR) (rh_bts hR) (rh_lg hR)) hK hP hD hE hS (hB 0 _ rfl) rfl rfl rfl hl.1 (Nat.le_of_ble_eq_true rfl) rfl rfl ⟨(Nat.le_of_ble_eq_true rfl), (Nat.le_of_ble_eq_true rfl)⟩ ⟨(Nat.le_of_ble_eq_true rfl), (Nat.le_of_ble_eq_true rfl)⟩ dL_law_445) hS rfl (fun w2 H locs hQ2 hP hD hS => ?_)
  have hV3 := hV2.agree (fun j hj => (hQ2.2).2 j (Or.inl hj))
  have hB3 := hQ2.1
  obtain ⟨hA, hR3⟩ := ra_comeHome hR hN (xs (x + 1).toNatClampNeg)
  refine lv_icmp_eq (tgt := 1529) S.1 S.2.1 dL_law_448 (by decide) (fun _ => ?_) (fun z => absurd hA z)
  exact kk _ _ _ (INV.mk hV3 hB3 hR3) hP hD hS
theorem lc_join (C : LCtx D A p m c s b L xs) (hP : va_P D vwCl w H) (hD : va_D A w) (hS : va_S A s.heap H locs) (hV : SVW D α w err pk pst pe tp tl dnums dbNames dpNames dfBoats dnB dnP nums bNames pNames fBoats nB nP day votes isOpen baskets lays recs fneed clos boatO seaO faultO daysO backB sailB plc car bnd bsk dyL rsn pastF pastN logF logN blB blC hsN hsX hsF kpF kpZ tx txl) (hB : Blk w 234 (cM D α 234 mTaped mErr mPpl mBts mUs mRa mSt mKi mWd mVal mLet mFin mNp mNb mOuts mWant mFnd mTape mNum mNam mFst mBnm mW mUn mSl mKp mnNum mnNam mnBo mnBn)) (hR : RALL N P B Qs nums bNames pNames fBoats nB nP day votes isOpen baskets lays recs fneed clos boatO seaO faultO daysO backB sailB plc car bnd bsk dyL rsn pastF pastN logF logN hsN hsX hsF kpF kpZ tp tl err txl mTaped mErr mPpl mBts mUs mTape mNum mNam mFst mBnm mW mUn mSl mKp) (hN : N ≤ 600) (hl : lv_has ls 8 [(0, .ref b), (1, .ref (α 0)), (2, .ref (α 234)), (3, .int x)]) (hx : ∀ k : Int32, 1 ≤ k → k ≤ 5 → vp_in (x + k) L) (kk : ∀ (w1 : va_W) (H1 : Heap) (locs1 : List Loc), INV D α (N + 1) w1 → va_P D vwCl w1 H1 → va_D A w1 → va_S A s.heap H1 locs1 → W p l e room_1 s m #[Value.ref b] below meth c H1 locs1 248 12703 Q (F0 m 1529 ls [])) : W p l e room_1 s m #[Value.ref b] below meth c H locs 248 12703 Q (F0 m 453 ls []) := by
  obtain ⟨S, hK, hE, hX, hbl, hbA⟩ := C
  refine lv_aload_n S.1 S.2.1 dL_law_453 rfl (lv_at hl 1 rfl) ?_
  refine lv_aload_n S.1 S.2.1 dL_law_454 rfl (lv_at hl 0 rfl) ?_
  refine lv_iload_n S.1 S.2.1 dL_law_455 rfl (lv_at hl 3 rfl) ?_
  refine lv_iconst (v := 1) S.1 S.2.1 dL_law_456 (by decide) ?_
  refine lv_iadd S.1 S.2.1 dL_law_457 ?_
  refine va_sld S.1 S.2.1 hX hbl hbA hS (hx 1 (by decide) (by decide)) dL_law_458 ?_
  refine lv_aload_n S.1 S.2.1 dL_law_459 rfl (lv_at hl 0 rfl) ?_
  refine lv_iload_n S.1 S.2.1 dL_law_460 rfl (lv_at hl 3 rfl) ?_
  refine lv_iconst (v := 2) S.1 S.2.1 dL_law_461 (by decide) ?_
  refine lv_iadd S.1 S.2.1 dL_law_462 ?_
  refine va_sld S.1 S.2.1 hX hbl hbA hS (hx 2 (by decide) (by decide)) dL_law_463 ?_
  refine g_aft0 (st1 := [.int (f_X11_join nB nP day votes isOpen baskets lays recs fneed clos boatO seaO faultO daysO backB sailB plc car bnd bsk dyL rsn pastF pastN logF logN hsN hsX hsF (xs (x + 1).toNatClampNeg) (xs (x + 2).toNatClampNeg)).1]) (g_V (As := [.int (xs (x + 1).toNatClampNeg), .int (xs (x + 2).toNatClampNeg)]) (rest := []) S mi_X11_join qw704 (c_X11_join l D A w α err pk pst pe tp tl dnums dbNames dpNames dfBoats dnB dnP nums bNames pNames fBoats nB nP day votes isOpen baskets lays recs fneed clos boatO seaO faultO daysO backB sailB plc car bnd bsk dyL rsn pastF pastN logF logN blB blC hsN hsX hsF kpF kpZ tx txl (xs (x + 1).toNatClampNeg) (xs (x + 2).toNatClampNeg) hV) hK hP hD hE hS (hV.1 0 _ rfl) rfl rfl rfl hl.1 (Nat.le_of_ble_eq_true rfl) rfl rfl ⟨(Nat.le_of_ble_eq_true rfl), (Nat.le_of_ble_eq_true rfl)⟩ ⟨(Nat.le_of_ble_eq_true rfl), (Nat.le_of_ble_eq_true rfl)⟩ dL_law_464) hS rfl (fun w1 H locs hQ hP hD hS => ?_)
  have hB := hB.other hQ.2 (Or.inr (by decide))
  have hV2 := hQ.1
  refine lv_aload_n S.1 S.2.1 dL_law_467 rfl (lv_at hl 2 rfl) ?_
  refine lv_aload_n S.1 S.2.1 dL_law_468 rfl (lv_at hl 0 rfl) ?_
  refine lv_iload_n S.1 S.2.1 dL_law_469 rfl (lv_at hl 3 rfl) ?_
  refine lv_iconst (v := 1) S.1 S.2.1 dL_law_470 (by decide) ?_
  refine lv_iadd S.1 S.2.1 dL_law_471 ?_
  refine va_sld S.1 S.2.1 hX hbl hbA hS (hx 1 (by decide) (by decide)) dL_law_472 ?_
  refine lv_aload_n S.1 S.2.1 dL_law_473 rfl (lv_at hl 0 rfl) ?_
  refine lv_iload_n S.1 S.2.1 dL_law_474 rfl (lv_at hl 3 rfl) ?_
  refine lv_iconst (v := 2) S.1 S.2.1 dL_law_475 (by decide) ?_
  refine lv_iadd S.1 S.2.1 dL_law_476 ?_
  refine va_sld S.1 S.2.1 hX hbl hbA hS (hx 2 (by decide) (by decide)) dL_law_477 ?_
  refine g_aft0 (st1 := [.int (f_X12_join mPpl mBts mUs mW mUn (xs (x + 1).toNatClampNeg) (xs (x + 2).toNatClampNeg)).1, .int (f_X11_join nB nP day votes isOpen baskets lays recs fneed clos boatO seaO faultO daysO backB sailB plc car bnd bsk dyL rsn pastF pastN logF logN hsN hsX hsF (xs (x + 1).toNatClampNeg) (xs (x + 2).toNatClampNeg)).1]) (g_V (As := [.int (xs (x + 1).toNatClampNeg), .int (xs (x + 2).toNatClampNeg)]) (rest := [.int (f_X11_join nB nP day votes isOpen baskets lays recs fneed clos boatO seaO faultO daysO backB sailB plc car bnd bsk dyL rsn pastF pastN logF logN hsN hsX hsF (xs (x + 1).toNatClampNeg) (xs (x + 2).toNatClampNeg)).1]) S mi_X12_join qw1607 (c_X12_join l D A w1 α 234 mTaped mErr mPpl mBts mUs mRa mSt mKi mWd mVal mLet mFin mNp mNb mOuts mWant mFnd mTape mNum mNam mFst mBnm mW mUn mSl mKp mnNum mnNam mnBo mnBn (xs (x + 1).toNatClampNeg) (xs (x + 2).toNatClampNeg) hB (rh_us hR) (rh_ppl hR) (rh_bts hR)) hK hP hD hE hS (hB 0 _ rfl) rfl rfl rfl hl.1 (Nat.le_of_ble_eq_true rfl) rfl rfl ⟨(Nat.le_of_ble_eq_true rfl), (Nat.le_of_ble_eq_true rfl)⟩ ⟨(Nat.le_of_ble_eq_true rfl), (Nat.le_of_ble_eq_true rfl)⟩ dL_law_478) hS rfl (fun w2 H locs hQ2 hP hD hS => ?_)
  have hV3 := hV2.agree (fun j hj => (hQ2.2).2 j (Or.inl hj))
  have hB3 := hQ2.1
  obtain ⟨hA, hR3⟩ := ra_join hR hN (xs (x + 1).toNatClampNeg) (xs (x + 2).toNatClampNeg)
  refine lv_icmp_eq (tgt := 1529) S.1 S.2.1 dL_law_481 (by decide) (fun _ => ?_) (fun z => absurd hA z)
  exact kk _ _ _ (INV.mk hV3 hB3 hR3) hP hD hS
theorem lc_open (C : LCtx D A p m c s b L xs) (hP : va_P D vwCl w H) (hD : va_D A w) (hS : va_S A s.heap H locs) (hV : SVW D α w err pk pst pe tp tl dnums dbNames dpNames dfBoats dnB dnP nums bNames pNames fBoats nB nP day votes isOpen baskets lays recs fneed clos boatO seaO faultO daysO backB sailB plc car bnd bsk dyL rsn pastF pastN logF logN blB blC hsN hsX hsF kpF kpZ tx txl) (hB : Blk w 234 (cM D α 234 mTaped mErr mPpl mBts mUs mRa mSt mKi mWd mVal mLet mFin mNp mNb mOuts mWant mFnd mTape mNum mNam mFst mBnm mW mUn mSl mKp mnNum mnNam mnBo mnBn)) (hR : RALL N P B Qs nums bNames pNames fBoats nB nP day votes isOpen baskets lays recs fneed clos boatO seaO faultO daysO backB sailB plc car bnd bsk dyL rsn pastF pastN logF logN hsN hsX hsF kpF kpZ tp tl err txl mTaped mErr mPpl mBts mUs mTape mNum mNam mFst mBnm mW mUn mSl mKp) (hN : N ≤ 600) (hl : lv_has ls 8 [(0, .ref b), (1, .ref (α 0)), (2, .ref (α 234)), (3, .int x)]) (hx : ∀ k : Int32, 1 ≤ k → k ≤ 5 → vp_in (x + k) L) (kk : ∀ (w1 : va_W) (H1 : Heap) (locs1 : List Loc), INV D α (N + 1) w1 → va_P D vwCl w1 H1 → va_D A w1 → va_S A s.heap H1 locs1 → W p l e room_1 s m #[Value.ref b] below meth c H1 locs1 248 12703 Q (F0 m 1529 ls [])) : W p l e room_1 s m #[Value.ref b] below meth c H locs 248 12703 Q (F0 m 486 ls []) := by
  obtain ⟨S, hK, hE, hX, hbl, hbA⟩ := C
  refine lv_aload_n S.1 S.2.1 dL_law_486 rfl (lv_at hl 1 rfl) ?_
  refine lv_aload_n S.1 S.2.1 dL_law_487 rfl (lv_at hl 0 rfl) ?_
  refine lv_iload_n S.1 S.2.1 dL_law_488 rfl (lv_at hl 3 rfl) ?_
  refine lv_iconst (v := 1) S.1 S.2.1 dL_law_489 (by decide) ?_
  refine lv_iadd S.1 S.2.1 dL_law_490 ?_
  refine va_sld S.1 S.2.1 hX hbl hbA hS (hx 1 (by decide) (by decide)) dL_law_491 ?_
  refine g_aft0 (st1 := [.int (f_X11_open day votes isOpen baskets lays recs fneed clos boatO seaO faultO daysO backB sailB plc car bnd bsk dyL rsn pastF pastN logF logN hsN hsX hsF (xs (x + 1).toNatClampNeg)).1]) (g_V (As := [.int (xs (x + 1).toNatClampNeg)]) (rest := []) S mi_X11_open qw718 (c_X11_open l D A w α err pk pst pe tp tl dnums dbNames dpNames dfBoats dnB dnP nums bNames pNames fBoats nB nP day votes isOpen baskets lays recs fneed clos boatO seaO faultO daysO backB sailB plc car bnd bsk dyL rsn pastF pastN logF logN blB blC hsN hsX hsF kpF kpZ tx txl (xs (x + 1).toNatClampNeg) hV) hK hP hD hE hS (hV.1 0 _ rfl) rfl rfl rfl hl.1 (Nat.le_of_ble_eq_true rfl) rfl rfl ⟨(Nat.le_of_ble_eq_true rfl), (Nat.le_of_ble_eq_true rfl)⟩ ⟨(Nat.le_of_ble_eq_true rfl), (Nat.le_of_ble_eq_true rfl)⟩ dL_law_492) hS rfl (fun w1 H locs hQ hP hD hS => ?_)
  have hB := hB.other hQ.2 (Or.inr (by decide))
  have hV2 := hQ.1
  refine lv_aload_n S.1 S.2.1 dL_law_495 rfl (lv_at hl 2 rfl) ?_
  refine lv_aload_n S.1 S.2.1 dL_law_496 rfl (lv_at hl 0 rfl) ?_
  refine lv_iload_n S.1 S.2.1 dL_law_497 rfl (lv_at hl 3 rfl) ?_
  refine lv_iconst (v := 1) S.1 S.2.1 dL_law_498 (by decide) ?_
  refine lv_iadd S.1 S.2.1 dL_law_499 ?_
  refine va_sld S.1 S.2.1 hX hbl hbA hS (hx 1 (by decide) (by decide)) dL_law_500 ?_
  refine g_aft0 (st1 := [.int (f_X12_open mPpl mUs mW mUn (xs (x + 1).toNatClampNeg)).1, .int (f_X11_open day votes isOpen baskets lays recs fneed clos boatO seaO faultO daysO backB sailB plc car bnd bsk dyL rsn pastF pastN logF logN hsN hsX hsF (xs (x + 1).toNatClampNeg)).1]) (g_V (As := [.int (xs (x + 1).toNatClampNeg)]) (rest := [.int (f_X11_open day votes isOpen baskets lays recs fneed clos boatO seaO faultO daysO backB sailB plc car bnd bsk dyL rsn pastF pastN logF logN hsN hsX hsF (xs (x + 1).toNatClampNeg)).1]) S mi_X12_open qw1615 (c_X12_open l D A w1 α 234 mTaped mErr mPpl mBts mUs mRa mSt mKi mWd mVal mLet mFin mNp mNb mOuts mWant mFnd mTape mNum mNam mFst mBnm mW mUn mSl mKp mnNum mnNam mnBo mnBn (xs (x + 1).toNatClampNeg) hB (rh_us hR) (rh_ppl hR) (rh_lg hR)) hK hP hD hE hS (hB 0 _ rfl) rfl rfl rfl hl.1 (Nat.le_of_ble_eq_true rfl) rfl rfl ⟨(Nat.le_of_ble_eq_true rfl), (Nat.le_of_ble_eq_true rfl)⟩ ⟨(Nat.le_of_ble_eq_true rfl), (Nat.le_of_ble_eq_true rfl)⟩ dL_law_501) hS rfl (fun w2 H locs hQ2 hP hD hS => ?_)
  have hV3 := hV2.agree (fun j hj => (hQ2.2).2 j (Or.inl hj))
  have hB3 := hQ2.1
  obtain ⟨hA, hR3⟩ := ra_open hR hN (xs (x + 1).toNatClampNeg)
  refine lv_icmp_eq (tgt := 1529) S.1 S.2.1 dL_law_504 (by decide) (fun _ => ?_) (fun z => absurd hA z)
  exact kk _ _ _ (INV.mk hV3 hB3 hR3) hP hD hS
end LC
