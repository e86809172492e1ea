/-! THE LAW: its cases 0 to 3 -/
section LC
variable {D : va_G} {A : Nat → Prop} {α : Nat → Nat} {p : Program} {l : Launch} {e : Env} {m : MethodId} {c : Code} {meth : Method} {below : List Frame} {s : State} {b L N : Nat} {xs : Nat → Int32} {w : va_W} {H : Heap} {locs : List Loc} {ls : Array Slot} {x : Int32} {Q : State → Prop}
variable {P B Qs : Nat} {err pk pst pe tl dnB dnP nB nP day votes isOpen baskets lays recs fneed clos pastN logN hsN hsX txl mTaped mErr mPpl mBts mUs mRa mSt mKi mVal mLet mFin mNp mNb mOuts mWant mFnd : Int32} {tp dnums dbNames dpNames dfBoats nums bNames pNames fBoats boatO seaO faultO daysO backB sailB plc car bnd bsk dyL rsn pastF logF blB blC kpZ tx mTape mNum mNam mFst mBnm mW mUn mSl mKp mnNum mnNam mnBo mnBn : Nat → Int32} {hsF kpF : Nat → StT} {mWd : Int64}
theorem lc_append (C : LCtx D A p m c s b L xs) (hP : va_P D vwCl w H) (hD : va_D A w) (hS : va_S A s.heap H locs) (hV : SVW D α w err pk pst pe tp tl dnums dbNames dpNames dfBoats dnB dnP nums bNames pNames fBoats nB nP day votes isOpen baskets lays recs fneed clos boatO seaO faultO daysO backB sailB plc car bnd bsk dyL rsn pastF pastN logF logN blB blC hsN hsX hsF kpF kpZ tx txl) (hB : Blk w 234 (cM D α 234 mTaped mErr mPpl mBts mUs mRa mSt mKi mWd mVal mLet mFin mNp mNb mOuts mWant mFnd mTape mNum mNam mFst mBnm mW mUn mSl mKp mnNum mnNam mnBo mnBn)) (hR : RALL N P B Qs nums bNames pNames fBoats nB nP day votes isOpen baskets lays recs fneed clos boatO seaO faultO daysO backB sailB plc car bnd bsk dyL rsn pastF pastN logF logN hsN hsX hsF kpF kpZ tp tl err txl mTaped mErr mPpl mBts mUs mTape mNum mNam mFst mBnm mW mUn mSl mKp) (hN : N ≤ 600) (hl : lv_has ls 8 [(0, .ref b), (1, .ref (α 0)), (2, .ref (α 234)), (3, .int x)]) (hx : ∀ k : Int32, 1 ≤ k → k ≤ 5 → vp_in (x + k) L) (kk : ∀ (w1 : va_W) (H1 : Heap) (locs1 : List Loc), INV D α (N + 1) w1 → va_P D vwCl w1 H1 → va_D A w1 → va_S A s.heap H1 locs1 → W p l e room_1 s m #[Value.ref b] below meth c H1 locs1 248 12703 Q (F0 m 1529 ls [])) : W p l e room_1 s m #[Value.ref b] below meth c H locs 248 12703 Q (F0 m 252 ls []) := by
  obtain ⟨S, hK, hE, hX, hbl, hbA⟩ := C
  refine lv_aload_n S.1 S.2.1 dL_law_252 rfl (lv_at hl 1 rfl) ?_
  refine lv_aload_n S.1 S.2.1 dL_law_253 rfl (lv_at hl 0 rfl) ?_
  refine lv_iload_n S.1 S.2.1 dL_law_254 rfl (lv_at hl 3 rfl) ?_
  refine lv_iconst (v := 1) S.1 S.2.1 dL_law_255 (by decide) ?_
  refine lv_iadd S.1 S.2.1 dL_law_256 ?_
  refine va_sld S.1 S.2.1 hX hbl hbA hS (hx 1 (by decide) (by decide)) dL_law_257 ?_
  refine lv_aload_n S.1 S.2.1 dL_law_258 rfl (lv_at hl 0 rfl) ?_
  refine lv_iload_n S.1 S.2.1 dL_law_259 rfl (lv_at hl 3 rfl) ?_
  refine lv_iconst (v := 2) S.1 S.2.1 dL_law_260 (by decide) ?_
  refine lv_iadd S.1 S.2.1 dL_law_261 ?_
  refine va_sld S.1 S.2.1 hX hbl hbA hS (hx 2 (by decide) (by decide)) dL_law_262 ?_
  refine lv_aload_n S.1 S.2.1 dL_law_263 rfl (lv_at hl 0 rfl) ?_
  refine lv_iload_n S.1 S.2.1 dL_law_264 rfl (lv_at hl 3 rfl) ?_
  refine lv_iconst (v := 3) S.1 S.2.1 dL_law_265 (by decide) ?_
  refine lv_iadd S.1 S.2.1 dL_law_266 ?_
  refine va_sld S.1 S.2.1 hX hbl hbA hS (hx 3 (by decide) (by decide)) dL_law_267 ?_
  refine lv_aload_n S.1 S.2.1 dL_law_268 rfl (lv_at hl 0 rfl) ?_
  refine lv_iload_n S.1 S.2.1 dL_law_269 rfl (lv_at hl 3 rfl) ?_
  refine lv_iconst (v := 4) S.1 S.2.1 dL_law_270 (by decide) ?_
  refine lv_iadd S.1 S.2.1 dL_law_271 ?_
  refine va_sld S.1 S.2.1 hX hbl hbA hS (hx 4 (by decide) (by decide)) dL_law_272 ?_
  refine lv_aload_n S.1 S.2.1 dL_law_273 rfl (lv_at hl 0 rfl) ?_
  refine lv_iload_n S.1 S.2.1 dL_law_274 rfl (lv_at hl 3 rfl) ?_
  refine lv_iconst (v := 5) S.1 S.2.1 dL_law_275 (by decide) ?_
  refine lv_iadd S.1 S.2.1 dL_law_276 ?_
  refine va_sld S.1 S.2.1 hX hbl hbA hS (hx 5 (by decide) (by decide)) dL_law_277 ?_
  refine g_aft0 (st1 := [.int (f_X11_append tp tl (xs (x + 1).toNatClampNeg) (xs (x + 2).toNatClampNeg) (xs (x + 3).toNatClampNeg) (xs (x + 4).toNatClampNeg) (xs (x + 5).toNatClampNeg)).1]) (g_V (As := [.int (xs (x + 1).toNatClampNeg), .int (xs (x + 2).toNatClampNeg), .int (xs (x + 3).toNatClampNeg), .int (xs (x + 4).toNatClampNeg), .int (xs (x + 5).toNatClampNeg)]) (rest := []) S mi_X11_append qw386 (c_X11_append l D A w α err pk pst pe tp tl dnums dbNames dpNames dfBoats dnB dnP nums bNames pNames fBoats nB nP day votes isOpen baskets lays recs fneed clos boatO seaO faultO daysO backB sailB plc car bnd bsk dyL rsn pastF pastN logF logN blB blC hsN hsX hsF kpF kpZ tx txl (xs (x + 1).toNatClampNeg) (xs (x + 2).toNatClampNeg) (xs (x + 3).toNatClampNeg) (xs (x + 4).toNatClampNeg) (xs (x + 5).toNatClampNeg) hV) hK hP hD hE hS (hV.1 0 _ rfl) rfl rfl rfl hl.1 (Nat.le_of_ble_eq_true rfl) rfl rfl ⟨(Nat.le_of_ble_eq_true rfl), (Nat.le_of_ble_eq_true rfl)⟩ ⟨(Nat.le_of_ble_eq_true rfl), (Nat.le_of_ble_eq_true rfl)⟩ dL_law_278) hS rfl (fun w1 H locs hQ hP hD hS => ?_)
  have hB := hB.other hQ.2 (Or.inr (by decide))
  have hV2 := hQ.1
  refine lv_aload_n S.1 S.2.1 dL_law_281 rfl (lv_at hl 2 rfl) ?_
  refine lv_aload_n S.1 S.2.1 dL_law_282 rfl (lv_at hl 0 rfl) ?_
  refine lv_iload_n S.1 S.2.1 dL_law_283 rfl (lv_at hl 3 rfl) ?_
  refine lv_iconst (v := 1) S.1 S.2.1 dL_law_284 (by decide) ?_
  refine lv_iadd S.1 S.2.1 dL_law_285 ?_
  refine va_sld S.1 S.2.1 hX hbl hbA hS (hx 1 (by decide) (by decide)) dL_law_286 ?_
  refine lv_aload_n S.1 S.2.1 dL_law_287 rfl (lv_at hl 0 rfl) ?_
  refine lv_iload_n S.1 S.2.1 dL_law_288 rfl (lv_at hl 3 rfl) ?_
  refine lv_iconst (v := 2) S.1 S.2.1 dL_law_289 (by decide) ?_
  refine lv_iadd S.1 S.2.1 dL_law_290 ?_
  refine va_sld S.1 S.2.1 hX hbl hbA hS (hx 2 (by decide) (by decide)) dL_law_291 ?_
  refine lv_aload_n S.1 S.2.1 dL_law_292 rfl (lv_at hl 0 rfl) ?_
  refine lv_iload_n S.1 S.2.1 dL_law_293 rfl (lv_at hl 3 rfl) ?_
  refine lv_iconst (v := 3) S.1 S.2.1 dL_law_294 (by decide) ?_
  refine lv_iadd S.1 S.2.1 dL_law_295 ?_
  refine va_sld S.1 S.2.1 hX hbl hbA hS (hx 3 (by decide) (by decide)) dL_law_296 ?_
  refine lv_aload_n S.1 S.2.1 dL_law_297 rfl (lv_at hl 0 rfl) ?_
  refine lv_iload_n S.1 S.2.1 dL_law_298 rfl (lv_at hl 3 rfl) ?_
  refine lv_iconst (v := 4) S.1 S.2.1 dL_law_299 (by decide) ?_
  refine lv_iadd S.1 S.2.1 dL_law_300 ?_
  refine va_sld S.1 S.2.1 hX hbl hbA hS (hx 4 (by decide) (by decide)) dL_law_301 ?_
  refine lv_aload_n S.1 S.2.1 dL_law_302 rfl (lv_at hl 0 rfl) ?_
  refine lv_iload_n S.1 S.2.1 dL_law_303 rfl (lv_at hl 3 rfl) ?_
  refine lv_iconst (v := 5) S.1 S.2.1 dL_law_304 (by decide) ?_
  refine lv_iadd S.1 S.2.1 dL_law_305 ?_
  refine va_sld S.1 S.2.1 hX hbl hbA hS (hx 5 (by decide) (by decide)) dL_law_306 ?_
  refine g_aft0 (st1 := [.int (f_X12_append mTaped mTape (xs (x + 1).toNatClampNeg) (xs (x + 2).toNatClampNeg) (xs (x + 3).toNatClampNeg) (xs (x + 4).toNatClampNeg) (xs (x + 5).toNatClampNeg)).1, .int (f_X11_append tp tl (xs (x + 1).toNatClampNeg) (xs (x + 2).toNatClampNeg) (xs (x + 3).toNatClampNeg) (xs (x + 4).toNatClampNeg) (xs (x + 5).toNatClampNeg)).1]) (g_V (As := [.int (xs (x + 1).toNatClampNeg), .int (xs (x + 2).toNatClampNeg), .int (xs (x + 3).toNatClampNeg), .int (xs (x + 4).toNatClampNeg), .int (xs (x + 5).toNatClampNeg)]) (rest := [.int (f_X11_append tp tl (xs (x + 1).toNatClampNeg) (xs (x + 2).toNatClampNeg) (xs (x + 3).toNatClampNeg) (xs (x + 4).toNatClampNeg) (xs (x + 5).toNatClampNeg)).1]) S mi_X12_append qw1465 (c_X12_append l D A w1 α 234 mTaped mErr mPpl mBts mUs mRa mSt mKi mWd mVal mLet mFin mNp mNb mOuts mWant mFnd mTape mNum mNam mFst mBnm mW mUn mSl mKp mnNum mnNam mnBo mnBn (xs (x + 1).toNatClampNeg) (xs (x + 2).toNatClampNeg) (xs (x + 3).toNatClampNeg) (xs (x + 4).toNatClampNeg) (xs (x + 5).toNatClampNeg) hB (rh_taped hR)) hK hP hD hE hS (hB 0 _ rfl) rfl rfl rfl hl.1 (Nat.le_of_ble_eq_true rfl) rfl rfl ⟨(Nat.le_of_ble_eq_true rfl), (Nat.le_of_ble_eq_true rfl)⟩ ⟨(Nat.le_of_ble_eq_true rfl), (Nat.le_of_ble_eq_true rfl)⟩ dL_law_307) hS rfl (fun w2 H locs hQ2 hP hD hS => ?_)
  have hV3 := hV2.agree (fun j hj => (hQ2.2).2 j (Or.inl hj))
  have hB3 := hQ2.1
  obtain ⟨hA, hR3⟩ := ra_append hR hN (xs (x + 1).toNatClampNeg) (xs (x + 2).toNatClampNeg) (xs (x + 3).toNatClampNeg) (xs (x + 4).toNatClampNeg) (xs (x + 5).toNatClampNeg)
  refine lv_icmp_eq (tgt := 1529) S.1 S.2.1 dL_law_310 (by decide) (fun _ => ?_) (fun z => absurd hA z)
  exact kk _ _ _ (INV.mk hV3 hB3 hR3) hP hD hS
theorem lc_truncate (C : LCtx D A p m c s b L xs) (hP : va_P D vwCl w H) (hD : va_D A w) (hS : va_S A s.heap H locs) (hV : SVW D α w err pk pst pe tp tl dnums dbNames dpNames dfBoats dnB dnP nums bNames pNames fBoats nB nP day votes isOpen baskets lays recs fneed clos boatO seaO faultO daysO backB sailB plc car bnd bsk dyL rsn pastF pastN logF logN blB blC hsN hsX hsF kpF kpZ tx txl) (hB : Blk w 234 (cM D α 234 mTaped mErr mPpl mBts mUs mRa mSt mKi mWd mVal mLet mFin mNp mNb mOuts mWant mFnd mTape mNum mNam mFst mBnm mW mUn mSl mKp mnNum mnNam mnBo mnBn)) (hR : RALL N P B Qs nums bNames pNames fBoats nB nP day votes isOpen baskets lays recs fneed clos boatO seaO faultO daysO backB sailB plc car bnd bsk dyL rsn pastF pastN logF logN hsN hsX hsF kpF kpZ tp tl err txl mTaped mErr mPpl mBts mUs mTape mNum mNam mFst mBnm mW mUn mSl mKp) (hN : N ≤ 600) (hl : lv_has ls 8 [(0, .ref b), (1, .ref (α 0)), (2, .ref (α 234)), (3, .int x)]) (hx : ∀ k : Int32, 1 ≤ k → k ≤ 5 → vp_in (x + k) L) (kk : ∀ (w1 : va_W) (H1 : Heap) (locs1 : List Loc), INV D α (N + 1) w1 → va_P D vwCl w1 H1 → va_D A w1 → va_S A s.heap H1 locs1 → W p l e room_1 s m #[Value.ref b] below meth c H1 locs1 248 12703 Q (F0 m 1529 ls [])) : W p l e room_1 s m #[Value.ref b] below meth c H locs 248 12703 Q (F0 m 315 ls []) := by
  obtain ⟨S, hK, hE, hX, hbl, hbA⟩ := C
  refine lv_aload_n S.1 S.2.1 dL_law_315 rfl (lv_at hl 1 rfl) ?_
  refine lv_aload_n S.1 S.2.1 dL_law_316 rfl (lv_at hl 0 rfl) ?_
  refine lv_iload_n S.1 S.2.1 dL_law_317 rfl (lv_at hl 3 rfl) ?_
  refine lv_iconst (v := 1) S.1 S.2.1 dL_law_318 (by decide) ?_
  refine lv_iadd S.1 S.2.1 dL_law_319 ?_
  refine va_sld S.1 S.2.1 hX hbl hbA hS (hx 1 (by decide) (by decide)) dL_law_320 ?_
  refine g_aft0 (st1 := [.int (f_X11_truncate tl (xs (x + 1).toNatClampNeg)).1]) (g_V (As := [.int (xs (x + 1).toNatClampNeg)]) (rest := []) S mi_X11_truncate qw402 (c_X11_truncate l D A w α err pk pst pe tp tl dnums dbNames dpNames dfBoats dnB dnP nums bNames pNames fBoats nB nP day votes isOpen baskets lays recs fneed clos boatO seaO faultO daysO backB sailB plc car bnd bsk dyL rsn pastF pastN logF logN blB blC hsN hsX hsF kpF kpZ tx txl (xs (x + 1).toNatClampNeg) hV) hK hP hD hE hS (hV.1 0 _ rfl) rfl rfl rfl hl.1 (Nat.le_of_ble_eq_true rfl) rfl rfl ⟨(Nat.le_of_ble_eq_true rfl), (Nat.le_of_ble_eq_true rfl)⟩ ⟨(Nat.le_of_ble_eq_true rfl), (Nat.le_of_ble_eq_true rfl)⟩ dL_law_321) hS rfl (fun w1 H locs hQ hP hD hS => ?_)
  have hB := hB.other hQ.2 (Or.inr (by decide))
  have hV2 := hQ.1
  refine lv_aload_n S.1 S.2.1 dL_law_324 rfl (lv_at hl 2 rfl) ?_
  refine lv_aload_n S.1 S.2.1 dL_law_325 rfl (lv_at hl 0 rfl) ?_
  refine lv_iload_n S.1 S.2.1 dL_law_326 rfl (lv_at hl 3 rfl) ?_
  refine lv_iconst (v := 1) S.1 S.2.1 dL_law_327 (by decide) ?_
  refine lv_iadd S.1 S.2.1 dL_law_328 ?_
  refine va_sld S.1 S.2.1 hX hbl hbA hS (hx 1 (by decide) (by decide)) dL_law_329 ?_
  refine g_aft0 (st1 := [.int (f_X12_truncate mTaped (xs (x + 1).toNatClampNeg)).1, .int (f_X11_truncate tl (xs (x + 1).toNatClampNeg)).1]) (g_V (As := [.int (xs (x + 1).toNatClampNeg)]) (rest := [.int (f_X11_truncate tl (xs (x + 1).toNatClampNeg)).1]) S mi_X12_truncate qw1473 (c_X12_truncate l D A w1 α 234 mTaped mErr mPpl mBts mUs mRa mSt mKi mWd mVal mLet mFin mNp mNb mOuts mWant mFnd mTape mNum mNam mFst mBnm mW mUn mSl mKp mnNum mnNam mnBo mnBn (xs (x + 1).toNatClampNeg) hB) hK hP hD hE hS (hB 0 _ rfl) rfl rfl rfl hl.1 (Nat.le_of_ble_eq_true rfl) rfl rfl ⟨(Nat.le_of_ble_eq_true rfl), (Nat.le_of_ble_eq_true rfl)⟩ ⟨(Nat.le_of_ble_eq_true rfl), (Nat.le_of_ble_eq_true rfl)⟩ dL_law_330) hS rfl (fun w2 H locs hQ2 hP hD hS => ?_)
  have hV3 := hV2.agree (fun j hj => (hQ2.2).2 j (Or.inl hj))
  have hB3 := hQ2.1
  obtain ⟨hA, hR3⟩ := ra_truncate hR hN (xs (x + 1).toNatClampNeg)
  refine lv_icmp_eq (tgt := 1529) S.1 S.2.1 dL_law_333 (by decide) (fun _ => ?_) (fun z => absurd hA z)
  exact kk _ _ _ (INV.mk hV3 hB3 hR3) hP hD hS
theorem lc_errorPosition (C : LCtx D A p m c s b L xs) (hP : va_P D vwCl w H) (hD : va_D A w) (hS : va_S A s.heap H locs) (hV : SVW D α w err pk pst pe tp tl dnums dbNames dpNames dfBoats dnB dnP nums bNames pNames fBoats nB nP day votes isOpen baskets lays recs fneed clos boatO seaO faultO daysO backB sailB plc car bnd bsk dyL rsn pastF pastN logF logN blB blC hsN hsX hsF kpF kpZ tx txl) (hB : Blk w 234 (cM D α 234 mTaped mErr mPpl mBts mUs mRa mSt mKi mWd mVal mLet mFin mNp mNb mOuts mWant mFnd mTape mNum mNam mFst mBnm mW mUn mSl mKp mnNum mnNam mnBo mnBn)) (hR : RALL N P B Qs nums bNames pNames fBoats nB nP day votes isOpen baskets lays recs fneed clos boatO seaO faultO daysO backB sailB plc car bnd bsk dyL rsn pastF pastN logF logN hsN hsX hsF kpF kpZ tp tl err txl mTaped mErr mPpl mBts mUs mTape mNum mNam mFst mBnm mW mUn mSl mKp) (hN : N ≤ 600) (hl : lv_has ls 8 [(0, .ref b), (1, .ref (α 0)), (2, .ref (α 234)), (3, .int x)]) (hx : ∀ k : Int32, 1 ≤ k → k ≤ 5 → vp_in (x + k) L) (kk : ∀ (w1 : va_W) (H1 : Heap) (locs1 : List Loc), INV D α (N + 1) w1 → va_P D vwCl w1 H1 → va_D A w1 → va_S A s.heap H1 locs1 → W p l e room_1 s m #[Value.ref b] below meth c H1 locs1 248 12703 Q (F0 m 1529 ls [])) : W p l e room_1 s m #[Value.ref b] below meth c H locs 248 12703 Q (F0 m 351 ls []) := by
  obtain ⟨S, hK, hE, hX, hbl, hbA⟩ := C
  refine lv_aload_n S.1 S.2.1 dL_law_351 rfl (lv_at hl 1 rfl) ?_
  refine g_aftR0 (st1 := [.int (f_X11_errorPosition err)]) (g_V (As := []) (rest := []) S mi_X11_errorPosition qw590 (c_X11_errorPosition l D A w α err pk pst pe tp tl dnums dbNames dpNames dfBoats dnB dnP nums bNames pNames fBoats nB nP day votes isOpen baskets lays recs fneed clos boatO seaO faultO daysO backB sailB plc car bnd bsk dyL rsn pastF pastN logF logN blB blC hsN hsX hsF kpF kpZ tx txl hV) hK hP hD hE hS (hV.1 0 _ rfl) rfl rfl rfl hl.1 (Nat.le_of_ble_eq_true rfl) rfl rfl ⟨(Nat.le_of_ble_eq_true rfl), (Nat.le_of_ble_eq_true rfl)⟩ ⟨(Nat.le_of_ble_eq_true rfl), (Nat.le_of_ble_eq_true rfl)⟩ dL_law_352) hS rfl (fun locs hS => ?_)
  have hV2 := hV
  refine lv_aload_n S.1 S.2.1 dL_law_355 rfl (lv_at hl 2 rfl) ?_
  refine g_aftR0 (st1 := [.int (f_X12_errorPosition mErr), .int (f_X11_errorPosition err)]) (g_V (As := []) (rest := [.int (f_X11_errorPosition err)]) S mi_X12_errorPosition qw1550 (c_X12_errorPosition l D A w α 234 mTaped mErr mPpl mBts mUs mRa mSt mKi mWd mVal mLet mFin mNp mNb mOuts mWant mFnd mTape mNum mNam mFst mBnm mW mUn mSl mKp mnNum mnNam mnBo mnBn hB) hK hP hD hE hS (hB 0 _ rfl) rfl rfl rfl hl.1 (Nat.le_of_ble_eq_true rfl) rfl rfl ⟨(Nat.le_of_ble_eq_true rfl), (Nat.le_of_ble_eq_true rfl)⟩ ⟨(Nat.le_of_ble_eq_true rfl), (Nat.le_of_ble_eq_true rfl)⟩ dL_law_356) hS rfl (fun locs hS => ?_)
  have hV3 := hV2
  have hB3 := hB
  obtain ⟨hA, hR3⟩ := ra_errorPosition hR hN
  refine lv_icmp_eq (tgt := 1529) S.1 S.2.1 dL_law_359 (by decide) (fun _ => ?_) (fun z => absurd hA z)
  exact kk _ _ _ (INV.mk hV3 hB3 hR3) hP hD hS
end LC
