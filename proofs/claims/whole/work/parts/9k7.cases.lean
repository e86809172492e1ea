/-! THE LAW: its cases 37 to 43 -/
section LC
variable {D : va_G} {A : Nat → Prop} {α : Nat → Nat} {p : Program} {l : Launch} {e : Env} {m : MethodId} {c : Code} {meth : Method} {below : List Frame} {s : State} {b L N : Nat} {xs : Nat → Int32} {w : va_W} {H : Heap} {locs : List Loc} {ls : Array Slot} {x : Int32} {Q : State → Prop}
variable {P B Qs : Nat} {err pk pst pe tl dnB dnP nB nP day votes isOpen baskets lays recs fneed clos pastN logN hsN hsX txl mTaped mErr mPpl mBts mUs mRa mSt mKi mVal mLet mFin mNp mNb mOuts mWant mFnd : Int32} {tp dnums dbNames dpNames dfBoats nums bNames pNames fBoats boatO seaO faultO daysO backB sailB plc car bnd bsk dyL rsn pastF logF blB blC kpZ tx mTape mNum mNam mFst mBnm mW mUn mSl mKp mnNum mnNam mnBo mnBn : Nat → Int32} {hsF kpF : Nat → StT} {mWd : Int64}
theorem lc_lacks (C : LCtx D A p m c s b L xs) (hP : va_P D vwCl w H) (hD : va_D A w) (hS : va_S A s.heap H locs) (hV : SVW D α w err pk pst pe tp tl dnums dbNames dpNames dfBoats dnB dnP nums bNames pNames fBoats nB nP day votes isOpen baskets lays recs fneed clos boatO seaO faultO daysO backB sailB plc car bnd bsk dyL rsn pastF pastN logF logN blB blC hsN hsX hsF kpF kpZ tx txl) (hB : Blk w 234 (cM D α 234 mTaped mErr mPpl mBts mUs mRa mSt mKi mWd mVal mLet mFin mNp mNb mOuts mWant mFnd mTape mNum mNam mFst mBnm mW mUn mSl mKp mnNum mnNam mnBo mnBn)) (hR : RALL N P B Qs nums bNames pNames fBoats nB nP day votes isOpen baskets lays recs fneed clos boatO seaO faultO daysO backB sailB plc car bnd bsk dyL rsn pastF pastN logF logN hsN hsX hsF kpF kpZ tp tl err txl mTaped mErr mPpl mBts mUs mTape mNum mNam mFst mBnm mW mUn mSl mKp) (hN : N ≤ 600) (hl : lv_has ls 8 [(0, .ref b), (1, .ref (α 0)), (2, .ref (α 234)), (3, .int x)]) (hx : ∀ k : Int32, 1 ≤ k → k ≤ 5 → vp_in (x + k) L) (kk : ∀ (w1 : va_W) (H1 : Heap) (locs1 : List Loc), INV D α (N + 1) w1 → va_P D vwCl w1 H1 → va_D A w1 → va_S A s.heap H1 locs1 → W p l e room_1 s m #[Value.ref b] below meth c H1 locs1 248 12703 Q (F0 m 1529 ls [])) : W p l e room_1 s m #[Value.ref b] below meth c H locs 248 12703 Q (F0 m 1229 ls []) := by
  obtain ⟨S, hK, hE, hX, hbl, hbA⟩ := C
  refine lv_aload_n S.1 S.2.1 dL_law_1229 rfl (lv_at hl 1 rfl) ?_
  refine g_aftR0 (st1 := [.int (f_X11_lacks nums nP day votes isOpen fneed backB plc)]) (g_V (As := []) (rest := []) S mi_X11_lacks qw1166 (c_X11_lacks l D A w α err pk pst pe tp tl dnums dbNames dpNames dfBoats dnB dnP nums bNames pNames fBoats nB nP day votes isOpen baskets lays recs fneed clos boatO seaO faultO daysO backB sailB plc car bnd bsk dyL rsn pastF pastN logF logN blB blC hsN hsX hsF kpF kpZ tx txl hV) hK hP hD hE hS (hV.1 0 _ rfl) rfl rfl rfl hl.1 (Nat.le_of_ble_eq_true rfl) rfl rfl ⟨(Nat.le_of_ble_eq_true rfl), (Nat.le_of_ble_eq_true rfl)⟩ ⟨(Nat.le_of_ble_eq_true rfl), (Nat.le_of_ble_eq_true rfl)⟩ dL_law_1230) hS rfl (fun locs hS => ?_)
  have hV2 := hV
  refine lv_aload_n S.1 S.2.1 dL_law_1233 rfl (lv_at hl 2 rfl) ?_
  refine g_aftR0 (st1 := [.int (f_X12_lacks mPpl mBts mNum mW), .int (f_X11_lacks nums nP day votes isOpen fneed backB plc)]) (g_V (As := []) (rest := [.int (f_X11_lacks nums nP day votes isOpen fneed backB plc)]) S mi_X12_lacks qw1852 (c_X12_lacks l D A w α 234 mTaped mErr mPpl mBts mUs mRa mSt mKi mWd mVal mLet mFin mNp mNb mOuts mWant mFnd mTape mNum mNam mFst mBnm mW mUn mSl mKp mnNum mnNam mnBo mnBn hB (rh_ppl hR) (rh_day0 hR hN) (rh_num hR) (rh_bts hR)) hK hP hD hE hS (hB 0 _ rfl) rfl rfl rfl hl.1 (Nat.le_of_ble_eq_true rfl) rfl rfl ⟨(Nat.le_of_ble_eq_true rfl), (Nat.le_of_ble_eq_true rfl)⟩ ⟨(Nat.le_of_ble_eq_true rfl), (Nat.le_of_ble_eq_true rfl)⟩ dL_law_1234) hS rfl (fun locs hS => ?_)
  have hV3 := hV2
  have hB3 := hB
  obtain ⟨hA, hR3⟩ := ra_lacks hR hN
  refine lv_icmp_eq (tgt := 1529) S.1 S.2.1 dL_law_1237 (by decide) (fun _ => ?_) (fun z => absurd hA z)
  exact kk _ _ _ (INV.mk hV3 hB3 hR3) hP hD hS
theorem lc_needIn (C : LCtx D A p m c s b L xs) (hP : va_P D vwCl w H) (hD : va_D A w) (hS : va_S A s.heap H locs) (hV : SVW D α w err pk pst pe tp tl dnums dbNames dpNames dfBoats dnB dnP nums bNames pNames fBoats nB nP day votes isOpen baskets lays recs fneed clos boatO seaO faultO daysO backB sailB plc car bnd bsk dyL rsn pastF pastN logF logN blB blC hsN hsX hsF kpF kpZ tx txl) (hB : Blk w 234 (cM D α 234 mTaped mErr mPpl mBts mUs mRa mSt mKi mWd mVal mLet mFin mNp mNb mOuts mWant mFnd mTape mNum mNam mFst mBnm mW mUn mSl mKp mnNum mnNam mnBo mnBn)) (hR : RALL N P B Qs nums bNames pNames fBoats nB nP day votes isOpen baskets lays recs fneed clos boatO seaO faultO daysO backB sailB plc car bnd bsk dyL rsn pastF pastN logF logN hsN hsX hsF kpF kpZ tp tl err txl mTaped mErr mPpl mBts mUs mTape mNum mNam mFst mBnm mW mUn mSl mKp) (hN : N ≤ 600) (hl : lv_has ls 8 [(0, .ref b), (1, .ref (α 0)), (2, .ref (α 234)), (3, .int x)]) (hx : ∀ k : Int32, 1 ≤ k → k ≤ 5 → vp_in (x + k) L) (kk : ∀ (w1 : va_W) (H1 : Heap) (locs1 : List Loc), INV D α (N + 1) w1 → va_P D vwCl w1 H1 → va_D A w1 → va_S A s.heap H1 locs1 → W p l e room_1 s m #[Value.ref b] below meth c H1 locs1 248 12703 Q (F0 m 1529 ls [])) : W p l e room_1 s m #[Value.ref b] below meth c H locs 248 12703 Q (F0 m 1242 ls []) := by
  obtain ⟨S, hK, hE, hX, hbl, hbA⟩ := C
  refine lv_aload_n S.1 S.2.1 dL_law_1242 rfl (lv_at hl 1 rfl) ?_
  refine lv_aload_n S.1 S.2.1 dL_law_1243 rfl (lv_at hl 0 rfl) ?_
  refine lv_iload_n S.1 S.2.1 dL_law_1244 rfl (lv_at hl 3 rfl) ?_
  refine lv_iconst (v := 1) S.1 S.2.1 dL_law_1245 (by decide) ?_
  refine lv_iadd S.1 S.2.1 dL_law_1246 ?_
  refine va_sld S.1 S.2.1 hX hbl hbA hS (hx 1 (by decide) (by decide)) dL_law_1247 ?_
  refine g_aftR0 (st1 := [.int (f_X11_needIn nums nP day backB (xs (x + 1).toNatClampNeg))]) (g_V (As := [.int (xs (x + 1).toNatClampNeg)]) (rest := []) S mi_X11_needIn qw1171 (c_X11_needIn l D A w α err pk pst pe tp tl dnums dbNames dpNames dfBoats dnB dnP nums bNames pNames fBoats nB nP day votes isOpen baskets lays recs fneed clos boatO seaO faultO daysO backB sailB plc car bnd bsk dyL rsn pastF pastN logF logN blB blC hsN hsX hsF kpF kpZ tx txl (xs (x + 1).toNatClampNeg) hV) hK hP hD hE hS (hV.1 0 _ rfl) rfl rfl rfl hl.1 (Nat.le_of_ble_eq_true rfl) rfl rfl ⟨(Nat.le_of_ble_eq_true rfl), (Nat.le_of_ble_eq_true rfl)⟩ ⟨(Nat.le_of_ble_eq_true rfl), (Nat.le_of_ble_eq_true rfl)⟩ dL_law_1248) hS rfl (fun locs hS => ?_)
  have hV2 := hV
  refine lv_aload_n S.1 S.2.1 dL_law_1251 rfl (lv_at hl 2 rfl) ?_
  refine lv_aload_n S.1 S.2.1 dL_law_1252 rfl (lv_at hl 0 rfl) ?_
  refine lv_iload_n S.1 S.2.1 dL_law_1253 rfl (lv_at hl 3 rfl) ?_
  refine lv_iconst (v := 1) S.1 S.2.1 dL_law_1254 (by decide) ?_
  refine lv_iadd S.1 S.2.1 dL_law_1255 ?_
  refine va_sld S.1 S.2.1 hX hbl hbA hS (hx 1 (by decide) (by decide)) dL_law_1256 ?_
  refine g_aftR0 (st1 := [.int (f_X12_needIn mPpl mBts mNum mW (xs (x + 1).toNatClampNeg)), .int (f_X11_needIn nums nP day backB (xs (x + 1).toNatClampNeg))]) (g_V (As := [.int (xs (x + 1).toNatClampNeg)]) (rest := [.int (f_X11_needIn nums nP day backB (xs (x + 1).toNatClampNeg))]) S mi_X12_needIn qw1856 (c_X12_needIn l D A w α 234 mTaped mErr mPpl mBts mUs mRa mSt mKi mWd mVal mLet mFin mNp mNb mOuts mWant mFnd mTape mNum mNam mFst mBnm mW mUn mSl mKp mnNum mnNam mnBo mnBn (xs (x + 1).toNatClampNeg) hB (rh_day hR hN) (rh_num hR) (rh_bts hR)) hK hP hD hE hS (hB 0 _ rfl) rfl rfl rfl hl.1 (Nat.le_of_ble_eq_true rfl) rfl rfl ⟨(Nat.le_of_ble_eq_true rfl), (Nat.le_of_ble_eq_true rfl)⟩ ⟨(Nat.le_of_ble_eq_true rfl), (Nat.le_of_ble_eq_true rfl)⟩ dL_law_1257) hS rfl (fun locs hS => ?_)
  have hV3 := hV2
  have hB3 := hB
  obtain ⟨hA, hR3⟩ := ra_needIn hR hN (xs (x + 1).toNatClampNeg)
  refine lv_icmp_eq (tgt := 1529) S.1 S.2.1 dL_law_1260 (by decide) (fun _ => ?_) (fun z => absurd hA z)
  exact kk _ _ _ (INV.mk hV3 hB3 hR3) hP hD hS
theorem lc_bestDay (C : LCtx D A p m c s b L xs) (hP : va_P D vwCl w H) (hD : va_D A w) (hS : va_S A s.heap H locs) (hV : SVW D α w err pk pst pe tp tl dnums dbNames dpNames dfBoats dnB dnP nums bNames pNames fBoats nB nP day votes isOpen baskets lays recs fneed clos boatO seaO faultO daysO backB sailB plc car bnd bsk dyL rsn pastF pastN logF logN blB blC hsN hsX hsF kpF kpZ tx txl) (hB : Blk w 234 (cM D α 234 mTaped mErr mPpl mBts mUs mRa mSt mKi mWd mVal mLet mFin mNp mNb mOuts mWant mFnd mTape mNum mNam mFst mBnm mW mUn mSl mKp mnNum mnNam mnBo mnBn)) (hR : RALL N P B Qs nums bNames pNames fBoats nB nP day votes isOpen baskets lays recs fneed clos boatO seaO faultO daysO backB sailB plc car bnd bsk dyL rsn pastF pastN logF logN hsN hsX hsF kpF kpZ tp tl err txl mTaped mErr mPpl mBts mUs mTape mNum mNam mFst mBnm mW mUn mSl mKp) (hN : N ≤ 600) (hl : lv_has ls 8 [(0, .ref b), (1, .ref (α 0)), (2, .ref (α 234)), (3, .int x)]) (hx : ∀ k : Int32, 1 ≤ k → k ≤ 5 → vp_in (x + k) L) (kk : ∀ (w1 : va_W) (H1 : Heap) (locs1 : List Loc), INV D α (N + 1) w1 → va_P D vwCl w1 H1 → va_D A w1 → va_S A s.heap H1 locs1 → W p l e room_1 s m #[Value.ref b] below meth c H1 locs1 248 12703 Q (F0 m 1529 ls [])) : W p l e room_1 s m #[Value.ref b] below meth c H locs 248 12703 Q (F0 m 1265 ls []) := by
  obtain ⟨S, hK, hE, hX, hbl, hbA⟩ := C
  refine lv_aload_n S.1 S.2.1 dL_law_1265 rfl (lv_at hl 1 rfl) ?_
  refine lv_aload_n S.1 S.2.1 dL_law_1266 rfl (lv_at hl 0 rfl) ?_
  refine lv_iload_n S.1 S.2.1 dL_law_1267 rfl (lv_at hl 3 rfl) ?_
  refine lv_iconst (v := 1) S.1 S.2.1 dL_law_1268 (by decide) ?_
  refine lv_iadd S.1 S.2.1 dL_law_1269 ?_
  refine va_sld S.1 S.2.1 hX hbl hbA hS (hx 1 (by decide) (by decide)) dL_law_1270 ?_
  refine g_aftR0 (st1 := [.int (f_X11_bestDay nums nP day boatO seaO backB (xs (x + 1).toNatClampNeg))]) (g_V (As := [.int (xs (x + 1).toNatClampNeg)]) (rest := []) S mi_X11_bestDay qw1183 (c_X11_bestDay l D A w α err pk pst pe tp tl dnums dbNames dpNames dfBoats dnB dnP nums bNames pNames fBoats nB nP day votes isOpen baskets lays recs fneed clos boatO seaO faultO daysO backB sailB plc car bnd bsk dyL rsn pastF pastN logF logN blB blC hsN hsX hsF kpF kpZ tx txl (xs (x + 1).toNatClampNeg) hV) hK hP hD hE hS (hV.1 0 _ rfl) rfl rfl rfl hl.1 (Nat.le_of_ble_eq_true rfl) rfl rfl ⟨(Nat.le_of_ble_eq_true rfl), (Nat.le_of_ble_eq_true rfl)⟩ ⟨(Nat.le_of_ble_eq_true rfl), (Nat.le_of_ble_eq_true rfl)⟩ dL_law_1271) hS rfl (fun locs hS => ?_)
  have hV2 := hV
  refine lv_aload_n S.1 S.2.1 dL_law_1274 rfl (lv_at hl 2 rfl) ?_
  refine lv_aload_n S.1 S.2.1 dL_law_1275 rfl (lv_at hl 0 rfl) ?_
  refine lv_iload_n S.1 S.2.1 dL_law_1276 rfl (lv_at hl 3 rfl) ?_
  refine lv_iconst (v := 1) S.1 S.2.1 dL_law_1277 (by decide) ?_
  refine lv_iadd S.1 S.2.1 dL_law_1278 ?_
  refine va_sld S.1 S.2.1 hX hbl hbA hS (hx 1 (by decide) (by decide)) dL_law_1279 ?_
  refine g_aftR0 (st1 := [.int (f_X12_bestDay mPpl mBts mNum mW (xs (x + 1).toNatClampNeg)), .int (f_X11_bestDay nums nP day boatO seaO backB (xs (x + 1).toNatClampNeg))]) (g_V (As := [.int (xs (x + 1).toNatClampNeg)]) (rest := [.int (f_X11_bestDay nums nP day boatO seaO backB (xs (x + 1).toNatClampNeg))]) S mi_X12_bestDay qw1861 (c_X12_bestDay l D A w α 234 mTaped mErr mPpl mBts mUs mRa mSt mKi mWd mVal mLet mFin mNp mNb mOuts mWant mFnd mTape mNum mNam mFst mBnm mW mUn mSl mKp mnNum mnNam mnBo mnBn (xs (x + 1).toNatClampNeg) hB (rh_ppl hR) (rh_of1 hR) (rh_day hR hN) (rh_num hR) (rh_bts hR)) hK hP hD hE hS (hB 0 _ rfl) rfl rfl rfl hl.1 (Nat.le_of_ble_eq_true rfl) rfl rfl ⟨(Nat.le_of_ble_eq_true rfl), (Nat.le_of_ble_eq_true rfl)⟩ ⟨(Nat.le_of_ble_eq_true rfl), (Nat.le_of_ble_eq_true rfl)⟩ dL_law_1280) hS rfl (fun locs hS => ?_)
  have hV3 := hV2
  have hB3 := hB
  obtain ⟨hA, hR3⟩ := ra_bestDay hR hN (xs (x + 1).toNatClampNeg)
  refine lv_icmp_eq (tgt := 1529) S.1 S.2.1 dL_law_1283 (by decide) (fun _ => ?_) (fun z => absurd hA z)
  exact kk _ _ _ (INV.mk hV3 hB3 hR3) hP hD hS
theorem lc_mightiest (C : LCtx D A p m c s b L xs) (hP : va_P D vwCl w H) (hD : va_D A w) (hS : va_S A s.heap H locs) (hV : SVW D α w err pk pst pe tp tl dnums dbNames dpNames dfBoats dnB dnP nums bNames pNames fBoats nB nP day votes isOpen baskets lays recs fneed clos boatO seaO faultO daysO backB sailB plc car bnd bsk dyL rsn pastF pastN logF logN blB blC hsN hsX hsF kpF kpZ tx txl) (hB : Blk w 234 (cM D α 234 mTaped mErr mPpl mBts mUs mRa mSt mKi mWd mVal mLet mFin mNp mNb mOuts mWant mFnd mTape mNum mNam mFst mBnm mW mUn mSl mKp mnNum mnNam mnBo mnBn)) (hR : RALL N P B Qs nums bNames pNames fBoats nB nP day votes isOpen baskets lays recs fneed clos boatO seaO faultO daysO backB sailB plc car bnd bsk dyL rsn pastF pastN logF logN hsN hsX hsF kpF kpZ tp tl err txl mTaped mErr mPpl mBts mUs mTape mNum mNam mFst mBnm mW mUn mSl mKp) (hN : N ≤ 600) (hl : lv_has ls 8 [(0, .ref b), (1, .ref (α 0)), (2, .ref (α 234)), (3, .int x)]) (hx : ∀ k : Int32, 1 ≤ k → k ≤ 5 → vp_in (x + k) L) (kk : ∀ (w1 : va_W) (H1 : Heap) (locs1 : List Loc), INV D α (N + 1) w1 → va_P D vwCl w1 H1 → va_D A w1 → va_S A s.heap H1 locs1 → W p l e room_1 s m #[Value.ref b] below meth c H1 locs1 248 12703 Q (F0 m 1529 ls [])) : W p l e room_1 s m #[Value.ref b] below meth c H locs 248 12703 Q (F0 m 1288 ls []) := by
  obtain ⟨S, hK, hE, hX, hbl, hbA⟩ := C
  refine lv_aload_n S.1 S.2.1 dL_law_1288 rfl (lv_at hl 1 rfl) ?_
  refine g_aftR0 (st1 := [.int (f_X11_mightiest nums nP isOpen seaO plc car)]) (g_V (As := []) (rest := []) S mi_X11_mightiest qw1200 (c_X11_mightiest l D A w α err pk pst pe tp tl dnums dbNames dpNames dfBoats dnB dnP nums bNames pNames fBoats nB nP day votes isOpen baskets lays recs fneed clos boatO seaO faultO daysO backB sailB plc car bnd bsk dyL rsn pastF pastN logF logN blB blC hsN hsX hsF kpF kpZ tx txl hV) hK hP hD hE hS (hV.1 0 _ rfl) rfl rfl rfl hl.1 (Nat.le_of_ble_eq_true rfl) rfl rfl ⟨(Nat.le_of_ble_eq_true rfl), (Nat.le_of_ble_eq_true rfl)⟩ ⟨(Nat.le_of_ble_eq_true rfl), (Nat.le_of_ble_eq_true rfl)⟩ dL_law_1289) hS rfl (fun locs hS => ?_)
  have hV2 := hV
  refine lv_aload_n S.1 S.2.1 dL_law_1292 rfl (lv_at hl 2 rfl) ?_
  refine g_aftR0 (st1 := [.int (f_X12_mightiest mPpl mNum mW), .int (f_X11_mightiest nums nP isOpen seaO plc car)]) (g_V (As := []) (rest := [.int (f_X11_mightiest nums nP isOpen seaO plc car)]) S mi_X12_mightiest qw1869 (c_X12_mightiest l D A w α 234 mTaped mErr mPpl mBts mUs mRa mSt mKi mWd mVal mLet mFin mNp mNb mOuts mWant mFnd mTape mNum mNam mFst mBnm mW mUn mSl mKp mnNum mnNam mnBo mnBn hB (rh_ppl hR)) hK hP hD hE hS (hB 0 _ rfl) rfl rfl rfl hl.1 (Nat.le_of_ble_eq_true rfl) rfl rfl ⟨(Nat.le_of_ble_eq_true rfl), (Nat.le_of_ble_eq_true rfl)⟩ ⟨(Nat.le_of_ble_eq_true rfl), (Nat.le_of_ble_eq_true rfl)⟩ dL_law_1293) hS rfl (fun locs hS => ?_)
  have hV3 := hV2
  have hB3 := hB
  obtain ⟨hA, hR3⟩ := ra_mightiest hR hN
  refine lv_icmp_eq (tgt := 1529) S.1 S.2.1 dL_law_1296 (by decide) (fun _ => ?_) (fun z => absurd hA z)
  exact kk _ _ _ (INV.mk hV3 hB3 hR3) hP hD hS
theorem lc_agrees (C : LCtx D A p m c s b L xs) (hP : va_P D vwCl w H) (hD : va_D A w) (hS : va_S A s.heap H locs) (hV : SVW D α w err pk pst pe tp tl dnums dbNames dpNames dfBoats dnB dnP nums bNames pNames fBoats nB nP day votes isOpen baskets lays recs fneed clos boatO seaO faultO daysO backB sailB plc car bnd bsk dyL rsn pastF pastN logF logN blB blC hsN hsX hsF kpF kpZ tx txl) (hB : Blk w 234 (cM D α 234 mTaped mErr mPpl mBts mUs mRa mSt mKi mWd mVal mLet mFin mNp mNb mOuts mWant mFnd mTape mNum mNam mFst mBnm mW mUn mSl mKp mnNum mnNam mnBo mnBn)) (hR : RALL N P B Qs nums bNames pNames fBoats nB nP day votes isOpen baskets lays recs fneed clos boatO seaO faultO daysO backB sailB plc car bnd bsk dyL rsn pastF pastN logF logN hsN hsX hsF kpF kpZ tp tl err txl mTaped mErr mPpl mBts mUs mTape mNum mNam mFst mBnm mW mUn mSl mKp) (hN : N ≤ 600) (hl : lv_has ls 8 [(0, .ref b), (1, .ref (α 0)), (2, .ref (α 234)), (3, .int x)]) (hx : ∀ k : Int32, 1 ≤ k → k ≤ 5 → vp_in (x + k) L) (kk : ∀ (w1 : va_W) (H1 : Heap) (locs1 : List Loc), INV D α (N + 1) w1 → va_P D vwCl w1 H1 → va_D A w1 → va_S A s.heap H1 locs1 → W p l e room_1 s m #[Value.ref b] below meth c H1 locs1 248 12703 Q (F0 m 1529 ls [])) : W p l e room_1 s m #[Value.ref b] below meth c H locs 248 12703 Q (F0 m 1301 ls []) := by
  obtain ⟨S, hK, hE, hX, hbl, hbA⟩ := C
  refine lv_aload_n S.1 S.2.1 dL_law_1301 rfl (lv_at hl 1 rfl) ?_
  refine g_aftR0 (st1 := [.int (b2i (f_X11_agrees lays plc))]) (g_V (As := []) (rest := []) S mi_X11_agrees qw1214 (c_X11_agrees l D A w α err pk pst pe tp tl dnums dbNames dpNames dfBoats dnB dnP nums bNames pNames fBoats nB nP day votes isOpen baskets lays recs fneed clos boatO seaO faultO daysO backB sailB plc car bnd bsk dyL rsn pastF pastN logF logN blB blC hsN hsX hsF kpF kpZ tx txl hV) hK hP hD hE hS (hV.1 0 _ rfl) rfl rfl rfl hl.1 (Nat.le_of_ble_eq_true rfl) rfl rfl ⟨(Nat.le_of_ble_eq_true rfl), (Nat.le_of_ble_eq_true rfl)⟩ ⟨(Nat.le_of_ble_eq_true rfl), (Nat.le_of_ble_eq_true rfl)⟩ dL_law_1302) hS rfl (fun locs hS => ?_)
  have hV2 := hV
  refine lv_aload_n S.1 S.2.1 dL_law_1305 rfl (lv_at hl 2 rfl) ?_
  refine g_aftR0 (st1 := [.int (b2i (f_X12_agrees mPpl mW)), .int (b2i (f_X11_agrees lays plc))]) (g_V (As := []) (rest := [.int (b2i (f_X11_agrees lays plc))]) S mi_X12_agrees qw1877 (c_X12_agrees l D A w α 234 mTaped mErr mPpl mBts mUs mRa mSt mKi mWd mVal mLet mFin mNp mNb mOuts mWant mFnd mTape mNum mNam mFst mBnm mW mUn mSl mKp mnNum mnNam mnBo mnBn hB (rh_ppl hR)) hK hP hD hE hS (hB 0 _ rfl) rfl rfl rfl hl.1 (Nat.le_of_ble_eq_true rfl) rfl rfl ⟨(Nat.le_of_ble_eq_true rfl), (Nat.le_of_ble_eq_true rfl)⟩ ⟨(Nat.le_of_ble_eq_true rfl), (Nat.le_of_ble_eq_true rfl)⟩ dL_law_1306) hS rfl (fun locs hS => ?_)
  have hV3 := hV2
  have hB3 := hB
  obtain ⟨hA, hR3⟩ := ra_agrees hR hN
  refine lv_icmp_eq (tgt := 1529) S.1 S.2.1 dL_law_1309 (by decide) (fun _ => ?_) (fun z => absurd hA z)
  exact kk _ _ _ (INV.mk hV3 hB3 hR3) hP hD hS
theorem lc_share (C : LCtx D A p m c s b L xs) (hP : va_P D vwCl w H) (hD : va_D A w) (hS : va_S A s.heap H locs) (hV : SVW D α w err pk pst pe tp tl dnums dbNames dpNames dfBoats dnB dnP nums bNames pNames fBoats nB nP day votes isOpen baskets lays recs fneed clos boatO seaO faultO daysO backB sailB plc car bnd bsk dyL rsn pastF pastN logF logN blB blC hsN hsX hsF kpF kpZ tx txl) (hB : Blk w 234 (cM D α 234 mTaped mErr mPpl mBts mUs mRa mSt mKi mWd mVal mLet mFin mNp mNb mOuts mWant mFnd mTape mNum mNam mFst mBnm mW mUn mSl mKp mnNum mnNam mnBo mnBn)) (hR : RALL N P B Qs nums bNames pNames fBoats nB nP day votes isOpen baskets lays recs fneed clos boatO seaO faultO daysO backB sailB plc car bnd bsk dyL rsn pastF pastN logF logN hsN hsX hsF kpF kpZ tp tl err txl mTaped mErr mPpl mBts mUs mTape mNum mNam mFst mBnm mW mUn mSl mKp) (hN : N ≤ 600) (hl : lv_has ls 8 [(0, .ref b), (1, .ref (α 0)), (2, .ref (α 234)), (3, .int x)]) (hx : ∀ k : Int32, 1 ≤ k → k ≤ 5 → vp_in (x + k) L) (kk : ∀ (d1 : Drawn) (w1 : va_W) (H1 : Heap) (locs1 : List Loc) (ls1 : Array Slot), s.drawn.sameBut d1 lw_cs → INV D α (N + 1) w1 → va_P D vwCl w1 H1 → va_D A w1 → va_S A s.heap H1 locs1 → lv_has ls1 8 [(0, .ref b), (1, .ref (α 0)), (2, .ref (α 234)), (3, .int x)] → W p l e room_1 (s.setDrawn d1) m #[Value.ref b] below meth c H1 locs1 248 12703 Q (F0 m 1529 ls1 [])) : W p l e room_1 s m #[Value.ref b] below meth c H locs 248 12703 Q (F0 m 1314 ls []) := by
  obtain ⟨S, hK, hE, hX, hbl, hbA⟩ := C
  have C0 : LCtx D A p m c s b L xs := ⟨S, hK, hE, hX, hbl, hbA⟩
  refine lv_aload_n S.1 S.2.1 dL_law_1314 rfl (lv_at hl 1 rfl) ?_
  refine lv_aload_n S.1 S.2.1 dL_law_1315 rfl (lv_at hl 0 rfl) ?_
  refine lv_iload_n S.1 S.2.1 dL_law_1316 rfl (lv_at hl 3 rfl) ?_
  refine lv_iconst (v := 1) S.1 S.2.1 dL_law_1317 (by decide) ?_
  refine lv_iadd S.1 S.2.1 dL_law_1318 ?_
  refine va_sld S.1 S.2.1 hX hbl hbA hS (hx 1 (by decide) (by decide)) dL_law_1319 ?_
  refine g_aftF (rest := []) (g_VD (As := [.int (xs (x + 1).toNatClampNeg)]) (rest := []) S mi_X11_share qw1218 (c_X11_share l D A w α err pk pst pe tp tl dnums dbNames dpNames dfBoats dnB dnP nums bNames pNames fBoats nB nP day votes isOpen baskets lays recs fneed clos boatO seaO faultO daysO backB sailB plc car bnd bsk dyL rsn pastF pastN logF logN blB blC hsN hsX hsF kpF kpZ tx txl (xs (x + 1).toNatClampNeg) hV) hK hP hD hE hS (hV.1 0 _ rfl) rfl rfl rfl hl.1 (Nat.le_of_ble_eq_true rfl) rfl rfl ⟨(Nat.le_of_ble_eq_true rfl), (Nat.le_of_ble_eq_true rfl)⟩ ⟨(Nat.le_of_ble_eq_true rfl), (Nat.le_of_ble_eq_true rfl)⟩ dL_law_1320) hS (fun r1 locs d1 al1 hS hd1 => ?_)
  have hds1 : s.drawn.sameBut d1 lw_cs := hd1
  refine lv_f2d_any (s := s) hds1 lw_bits S.1 S.2.1 dL_law_1323 (fun p1 e1 be1 hde1 => ?_)
  refine lv_dstore (lv' := [(4, .double p1), (0, .ref b), (1, .ref (α 0)), (2, .ref (α 234)), (3, .int x)]) S.1 S.2.1 dL_law_1324 hl (by decide) rfl (fun ls hl => ?_)
  have hdsA : s.drawn.sameBut e1 lw_cs := hde1
  obtain ⟨S, hK, hE, hX, hbl, hbA⟩ := C0.drawn e1
  refine lv_aload_n S.1 S.2.1 dL_law_1326 rfl (lv_at hl 3 rfl) ?_
  refine lv_aload_n S.1 S.2.1 dL_law_1327 rfl (lv_at hl 1 rfl) ?_
  refine lv_iload_n S.1 S.2.1 dL_law_1328 rfl (lv_at hl 4 rfl) ?_
  refine lv_iconst (v := 1) S.1 S.2.1 dL_law_1329 (by decide) ?_
  refine lv_iadd S.1 S.2.1 dL_law_1330 ?_
  refine va_sld S.1 S.2.1 hX hbl hbA hS (hx 1 (by decide) (by decide)) dL_law_1331 ?_
  refine g_aftF (rest := []) (g_VD (As := [.int (xs (x + 1).toNatClampNeg)]) (rest := []) S mi_X12_share qw1881 (c_X12_share l D A w α 234 mTaped mErr mPpl mBts mUs mRa mSt mKi mWd mVal mLet mFin mNp mNb mOuts mWant mFnd mTape mNum mNam mFst mBnm mW mUn mSl mKp mnNum mnNam mnBo mnBn (xs (x + 1).toNatClampNeg) hB (rh_ppl hR)) hK hP hD hE hS (hB 0 _ rfl) rfl rfl rfl hl.1 (Nat.le_of_ble_eq_true rfl) rfl rfl ⟨(Nat.le_of_ble_eq_true rfl), (Nat.le_of_ble_eq_true rfl)⟩ ⟨(Nat.le_of_ble_eq_true rfl), (Nat.le_of_ble_eq_true rfl)⟩ dL_law_1332) hS (fun r2 locs d2 al2 hS hd2 => ?_)
  have hds2 : s.drawn.sameBut d2 lw_cs := hdsA.trans hd2
  refine lv_f2d_any (s := s) hds2 lw_bits S.1 S.2.1 dL_law_1335 (fun p2 e2 be2 hde2 => ?_)
  refine lv_dstore (lv' := [(6, .double p2), (4, .double p1), (0, .ref b), (1, .ref (α 0)), (2, .ref (α 234)), (3, .int x)]) S.1 S.2.1 dL_law_1336 hl (by decide) rfl (fun ls hl => ?_)
  have hdsB : s.drawn.sameBut e2 lw_cs := hde2
  have hk : alk64 p1 p2 := alk_f2d al1 (by rw [eq_share hR.2.1 hR.1]; exact al2) be1 be2
  have hlo := lv_sub hl (l' := [(0, .ref b), (1, .ref (α 0)), (2, .ref (α 234)), (3, .int x)]) [2, 3, 4, 5] rfl
  refine lv_dload S.1 S.2.1 dL_law_1338 (lv_at hl 1 rfl) ?_
  refine lv_dload S.1 S.2.1 dL_law_1340 (lv_at hl 0 rfl) ?_
  refine lv_dcmp S.1 S.2.1 dL_law_1342 ?_
  rcases law_d hk with q | ⟨q1, q2⟩
  · refine lv_if_eq (tgt := 1364) S.1 S.2.1 dL_law_1343 (by decide) (fun _ => ?_) (fun z => absurd q z)
    refine lv_goto (tgt := 1529) S.1 S.2.1 dL_law_1364 (by decide) ?_
    exact kk e2 _ _ _ _ hdsB (INV.mk hV hB hR.next) hP hD hS hlo
  · refine lv_if_eq (tgt := 1364) S.1 S.2.1 dL_law_1343 (by decide) (fun _ => ?_) (fun _ => ?_)
    · refine lv_goto (tgt := 1529) S.1 S.2.1 dL_law_1364 (by decide) ?_
      exact kk e2 _ _ _ _ hdsB (INV.mk hV hB hR.next) hP hD hS hlo
    · skip
      refine lv_dload S.1 S.2.1 dL_law_1346 (lv_at hl 1 rfl) ?_
      refine lv_dload S.1 S.2.1 dL_law_1348 (lv_at hl 1 rfl) ?_
      refine lv_dcmp S.1 S.2.1 dL_law_1350 ?_
      refine lv_if_eq (tgt := 1362) S.1 S.2.1 dL_law_1351 (by decide) (fun z => absurd z q1) (fun _ => ?_)
      refine lv_dload S.1 S.2.1 dL_law_1354 (lv_at hl 0 rfl) ?_
      refine lv_dload S.1 S.2.1 dL_law_1356 (lv_at hl 0 rfl) ?_
      refine lv_dcmp S.1 S.2.1 dL_law_1358 ?_
      refine lv_if_ne (tgt := 1364) S.1 S.2.1 dL_law_1359 (by decide) (fun _ => ?_) (fun z => absurd z q2)
      refine lv_goto (tgt := 1529) S.1 S.2.1 dL_law_1364 (by decide) ?_
      exact kk e2 _ _ _ _ hdsB (INV.mk hV hB hR.next) hP hD hS hlo
theorem lc_seafaring (C : LCtx D A p m c s b L xs) (hP : va_P D vwCl w H) (hD : va_D A w) (hS : va_S A s.heap H locs) (hV : SVW D α w err pk pst pe tp tl dnums dbNames dpNames dfBoats dnB dnP nums bNames pNames fBoats nB nP day votes isOpen baskets lays recs fneed clos boatO seaO faultO daysO backB sailB plc car bnd bsk dyL rsn pastF pastN logF logN blB blC hsN hsX hsF kpF kpZ tx txl) (hB : Blk w 234 (cM D α 234 mTaped mErr mPpl mBts mUs mRa mSt mKi mWd mVal mLet mFin mNp mNb mOuts mWant mFnd mTape mNum mNam mFst mBnm mW mUn mSl mKp mnNum mnNam mnBo mnBn)) (hR : RALL N P B Qs nums bNames pNames fBoats nB nP day votes isOpen baskets lays recs fneed clos boatO seaO faultO daysO backB sailB plc car bnd bsk dyL rsn pastF pastN logF logN hsN hsX hsF kpF kpZ tp tl err txl mTaped mErr mPpl mBts mUs mTape mNum mNam mFst mBnm mW mUn mSl mKp) (hN : N ≤ 600) (hl : lv_has ls 8 [(0, .ref b), (1, .ref (α 0)), (2, .ref (α 234)), (3, .int x)]) (hx : ∀ k : Int32, 1 ≤ k → k ≤ 5 → vp_in (x + k) L) (kk : ∀ (d1 : Drawn) (w1 : va_W) (H1 : Heap) (locs1 : List Loc) (ls1 : Array Slot), s.drawn.sameBut d1 lw_cs → INV D α (N + 1) w1 → va_P D vwCl w1 H1 → va_D A w1 → va_S A s.heap H1 locs1 → lv_has ls1 8 [(0, .ref b), (1, .ref (α 0)), (2, .ref (α 234)), (3, .int x)] → W p l e room_1 (s.setDrawn d1) m #[Value.ref b] below meth c H1 locs1 248 12703 Q (F0 m 1529 ls1 [])) : W p l e room_1 s m #[Value.ref b] below meth c H locs 248 12703 Q (F0 m 1367 ls []) := by
  obtain ⟨S, hK, hE, hX, hbl, hbA⟩ := C
  have C0 : LCtx D A p m c s b L xs := ⟨S, hK, hE, hX, hbl, hbA⟩
  refine lv_aload_n S.1 S.2.1 dL_law_1367 rfl (lv_at hl 1 rfl) ?_
  refine g_aftDb (rest := []) (g_VD (As := []) (rest := []) S mi_X11_seafaring qw1223 (c_X11_seafaring l D A w α err pk pst pe tp tl dnums dbNames dpNames dfBoats dnB dnP nums bNames pNames fBoats nB nP day votes isOpen baskets lays recs fneed clos boatO seaO faultO daysO backB sailB plc car bnd bsk dyL rsn pastF pastN logF logN blB blC hsN hsX hsF kpF kpZ tx txl hV) hK hP hD hE hS (hV.1 0 _ rfl) rfl rfl rfl hl.1 (Nat.le_of_ble_eq_true rfl) rfl rfl ⟨(Nat.le_of_ble_eq_true rfl), (Nat.le_of_ble_eq_true rfl)⟩ ⟨(Nat.le_of_ble_eq_true rfl), (Nat.le_of_ble_eq_true rfl)⟩ dL_law_1368) hS (fun r1 locs d1 al1 hS hd1 => ?_)
  have hds1 : s.drawn.sameBut d1 lw_cs := hd1
  refine lv_dstore (lv' := [(4, .double r1), (0, .ref b), (1, .ref (α 0)), (2, .ref (α 234)), (3, .int x)]) S.1 S.2.1 dL_law_1371 hl (by decide) rfl (fun ls hl => ?_)
  have hdsA : s.drawn.sameBut d1 lw_cs := hds1
  obtain ⟨S, hK, hE, hX, hbl, hbA⟩ := C0.drawn d1
  refine lv_aload_n S.1 S.2.1 dL_law_1373 rfl (lv_at hl 3 rfl) ?_
  refine g_aftDb (rest := []) (g_VD (As := []) (rest := []) S mi_X12_seafaring qw1886 (c_X12_seafaring l D A w α 234 mTaped mErr mPpl mBts mUs mRa mSt mKi mWd mVal mLet mFin mNp mNb mOuts mWant mFnd mTape mNum mNam mFst mBnm mW mUn mSl mKp mnNum mnNam mnBo mnBn hB (rh_ppl hR)) hK hP hD hE hS (hB 0 _ rfl) rfl rfl rfl hl.1 (Nat.le_of_ble_eq_true rfl) rfl rfl ⟨(Nat.le_of_ble_eq_true rfl), (Nat.le_of_ble_eq_true rfl)⟩ ⟨(Nat.le_of_ble_eq_true rfl), (Nat.le_of_ble_eq_true rfl)⟩ dL_law_1374) hS (fun r2 locs d2 al2 hS hd2 => ?_)
  have hds2 : s.drawn.sameBut d2 lw_cs := hdsA.trans hd2
  refine lv_dstore (lv' := [(6, .double r2), (4, .double r1), (0, .ref b), (1, .ref (α 0)), (2, .ref (α 234)), (3, .int x)]) S.1 S.2.1 dL_law_1377 hl (by decide) rfl (fun ls hl => ?_)
  have hdsB : s.drawn.sameBut d2 lw_cs := hds2
  have hk : alk64 r1 r2 := alk64_of al1 (by rw [eq_seafaring hR.2.1 hR.1 hN]; exact al2)
  have hlo := lv_sub hl (l' := [(0, .ref b), (1, .ref (α 0)), (2, .ref (α 234)), (3, .int x)]) [2, 3, 4, 5] rfl
  refine lv_dload S.1 S.2.1 dL_law_1379 (lv_at hl 1 rfl) ?_
  refine lv_dload S.1 S.2.1 dL_law_1381 (lv_at hl 0 rfl) ?_
  refine lv_dcmp S.1 S.2.1 dL_law_1383 ?_
  rcases law_d hk with q | ⟨q1, q2⟩
  · refine lv_if_eq (tgt := 1405) S.1 S.2.1 dL_law_1384 (by decide) (fun _ => ?_) (fun z => absurd q z)
    refine lv_goto (tgt := 1529) S.1 S.2.1 dL_law_1405 (by decide) ?_
    exact kk d2 _ _ _ _ hdsB (INV.mk hV hB hR.next) hP hD hS hlo
  · refine lv_if_eq (tgt := 1405) S.1 S.2.1 dL_law_1384 (by decide) (fun _ => ?_) (fun _ => ?_)
    · refine lv_goto (tgt := 1529) S.1 S.2.1 dL_law_1405 (by decide) ?_
      exact kk d2 _ _ _ _ hdsB (INV.mk hV hB hR.next) hP hD hS hlo
    · skip
      refine lv_dload S.1 S.2.1 dL_law_1387 (lv_at hl 1 rfl) ?_
      refine lv_dload S.1 S.2.1 dL_law_1389 (lv_at hl 1 rfl) ?_
      refine lv_dcmp S.1 S.2.1 dL_law_1391 ?_
      refine lv_if_eq (tgt := 1403) S.1 S.2.1 dL_law_1392 (by decide) (fun z => absurd z q1) (fun _ => ?_)
      refine lv_dload S.1 S.2.1 dL_law_1395 (lv_at hl 0 rfl) ?_
      refine lv_dload S.1 S.2.1 dL_law_1397 (lv_at hl 0 rfl) ?_
      refine lv_dcmp S.1 S.2.1 dL_law_1399 ?_
      refine lv_if_ne (tgt := 1405) S.1 S.2.1 dL_law_1400 (by decide) (fun _ => ?_) (fun z => absurd z q2)
      refine lv_goto (tgt := 1529) S.1 S.2.1 dL_law_1405 (by decide) ?_
      exact kk d2 _ _ _ _ hdsB (INV.mk hV hB hR.next) hP hD hS hlo
end LC
