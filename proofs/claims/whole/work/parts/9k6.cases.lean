/-! THE LAW: its cases 28 to 36 -/
section LC
variable {D : va_G} {A : Nat → Prop} {α : Nat → Nat} {p : Program} {l : Launch} {e : Env} {m : MethodId} {c : Code} {meth : Method} {below : List Frame} {s : State} {b L N : Nat} {xs : Nat → Int32} {w : va_W} {H : Heap} {locs : List Loc} {ls : Array Slot} {x : Int32} {Q : State → Prop}
variable {P B Qs : Nat} {err pk pst pe tl dnB dnP nB nP day votes isOpen baskets lays recs fneed clos pastN logN hsN hsX txl mTaped mErr mPpl mBts mUs mRa mSt mKi mVal mLet mFin mNp mNb mOuts mWant mFnd : Int32} {tp dnums dbNames dpNames dfBoats nums bNames pNames fBoats boatO seaO faultO daysO backB sailB plc car bnd bsk dyL rsn pastF logF blB blC kpZ tx mTape mNum mNam mFst mBnm mW mUn mSl mKp mnNum mnNam mnBo mnBn : Nat → Int32} {hsF kpF : Nat → StT} {mWd : Int64}
theorem lc_owners (C : LCtx D A p m c s b L xs) (hP : va_P D vwCl w H) (hD : va_D A w) (hS : va_S A s.heap H locs) (hV : SVW D α w err pk pst pe tp tl dnums dbNames dpNames dfBoats dnB dnP nums bNames pNames fBoats nB nP day votes isOpen baskets lays recs fneed clos boatO seaO faultO daysO backB sailB plc car bnd bsk dyL rsn pastF pastN logF logN blB blC hsN hsX hsF kpF kpZ tx txl) (hB : Blk w 234 (cM D α 234 mTaped mErr mPpl mBts mUs mRa mSt mKi mWd mVal mLet mFin mNp mNb mOuts mWant mFnd mTape mNum mNam mFst mBnm mW mUn mSl mKp mnNum mnNam mnBo mnBn)) (hR : RALL N P B Qs nums bNames pNames fBoats nB nP day votes isOpen baskets lays recs fneed clos boatO seaO faultO daysO backB sailB plc car bnd bsk dyL rsn pastF pastN logF logN hsN hsX hsF kpF kpZ tp tl err txl mTaped mErr mPpl mBts mUs mTape mNum mNam mFst mBnm mW mUn mSl mKp) (hN : N ≤ 600) (hl : lv_has ls 8 [(0, .ref b), (1, .ref (α 0)), (2, .ref (α 234)), (3, .int x)]) (hx : ∀ k : Int32, 1 ≤ k → k ≤ 5 → vp_in (x + k) L) (kk : ∀ (w1 : va_W) (H1 : Heap) (locs1 : List Loc), INV D α (N + 1) w1 → va_P D vwCl w1 H1 → va_D A w1 → va_S A s.heap H1 locs1 → W p l e room_1 s m #[Value.ref b] below meth c H1 locs1 248 12703 Q (F0 m 1529 ls [])) : W p l e room_1 s m #[Value.ref b] below meth c H locs 248 12703 Q (F0 m 1042 ls []) := by
  obtain ⟨S, hK, hE, hX, hbl, hbA⟩ := C
  refine lv_aload_n S.1 S.2.1 dL_law_1042 rfl (lv_at hl 1 rfl) ?_
  refine lv_aload_n S.1 S.2.1 dL_law_1043 rfl (lv_at hl 0 rfl) ?_
  refine lv_iload_n S.1 S.2.1 dL_law_1044 rfl (lv_at hl 3 rfl) ?_
  refine lv_iconst (v := 1) S.1 S.2.1 dL_law_1045 (by decide) ?_
  refine lv_iadd S.1 S.2.1 dL_law_1046 ?_
  refine va_sld S.1 S.2.1 hX hbl hbA hS (hx 1 (by decide) (by decide)) dL_law_1047 ?_
  refine g_aftR0 (st1 := [.int (f_X11_owners plc bsk (xs (x + 1).toNatClampNeg))]) (g_V (As := [.int (xs (x + 1).toNatClampNeg)]) (rest := []) S mi_X11_owners qw1100 (c_X11_owners l D A w α err pk pst pe tp tl dnums dbNames dpNames dfBoats dnB dnP nums bNames pNames fBoats nB nP day votes isOpen baskets lays recs fneed clos boatO seaO faultO daysO backB sailB plc car bnd bsk dyL rsn pastF pastN logF logN blB blC hsN hsX hsF kpF kpZ tx txl (xs (x + 1).toNatClampNeg) hV) hK hP hD hE hS (hV.1 0 _ rfl) rfl rfl rfl hl.1 (Nat.le_of_ble_eq_true rfl) rfl rfl ⟨(Nat.le_of_ble_eq_true rfl), (Nat.le_of_ble_eq_true rfl)⟩ ⟨(Nat.le_of_ble_eq_true rfl), (Nat.le_of_ble_eq_true rfl)⟩ dL_law_1048) hS rfl (fun locs hS => ?_)
  have hV2 := hV
  refine lv_aload_n S.1 S.2.1 dL_law_1051 rfl (lv_at hl 2 rfl) ?_
  refine lv_aload_n S.1 S.2.1 dL_law_1052 rfl (lv_at hl 0 rfl) ?_
  refine lv_iload_n S.1 S.2.1 dL_law_1053 rfl (lv_at hl 3 rfl) ?_
  refine lv_iconst (v := 1) S.1 S.2.1 dL_law_1054 (by decide) ?_
  refine lv_iadd S.1 S.2.1 dL_law_1055 ?_
  refine va_sld S.1 S.2.1 hX hbl hbA hS (hx 1 (by decide) (by decide)) dL_law_1056 ?_
  refine g_aftR0 (st1 := [.int (f_X12_owners mPpl mW (xs (x + 1).toNatClampNeg)), .int (f_X11_owners plc bsk (xs (x + 1).toNatClampNeg))]) (g_V (As := [.int (xs (x + 1).toNatClampNeg)]) (rest := [.int (f_X11_owners plc bsk (xs (x + 1).toNatClampNeg))]) S mi_X12_owners qw1812 (c_X12_owners l D A w α 234 mTaped mErr mPpl mBts mUs mRa mSt mKi mWd mVal mLet mFin mNp mNb mOuts mWant mFnd mTape mNum mNam mFst mBnm mW mUn mSl mKp mnNum mnNam mnBo mnBn (xs (x + 1).toNatClampNeg) hB (rh_ppl hR)) hK hP hD hE hS (hB 0 _ rfl) rfl rfl rfl hl.1 (Nat.le_of_ble_eq_true rfl) rfl rfl ⟨(Nat.le_of_ble_eq_true rfl), (Nat.le_of_ble_eq_true rfl)⟩ ⟨(Nat.le_of_ble_eq_true rfl), (Nat.le_of_ble_eq_true rfl)⟩ dL_law_1057) hS rfl (fun locs hS => ?_)
  have hV3 := hV2
  have hB3 := hB
  obtain ⟨hA, hR3⟩ := ra_owners hR hN (xs (x + 1).toNatClampNeg)
  refine lv_icmp_eq (tgt := 1529) S.1 S.2.1 dL_law_1060 (by decide) (fun _ => ?_) (fun z => absurd hA z)
  exact kk _ _ _ (INV.mk hV3 hB3 hR3) hP hD hS
theorem lc_carries (C : LCtx D A p m c s b L xs) (hP : va_P D vwCl w H) (hD : va_D A w) (hS : va_S A s.heap H locs) (hV : SVW D α w err pk pst pe tp tl dnums dbNames dpNames dfBoats dnB dnP nums bNames pNames fBoats nB nP day votes isOpen baskets lays recs fneed clos boatO seaO faultO daysO backB sailB plc car bnd bsk dyL rsn pastF pastN logF logN blB blC hsN hsX hsF kpF kpZ tx txl) (hB : Blk w 234 (cM D α 234 mTaped mErr mPpl mBts mUs mRa mSt mKi mWd mVal mLet mFin mNp mNb mOuts mWant mFnd mTape mNum mNam mFst mBnm mW mUn mSl mKp mnNum mnNam mnBo mnBn)) (hR : RALL N P B Qs nums bNames pNames fBoats nB nP day votes isOpen baskets lays recs fneed clos boatO seaO faultO daysO backB sailB plc car bnd bsk dyL rsn pastF pastN logF logN hsN hsX hsF kpF kpZ tp tl err txl mTaped mErr mPpl mBts mUs mTape mNum mNam mFst mBnm mW mUn mSl mKp) (hN : N ≤ 600) (hl : lv_has ls 8 [(0, .ref b), (1, .ref (α 0)), (2, .ref (α 234)), (3, .int x)]) (hx : ∀ k : Int32, 1 ≤ k → k ≤ 5 → vp_in (x + k) L) (kk : ∀ (w1 : va_W) (H1 : Heap) (locs1 : List Loc), INV D α (N + 1) w1 → va_P D vwCl w1 H1 → va_D A w1 → va_S A s.heap H1 locs1 → W p l e room_1 s m #[Value.ref b] below meth c H1 locs1 248 12703 Q (F0 m 1529 ls [])) : W p l e room_1 s m #[Value.ref b] below meth c H locs 248 12703 Q (F0 m 1065 ls []) := by
  obtain ⟨S, hK, hE, hX, hbl, hbA⟩ := C
  refine lv_aload_n S.1 S.2.1 dL_law_1065 rfl (lv_at hl 1 rfl) ?_
  refine lv_aload_n S.1 S.2.1 dL_law_1066 rfl (lv_at hl 0 rfl) ?_
  refine lv_iload_n S.1 S.2.1 dL_law_1067 rfl (lv_at hl 3 rfl) ?_
  refine lv_iconst (v := 1) S.1 S.2.1 dL_law_1068 (by decide) ?_
  refine lv_iadd S.1 S.2.1 dL_law_1069 ?_
  refine va_sld S.1 S.2.1 hX hbl hbA hS (hx 1 (by decide) (by decide)) dL_law_1070 ?_
  refine g_aftR0 (st1 := [.int (f_X11_carries nP plc car (xs (x + 1).toNatClampNeg))]) (g_V (As := [.int (xs (x + 1).toNatClampNeg)]) (rest := []) S mi_X11_carries qw1105 (c_X11_carries l D A w α err pk pst pe tp tl dnums dbNames dpNames dfBoats dnB dnP nums bNames pNames fBoats nB nP day votes isOpen baskets lays recs fneed clos boatO seaO faultO daysO backB sailB plc car bnd bsk dyL rsn pastF pastN logF logN blB blC hsN hsX hsF kpF kpZ tx txl (xs (x + 1).toNatClampNeg) hV) hK hP hD hE hS (hV.1 0 _ rfl) rfl rfl rfl hl.1 (Nat.le_of_ble_eq_true rfl) rfl rfl ⟨(Nat.le_of_ble_eq_true rfl), (Nat.le_of_ble_eq_true rfl)⟩ ⟨(Nat.le_of_ble_eq_true rfl), (Nat.le_of_ble_eq_true rfl)⟩ dL_law_1071) hS rfl (fun locs hS => ?_)
  have hV2 := hV
  refine lv_aload_n S.1 S.2.1 dL_law_1074 rfl (lv_at hl 2 rfl) ?_
  refine lv_aload_n S.1 S.2.1 dL_law_1075 rfl (lv_at hl 0 rfl) ?_
  refine lv_iload_n S.1 S.2.1 dL_law_1076 rfl (lv_at hl 3 rfl) ?_
  refine lv_iconst (v := 1) S.1 S.2.1 dL_law_1077 (by decide) ?_
  refine lv_iadd S.1 S.2.1 dL_law_1078 ?_
  refine va_sld S.1 S.2.1 hX hbl hbA hS (hx 1 (by decide) (by decide)) dL_law_1079 ?_
  refine g_aftR0 (st1 := [.int (f_X12_carries mPpl mW (xs (x + 1).toNatClampNeg)), .int (f_X11_carries nP plc car (xs (x + 1).toNatClampNeg))]) (g_V (As := [.int (xs (x + 1).toNatClampNeg)]) (rest := [.int (f_X11_carries nP plc car (xs (x + 1).toNatClampNeg))]) S mi_X12_carries qw1816 (c_X12_carries l D A w α 234 mTaped mErr mPpl mBts mUs mRa mSt mKi mWd mVal mLet mFin mNp mNb mOuts mWant mFnd mTape mNum mNam mFst mBnm mW mUn mSl mKp mnNum mnNam mnBo mnBn (xs (x + 1).toNatClampNeg) hB (rh_ppl hR)) hK hP hD hE hS (hB 0 _ rfl) rfl rfl rfl hl.1 (Nat.le_of_ble_eq_true rfl) rfl rfl ⟨(Nat.le_of_ble_eq_true rfl), (Nat.le_of_ble_eq_true rfl)⟩ ⟨(Nat.le_of_ble_eq_true rfl), (Nat.le_of_ble_eq_true rfl)⟩ dL_law_1080) hS rfl (fun locs hS => ?_)
  have hV3 := hV2
  have hB3 := hB
  obtain ⟨hA, hR3⟩ := ra_carries hR hN (xs (x + 1).toNatClampNeg)
  refine lv_icmp_eq (tgt := 1529) S.1 S.2.1 dL_law_1083 (by decide) (fun _ => ?_) (fun z => absurd hA z)
  exact kk _ _ _ (INV.mk hV3 hB3 hR3) hP hD hS
theorem lc_wrongOnes (C : LCtx D A p m c s b L xs) (hP : va_P D vwCl w H) (hD : va_D A w) (hS : va_S A s.heap H locs) (hV : SVW D α w err pk pst pe tp tl dnums dbNames dpNames dfBoats dnB dnP nums bNames pNames fBoats nB nP day votes isOpen baskets lays recs fneed clos boatO seaO faultO daysO backB sailB plc car bnd bsk dyL rsn pastF pastN logF logN blB blC hsN hsX hsF kpF kpZ tx txl) (hB : Blk w 234 (cM D α 234 mTaped mErr mPpl mBts mUs mRa mSt mKi mWd mVal mLet mFin mNp mNb mOuts mWant mFnd mTape mNum mNam mFst mBnm mW mUn mSl mKp mnNum mnNam mnBo mnBn)) (hR : RALL N P B Qs nums bNames pNames fBoats nB nP day votes isOpen baskets lays recs fneed clos boatO seaO faultO daysO backB sailB plc car bnd bsk dyL rsn pastF pastN logF logN hsN hsX hsF kpF kpZ tp tl err txl mTaped mErr mPpl mBts mUs mTape mNum mNam mFst mBnm mW mUn mSl mKp) (hN : N ≤ 600) (hl : lv_has ls 8 [(0, .ref b), (1, .ref (α 0)), (2, .ref (α 234)), (3, .int x)]) (hx : ∀ k : Int32, 1 ≤ k → k ≤ 5 → vp_in (x + k) L) (kk : ∀ (w1 : va_W) (H1 : Heap) (locs1 : List Loc), INV D α (N + 1) w1 → va_P D vwCl w1 H1 → va_D A w1 → va_S A s.heap H1 locs1 → W p l e room_1 s m #[Value.ref b] below meth c H1 locs1 248 12703 Q (F0 m 1529 ls [])) : W p l e room_1 s m #[Value.ref b] below meth c H locs 248 12703 Q (F0 m 1088 ls []) := by
  obtain ⟨S, hK, hE, hX, hbl, hbA⟩ := C
  refine lv_aload_n S.1 S.2.1 dL_law_1088 rfl (lv_at hl 1 rfl) ?_
  refine g_aftR0 (st1 := [.int (f_X11_wrongOnes plc rsn)]) (g_V (As := []) (rest := []) S mi_X11_wrongOnes qw1109 (c_X11_wrongOnes l D A w α err pk pst pe tp tl dnums dbNames dpNames dfBoats dnB dnP nums bNames pNames fBoats nB nP day votes isOpen baskets lays recs fneed clos boatO seaO faultO daysO backB sailB plc car bnd bsk dyL rsn pastF pastN logF logN blB blC hsN hsX hsF kpF kpZ tx txl hV) hK hP hD hE hS (hV.1 0 _ rfl) rfl rfl rfl hl.1 (Nat.le_of_ble_eq_true rfl) rfl rfl ⟨(Nat.le_of_ble_eq_true rfl), (Nat.le_of_ble_eq_true rfl)⟩ ⟨(Nat.le_of_ble_eq_true rfl), (Nat.le_of_ble_eq_true rfl)⟩ dL_law_1089) hS rfl (fun locs hS => ?_)
  have hV2 := hV
  refine lv_aload_n S.1 S.2.1 dL_law_1092 rfl (lv_at hl 2 rfl) ?_
  refine g_aftR0 (st1 := [.int (f_X12_wrongOnes mPpl mW), .int (f_X11_wrongOnes plc rsn)]) (g_V (As := []) (rest := [.int (f_X11_wrongOnes plc rsn)]) S mi_X12_wrongOnes qw1820 (c_X12_wrongOnes l D A w α 234 mTaped mErr mPpl mBts mUs mRa mSt mKi mWd mVal mLet mFin mNp mNb mOuts mWant mFnd mTape mNum mNam mFst mBnm mW mUn mSl mKp mnNum mnNam mnBo mnBn hB (rh_ppl hR)) hK hP hD hE hS (hB 0 _ rfl) rfl rfl rfl hl.1 (Nat.le_of_ble_eq_true rfl) rfl rfl ⟨(Nat.le_of_ble_eq_true rfl), (Nat.le_of_ble_eq_true rfl)⟩ ⟨(Nat.le_of_ble_eq_true rfl), (Nat.le_of_ble_eq_true rfl)⟩ dL_law_1093) hS rfl (fun locs hS => ?_)
  have hV3 := hV2
  have hB3 := hB
  obtain ⟨hA, hR3⟩ := ra_wrongOnes hR hN
  refine lv_icmp_eq (tgt := 1529) S.1 S.2.1 dL_law_1096 (by decide) (fun _ => ?_) (fun z => absurd hA z)
  exact kk _ _ _ (INV.mk hV3 hB3 hR3) hP hD hS
theorem lc_why (C : LCtx D A p m c s b L xs) (hP : va_P D vwCl w H) (hD : va_D A w) (hS : va_S A s.heap H locs) (hV : SVW D α w err pk pst pe tp tl dnums dbNames dpNames dfBoats dnB dnP nums bNames pNames fBoats nB nP day votes isOpen baskets lays recs fneed clos boatO seaO faultO daysO backB sailB plc car bnd bsk dyL rsn pastF pastN logF logN blB blC hsN hsX hsF kpF kpZ tx txl) (hB : Blk w 234 (cM D α 234 mTaped mErr mPpl mBts mUs mRa mSt mKi mWd mVal mLet mFin mNp mNb mOuts mWant mFnd mTape mNum mNam mFst mBnm mW mUn mSl mKp mnNum mnNam mnBo mnBn)) (hR : RALL N P B Qs nums bNames pNames fBoats nB nP day votes isOpen baskets lays recs fneed clos boatO seaO faultO daysO backB sailB plc car bnd bsk dyL rsn pastF pastN logF logN hsN hsX hsF kpF kpZ tp tl err txl mTaped mErr mPpl mBts mUs mTape mNum mNam mFst mBnm mW mUn mSl mKp) (hN : N ≤ 600) (hl : lv_has ls 8 [(0, .ref b), (1, .ref (α 0)), (2, .ref (α 234)), (3, .int x)]) (hx : ∀ k : Int32, 1 ≤ k → k ≤ 5 → vp_in (x + k) L) (kk : ∀ (w1 : va_W) (H1 : Heap) (locs1 : List Loc), INV D α (N + 1) w1 → va_P D vwCl w1 H1 → va_D A w1 → va_S A s.heap H1 locs1 → W p l e room_1 s m #[Value.ref b] below meth c H1 locs1 248 12703 Q (F0 m 1529 ls [])) : W p l e room_1 s m #[Value.ref b] below meth c H locs 248 12703 Q (F0 m 1101 ls []) := by
  obtain ⟨S, hK, hE, hX, hbl, hbA⟩ := C
  refine lv_aload_n S.1 S.2.1 dL_law_1101 rfl (lv_at hl 1 rfl) ?_
  refine lv_aload_n S.1 S.2.1 dL_law_1102 rfl (lv_at hl 0 rfl) ?_
  refine lv_iload_n S.1 S.2.1 dL_law_1103 rfl (lv_at hl 3 rfl) ?_
  refine lv_iconst (v := 1) S.1 S.2.1 dL_law_1104 (by decide) ?_
  refine lv_iadd S.1 S.2.1 dL_law_1105 ?_
  refine va_sld S.1 S.2.1 hX hbl hbA hS (hx 1 (by decide) (by decide)) dL_law_1106 ?_
  refine lv_aload_n S.1 S.2.1 dL_law_1107 rfl (lv_at hl 0 rfl) ?_
  refine lv_iload_n S.1 S.2.1 dL_law_1108 rfl (lv_at hl 3 rfl) ?_
  refine lv_iconst (v := 2) S.1 S.2.1 dL_law_1109 (by decide) ?_
  refine lv_iadd S.1 S.2.1 dL_law_1110 ?_
  refine va_sld S.1 S.2.1 hX hbl hbA hS (hx 2 (by decide) (by decide)) dL_law_1111 ?_
  refine lv_aload_n S.1 S.2.1 dL_law_1112 rfl (lv_at hl 0 rfl) ?_
  refine lv_iload_n S.1 S.2.1 dL_law_1113 rfl (lv_at hl 3 rfl) ?_
  refine lv_iconst (v := 3) S.1 S.2.1 dL_law_1114 (by decide) ?_
  refine lv_iadd S.1 S.2.1 dL_law_1115 ?_
  refine va_sld S.1 S.2.1 hX hbl hbA hS (hx 3 (by decide) (by decide)) dL_law_1116 ?_
  refine g_aftR0 (st1 := [.int (f_X11_why nums nP isOpen baskets seaO plc car bnd (xs (x + 1).toNatClampNeg) (xs (x + 2).toNatClampNeg) (xs (x + 3).toNatClampNeg))]) (g_V (As := [.int (xs (x + 1).toNatClampNeg), .int (xs (x + 2).toNatClampNeg), .int (xs (x + 3).toNatClampNeg)]) (rest := []) S mi_X11_why qw1113 (c_X11_why l D A w α err pk pst pe tp tl dnums dbNames dpNames dfBoats dnB dnP nums bNames pNames fBoats nB nP day votes isOpen baskets lays recs fneed clos boatO seaO faultO daysO backB sailB plc car bnd bsk dyL rsn pastF pastN logF logN blB blC hsN hsX hsF kpF kpZ tx txl (xs (x + 1).toNatClampNeg) (xs (x + 2).toNatClampNeg) (xs (x + 3).toNatClampNeg) hV) hK hP hD hE hS (hV.1 0 _ rfl) rfl rfl rfl hl.1 (Nat.le_of_ble_eq_true rfl) rfl rfl ⟨(Nat.le_of_ble_eq_true rfl), (Nat.le_of_ble_eq_true rfl)⟩ ⟨(Nat.le_of_ble_eq_true rfl), (Nat.le_of_ble_eq_true rfl)⟩ dL_law_1117) hS rfl (fun locs hS => ?_)
  have hV2 := hV
  refine lv_aload_n S.1 S.2.1 dL_law_1120 rfl (lv_at hl 2 rfl) ?_
  refine lv_aload_n S.1 S.2.1 dL_law_1121 rfl (lv_at hl 0 rfl) ?_
  refine lv_iload_n S.1 S.2.1 dL_law_1122 rfl (lv_at hl 3 rfl) ?_
  refine lv_iconst (v := 1) S.1 S.2.1 dL_law_1123 (by decide) ?_
  refine lv_iadd S.1 S.2.1 dL_law_1124 ?_
  refine va_sld S.1 S.2.1 hX hbl hbA hS (hx 1 (by decide) (by decide)) dL_law_1125 ?_
  refine lv_aload_n S.1 S.2.1 dL_law_1126 rfl (lv_at hl 0 rfl) ?_
  refine lv_iload_n S.1 S.2.1 dL_law_1127 rfl (lv_at hl 3 rfl) ?_
  refine lv_iconst (v := 2) S.1 S.2.1 dL_law_1128 (by decide) ?_
  refine lv_iadd S.1 S.2.1 dL_law_1129 ?_
  refine va_sld S.1 S.2.1 hX hbl hbA hS (hx 2 (by decide) (by decide)) dL_law_1130 ?_
  refine lv_aload_n S.1 S.2.1 dL_law_1131 rfl (lv_at hl 0 rfl) ?_
  refine lv_iload_n S.1 S.2.1 dL_law_1132 rfl (lv_at hl 3 rfl) ?_
  refine lv_iconst (v := 3) S.1 S.2.1 dL_law_1133 (by decide) ?_
  refine lv_iadd S.1 S.2.1 dL_law_1134 ?_
  refine va_sld S.1 S.2.1 hX hbl hbA hS (hx 3 (by decide) (by decide)) dL_law_1135 ?_
  refine g_aftR0 (st1 := [.int (f_X12_why mPpl mNum mW (xs (x + 1).toNatClampNeg) (xs (x + 2).toNatClampNeg) (xs (x + 3).toNatClampNeg)), .int (f_X11_why nums nP isOpen baskets seaO plc car bnd (xs (x + 1).toNatClampNeg) (xs (x + 2).toNatClampNeg) (xs (x + 3).toNatClampNeg))]) (g_V (As := [.int (xs (x + 1).toNatClampNeg), .int (xs (x + 2).toNatClampNeg), .int (xs (x + 3).toNatClampNeg)]) (rest := [.int (f_X11_why nums nP isOpen baskets seaO plc car bnd (xs (x + 1).toNatClampNeg) (xs (x + 2).toNatClampNeg) (xs (x + 3).toNatClampNeg))]) S mi_X12_why qw1824 (c_X12_why l D A w α 234 mTaped mErr mPpl mBts mUs mRa mSt mKi mWd mVal mLet mFin mNp mNb mOuts mWant mFnd mTape mNum mNam mFst mBnm mW mUn mSl mKp mnNum mnNam mnBo mnBn (xs (x + 1).toNatClampNeg) (xs (x + 2).toNatClampNeg) (xs (x + 3).toNatClampNeg) hB (rh_ppl hR)) hK hP hD hE hS (hB 0 _ rfl) rfl rfl rfl hl.1 (Nat.le_of_ble_eq_true rfl) rfl rfl ⟨(Nat.le_of_ble_eq_true rfl), (Nat.le_of_ble_eq_true rfl)⟩ ⟨(Nat.le_of_ble_eq_true rfl), (Nat.le_of_ble_eq_true rfl)⟩ dL_law_1136) hS rfl (fun locs hS => ?_)
  have hV3 := hV2
  have hB3 := hB
  obtain ⟨hA, hR3⟩ := ra_why hR hN (xs (x + 1).toNatClampNeg) (xs (x + 2).toNatClampNeg) (xs (x + 3).toNatClampNeg)
  refine lv_icmp_eq (tgt := 1529) S.1 S.2.1 dL_law_1139 (by decide) (fun _ => ?_) (fun z => absurd hA z)
  exact kk _ _ _ (INV.mk hV3 hB3 hR3) hP hD hS
theorem lc_needIfHome (C : LCtx D A p m c s b L xs) (hP : va_P D vwCl w H) (hD : va_D A w) (hS : va_S A s.heap H locs) (hV : SVW D α w err pk pst pe tp tl dnums dbNames dpNames dfBoats dnB dnP nums bNames pNames fBoats nB nP day votes isOpen baskets lays recs fneed clos boatO seaO faultO daysO backB sailB plc car bnd bsk dyL rsn pastF pastN logF logN blB blC hsN hsX hsF kpF kpZ tx txl) (hB : Blk w 234 (cM D α 234 mTaped mErr mPpl mBts mUs mRa mSt mKi mWd mVal mLet mFin mNp mNb mOuts mWant mFnd mTape mNum mNam mFst mBnm mW mUn mSl mKp mnNum mnNam mnBo mnBn)) (hR : RALL N P B Qs nums bNames pNames fBoats nB nP day votes isOpen baskets lays recs fneed clos boatO seaO faultO daysO backB sailB plc car bnd bsk dyL rsn pastF pastN logF logN hsN hsX hsF kpF kpZ tp tl err txl mTaped mErr mPpl mBts mUs mTape mNum mNam mFst mBnm mW mUn mSl mKp) (hN : N ≤ 600) (hl : lv_has ls 8 [(0, .ref b), (1, .ref (α 0)), (2, .ref (α 234)), (3, .int x)]) (hx : ∀ k : Int32, 1 ≤ k → k ≤ 5 → vp_in (x + k) L) (kk : ∀ (w1 : va_W) (H1 : Heap) (locs1 : List Loc), INV D α (N + 1) w1 → va_P D vwCl w1 H1 → va_D A w1 → va_S A s.heap H1 locs1 → W p l e room_1 s m #[Value.ref b] below meth c H1 locs1 248 12703 Q (F0 m 1529 ls [])) : W p l e room_1 s m #[Value.ref b] below meth c H locs 248 12703 Q (F0 m 1144 ls []) := by
  obtain ⟨S, hK, hE, hX, hbl, hbA⟩ := C
  refine lv_aload_n S.1 S.2.1 dL_law_1144 rfl (lv_at hl 1 rfl) ?_
  refine lv_aload_n S.1 S.2.1 dL_law_1145 rfl (lv_at hl 0 rfl) ?_
  refine lv_iload_n S.1 S.2.1 dL_law_1146 rfl (lv_at hl 3 rfl) ?_
  refine lv_iconst (v := 1) S.1 S.2.1 dL_law_1147 (by decide) ?_
  refine lv_iadd S.1 S.2.1 dL_law_1148 ?_
  refine va_sld S.1 S.2.1 hX hbl hbA hS (hx 1 (by decide) (by decide)) dL_law_1149 ?_
  refine g_aftR0 (st1 := [.int (f_X11_needIfHome nums nB nP day backB (xs (x + 1).toNatClampNeg))]) (g_V (As := [.int (xs (x + 1).toNatClampNeg)]) (rest := []) S mi_X11_needIfHome qw1118 (c_X11_needIfHome l D A w α err pk pst pe tp tl dnums dbNames dpNames dfBoats dnB dnP nums bNames pNames fBoats nB nP day votes isOpen baskets lays recs fneed clos boatO seaO faultO daysO backB sailB plc car bnd bsk dyL rsn pastF pastN logF logN blB blC hsN hsX hsF kpF kpZ tx txl (xs (x + 1).toNatClampNeg) hV) hK hP hD hE hS (hV.1 0 _ rfl) rfl rfl rfl hl.1 (Nat.le_of_ble_eq_true rfl) rfl rfl ⟨(Nat.le_of_ble_eq_true rfl), (Nat.le_of_ble_eq_true rfl)⟩ ⟨(Nat.le_of_ble_eq_true rfl), (Nat.le_of_ble_eq_true rfl)⟩ dL_law_1150) hS rfl (fun locs hS => ?_)
  have hV2 := hV
  refine lv_aload_n S.1 S.2.1 dL_law_1153 rfl (lv_at hl 2 rfl) ?_
  refine lv_aload_n S.1 S.2.1 dL_law_1154 rfl (lv_at hl 0 rfl) ?_
  refine lv_iload_n S.1 S.2.1 dL_law_1155 rfl (lv_at hl 3 rfl) ?_
  refine lv_iconst (v := 1) S.1 S.2.1 dL_law_1156 (by decide) ?_
  refine lv_iadd S.1 S.2.1 dL_law_1157 ?_
  refine va_sld S.1 S.2.1 hX hbl hbA hS (hx 1 (by decide) (by decide)) dL_law_1158 ?_
  refine g_aftR0 (st1 := [.int (f_X12_needIfHome mPpl mBts mNum mW (xs (x + 1).toNatClampNeg)), .int (f_X11_needIfHome nums nB nP day backB (xs (x + 1).toNatClampNeg))]) (g_V (As := [.int (xs (x + 1).toNatClampNeg)]) (rest := [.int (f_X11_needIfHome nums nB nP day backB (xs (x + 1).toNatClampNeg))]) S mi_X12_needIfHome qw1828 (c_X12_needIfHome l D A w α 234 mTaped mErr mPpl mBts mUs mRa mSt mKi mWd mVal mLet mFin mNp mNb mOuts mWant mFnd mTape mNum mNam mFst mBnm mW mUn mSl mKp mnNum mnNam mnBo mnBn (xs (x + 1).toNatClampNeg) hB (rh_ppl hR) (rh_day0 hR hN) (rh_num hR) (rh_bts hR)) hK hP hD hE hS (hB 0 _ rfl) rfl rfl rfl hl.1 (Nat.le_of_ble_eq_true rfl) rfl rfl ⟨(Nat.le_of_ble_eq_true rfl), (Nat.le_of_ble_eq_true rfl)⟩ ⟨(Nat.le_of_ble_eq_true rfl), (Nat.le_of_ble_eq_true rfl)⟩ dL_law_1159) hS rfl (fun locs hS => ?_)
  have hV3 := hV2
  have hB3 := hB
  obtain ⟨hA, hR3⟩ := ra_needIfHome hR hN (xs (x + 1).toNatClampNeg)
  refine lv_icmp_eq (tgt := 1529) S.1 S.2.1 dL_law_1162 (by decide) (fun _ => ?_) (fun z => absurd hA z)
  exact kk _ _ _ (INV.mk hV3 hB3 hR3) hP hD hS
theorem lc_leads (C : LCtx D A p m c s b L xs) (hP : va_P D vwCl w H) (hD : va_D A w) (hS : va_S A s.heap H locs) (hV : SVW D α w err pk pst pe tp tl dnums dbNames dpNames dfBoats dnB dnP nums bNames pNames fBoats nB nP day votes isOpen baskets lays recs fneed clos boatO seaO faultO daysO backB sailB plc car bnd bsk dyL rsn pastF pastN logF logN blB blC hsN hsX hsF kpF kpZ tx txl) (hB : Blk w 234 (cM D α 234 mTaped mErr mPpl mBts mUs mRa mSt mKi mWd mVal mLet mFin mNp mNb mOuts mWant mFnd mTape mNum mNam mFst mBnm mW mUn mSl mKp mnNum mnNam mnBo mnBn)) (hR : RALL N P B Qs nums bNames pNames fBoats nB nP day votes isOpen baskets lays recs fneed clos boatO seaO faultO daysO backB sailB plc car bnd bsk dyL rsn pastF pastN logF logN hsN hsX hsF kpF kpZ tp tl err txl mTaped mErr mPpl mBts mUs mTape mNum mNam mFst mBnm mW mUn mSl mKp) (hN : N ≤ 600) (hl : lv_has ls 8 [(0, .ref b), (1, .ref (α 0)), (2, .ref (α 234)), (3, .int x)]) (hx : ∀ k : Int32, 1 ≤ k → k ≤ 5 → vp_in (x + k) L) (kk : ∀ (w1 : va_W) (H1 : Heap) (locs1 : List Loc), INV D α (N + 1) w1 → va_P D vwCl w1 H1 → va_D A w1 → va_S A s.heap H1 locs1 → W p l e room_1 s m #[Value.ref b] below meth c H1 locs1 248 12703 Q (F0 m 1529 ls [])) : W p l e room_1 s m #[Value.ref b] below meth c H locs 248 12703 Q (F0 m 1167 ls []) := by
  obtain ⟨S, hK, hE, hX, hbl, hbA⟩ := C
  refine lv_aload_n S.1 S.2.1 dL_law_1167 rfl (lv_at hl 1 rfl) ?_
  refine g_aft0 (st1 := [.int (f_X11_leads nums nP day votes isOpen fneed backB plc bsk blB blC).1]) (g_V (As := []) (rest := []) S mi_X11_leads qw1123 (c_X11_leads l D A w α err pk pst pe tp tl dnums dbNames dpNames dfBoats dnB dnP nums bNames pNames fBoats nB nP day votes isOpen baskets lays recs fneed clos boatO seaO faultO daysO backB sailB plc car bnd bsk dyL rsn pastF pastN logF logN blB blC hsN hsX hsF kpF kpZ tx txl hV) hK hP hD hE hS (hV.1 0 _ rfl) rfl rfl rfl hl.1 (Nat.le_of_ble_eq_true rfl) rfl rfl ⟨(Nat.le_of_ble_eq_true rfl), (Nat.le_of_ble_eq_true rfl)⟩ ⟨(Nat.le_of_ble_eq_true rfl), (Nat.le_of_ble_eq_true rfl)⟩ dL_law_1168) hS rfl (fun w1 H locs hQ hP hD hS => ?_)
  have hB := hB.other hQ.2 (Or.inr (by decide))
  have hV2 := hQ.1
  refine lv_aload_n S.1 S.2.1 dL_law_1171 rfl (lv_at hl 2 rfl) ?_
  refine g_aftR0 (st1 := [.int (f_X12_leads mPpl mBts mNum mW), .int (f_X11_leads nums nP day votes isOpen fneed backB plc bsk blB blC).1]) (g_V (As := []) (rest := [.int (f_X11_leads nums nP day votes isOpen fneed backB plc bsk blB blC).1]) S mi_X12_leads qw1832 (c_X12_leads l D A w1 α 234 mTaped mErr mPpl mBts mUs mRa mSt mKi mWd mVal mLet mFin mNp mNb mOuts mWant mFnd mTape mNum mNam mFst mBnm mW mUn mSl mKp mnNum mnNam mnBo mnBn hB (rh_ppl hR) (rh_day0 hR hN) (rh_num hR) (rh_bts hR)) hK hP hD hE hS (hB 0 _ rfl) rfl rfl rfl hl.1 (Nat.le_of_ble_eq_true rfl) rfl rfl ⟨(Nat.le_of_ble_eq_true rfl), (Nat.le_of_ble_eq_true rfl)⟩ ⟨(Nat.le_of_ble_eq_true rfl), (Nat.le_of_ble_eq_true rfl)⟩ dL_law_1172) hS rfl (fun locs hS => ?_)
  have hV3 := hV2
  have hB3 := hB
  obtain ⟨hA, hR3⟩ := ra_leads hR hN
  refine lv_icmp_eq (tgt := 1529) S.1 S.2.1 dL_law_1175 (by decide) (fun _ => ?_) (fun z => absurd hA z)
  exact kk _ _ _ (INV.mk hV3 hB3 hR3) hP hD hS
theorem lc_truly (C : LCtx D A p m c s b L xs) (hP : va_P D vwCl w H) (hD : va_D A w) (hS : va_S A s.heap H locs) (hV : SVW D α w err pk pst pe tp tl dnums dbNames dpNames dfBoats dnB dnP nums bNames pNames fBoats nB nP day votes isOpen baskets lays recs fneed clos boatO seaO faultO daysO backB sailB plc car bnd bsk dyL rsn pastF pastN logF logN blB blC hsN hsX hsF kpF kpZ tx txl) (hB : Blk w 234 (cM D α 234 mTaped mErr mPpl mBts mUs mRa mSt mKi mWd mVal mLet mFin mNp mNb mOuts mWant mFnd mTape mNum mNam mFst mBnm mW mUn mSl mKp mnNum mnNam mnBo mnBn)) (hR : RALL N P B Qs nums bNames pNames fBoats nB nP day votes isOpen baskets lays recs fneed clos boatO seaO faultO daysO backB sailB plc car bnd bsk dyL rsn pastF pastN logF logN hsN hsX hsF kpF kpZ tp tl err txl mTaped mErr mPpl mBts mUs mTape mNum mNam mFst mBnm mW mUn mSl mKp) (hN : N ≤ 600) (hl : lv_has ls 8 [(0, .ref b), (1, .ref (α 0)), (2, .ref (α 234)), (3, .int x)]) (hx : ∀ k : Int32, 1 ≤ k → k ≤ 5 → vp_in (x + k) L) (kk : ∀ (w1 : va_W) (H1 : Heap) (locs1 : List Loc), INV D α (N + 1) w1 → va_P D vwCl w1 H1 → va_D A w1 → va_S A s.heap H1 locs1 → W p l e room_1 s m #[Value.ref b] below meth c H1 locs1 248 12703 Q (F0 m 1529 ls [])) : W p l e room_1 s m #[Value.ref b] below meth c H locs 248 12703 Q (F0 m 1180 ls []) := by
  obtain ⟨S, hK, hE, hX, hbl, hbA⟩ := C
  refine lv_aload_n S.1 S.2.1 dL_law_1180 rfl (lv_at hl 1 rfl) ?_
  refine g_aft0 (st1 := [.int (f_X11_truly nums nP day votes isOpen fneed clos backB plc bsk rsn blB blC).1]) (g_V (As := []) (rest := []) S mi_X11_truly qw1127 (c_X11_truly l D A w α err pk pst pe tp tl dnums dbNames dpNames dfBoats dnB dnP nums bNames pNames fBoats nB nP day votes isOpen baskets lays recs fneed clos boatO seaO faultO daysO backB sailB plc car bnd bsk dyL rsn pastF pastN logF logN blB blC hsN hsX hsF kpF kpZ tx txl hV) hK hP hD hE hS (hV.1 0 _ rfl) rfl rfl rfl hl.1 (Nat.le_of_ble_eq_true rfl) rfl rfl ⟨(Nat.le_of_ble_eq_true rfl), (Nat.le_of_ble_eq_true rfl)⟩ ⟨(Nat.le_of_ble_eq_true rfl), (Nat.le_of_ble_eq_true rfl)⟩ dL_law_1181) hS rfl (fun w1 H locs hQ hP hD hS => ?_)
  have hB := hB.other hQ.2 (Or.inr (by decide))
  have hV2 := hQ.1
  refine lv_aload_n S.1 S.2.1 dL_law_1184 rfl (lv_at hl 2 rfl) ?_
  refine g_aftR0 (st1 := [.int (f_X12_truly mPpl mBts mNum mW), .int (f_X11_truly nums nP day votes isOpen fneed clos backB plc bsk rsn blB blC).1]) (g_V (As := []) (rest := [.int (f_X11_truly nums nP day votes isOpen fneed clos backB plc bsk rsn blB blC).1]) S mi_X12_truly qw1836 (c_X12_truly l D A w1 α 234 mTaped mErr mPpl mBts mUs mRa mSt mKi mWd mVal mLet mFin mNp mNb mOuts mWant mFnd mTape mNum mNam mFst mBnm mW mUn mSl mKp mnNum mnNam mnBo mnBn hB (rh_ppl hR) (rh_day0 hR hN) (rh_num hR) (rh_bts hR)) hK hP hD hE hS (hB 0 _ rfl) rfl rfl rfl hl.1 (Nat.le_of_ble_eq_true rfl) rfl rfl ⟨(Nat.le_of_ble_eq_true rfl), (Nat.le_of_ble_eq_true rfl)⟩ ⟨(Nat.le_of_ble_eq_true rfl), (Nat.le_of_ble_eq_true rfl)⟩ dL_law_1185) hS rfl (fun locs hS => ?_)
  have hV3 := hV2
  have hB3 := hB
  obtain ⟨hA, hR3⟩ := ra_truly hR hN
  refine lv_icmp_eq (tgt := 1529) S.1 S.2.1 dL_law_1188 (by decide) (fun _ => ?_) (fun z => absurd hA z)
  exact kk _ _ _ (INV.mk hV3 hB3 hR3) hP hD hS
theorem lc_canWin (C : LCtx D A p m c s b L xs) (hP : va_P D vwCl w H) (hD : va_D A w) (hS : va_S A s.heap H locs) (hV : SVW D α w err pk pst pe tp tl dnums dbNames dpNames dfBoats dnB dnP nums bNames pNames fBoats nB nP day votes isOpen baskets lays recs fneed clos boatO seaO faultO daysO backB sailB plc car bnd bsk dyL rsn pastF pastN logF logN blB blC hsN hsX hsF kpF kpZ tx txl) (hB : Blk w 234 (cM D α 234 mTaped mErr mPpl mBts mUs mRa mSt mKi mWd mVal mLet mFin mNp mNb mOuts mWant mFnd mTape mNum mNam mFst mBnm mW mUn mSl mKp mnNum mnNam mnBo mnBn)) (hR : RALL N P B Qs nums bNames pNames fBoats nB nP day votes isOpen baskets lays recs fneed clos boatO seaO faultO daysO backB sailB plc car bnd bsk dyL rsn pastF pastN logF logN hsN hsX hsF kpF kpZ tp tl err txl mTaped mErr mPpl mBts mUs mTape mNum mNam mFst mBnm mW mUn mSl mKp) (hN : N ≤ 600) (hl : lv_has ls 8 [(0, .ref b), (1, .ref (α 0)), (2, .ref (α 234)), (3, .int x)]) (hx : ∀ k : Int32, 1 ≤ k → k ≤ 5 → vp_in (x + k) L) (kk : ∀ (w1 : va_W) (H1 : Heap) (locs1 : List Loc), INV D α (N + 1) w1 → va_P D vwCl w1 H1 → va_D A w1 → va_S A s.heap H1 locs1 → W p l e room_1 s m #[Value.ref b] below meth c H1 locs1 248 12703 Q (F0 m 1529 ls [])) : W p l e room_1 s m #[Value.ref b] below meth c H locs 248 12703 Q (F0 m 1193 ls []) := by
  obtain ⟨S, hK, hE, hX, hbl, hbA⟩ := C
  refine lv_aload_n S.1 S.2.1 dL_law_1193 rfl (lv_at hl 1 rfl) ?_
  refine lv_aload_n S.1 S.2.1 dL_law_1194 rfl (lv_at hl 0 rfl) ?_
  refine lv_iload_n S.1 S.2.1 dL_law_1195 rfl (lv_at hl 3 rfl) ?_
  refine lv_iconst (v := 1) S.1 S.2.1 dL_law_1196 (by decide) ?_
  refine lv_iadd S.1 S.2.1 dL_law_1197 ?_
  refine va_sld S.1 S.2.1 hX hbl hbA hS (hx 1 (by decide) (by decide)) dL_law_1198 ?_
  refine g_aft0 (st1 := [.int (b2i (f_X11_canWin nums nP day votes isOpen baskets fneed seaO backB plc car bsk blB blC (xs (x + 1).toNatClampNeg)).1)]) (g_V (As := [.int (xs (x + 1).toNatClampNeg)]) (rest := []) S mi_X11_canWin qw1139 (c_X11_canWin l D A w α err pk pst pe tp tl dnums dbNames dpNames dfBoats dnB dnP nums bNames pNames fBoats nB nP day votes isOpen baskets lays recs fneed clos boatO seaO faultO daysO backB sailB plc car bnd bsk dyL rsn pastF pastN logF logN blB blC hsN hsX hsF kpF kpZ tx txl (xs (x + 1).toNatClampNeg) hV) hK hP hD hE hS (hV.1 0 _ rfl) rfl rfl rfl hl.1 (Nat.le_of_ble_eq_true rfl) rfl rfl ⟨(Nat.le_of_ble_eq_true rfl), (Nat.le_of_ble_eq_true rfl)⟩ ⟨(Nat.le_of_ble_eq_true rfl), (Nat.le_of_ble_eq_true rfl)⟩ dL_law_1199) hS rfl (fun w1 H locs hQ hP hD hS => ?_)
  have hB := hB.other hQ.2 (Or.inr (by decide))
  have hV2 := hQ.1
  refine lv_aload_n S.1 S.2.1 dL_law_1202 rfl (lv_at hl 2 rfl) ?_
  refine lv_aload_n S.1 S.2.1 dL_law_1203 rfl (lv_at hl 0 rfl) ?_
  refine lv_iload_n S.1 S.2.1 dL_law_1204 rfl (lv_at hl 3 rfl) ?_
  refine lv_iconst (v := 1) S.1 S.2.1 dL_law_1205 (by decide) ?_
  refine lv_iadd S.1 S.2.1 dL_law_1206 ?_
  refine va_sld S.1 S.2.1 hX hbl hbA hS (hx 1 (by decide) (by decide)) dL_law_1207 ?_
  refine g_aftR0 (st1 := [.int (b2i (f_X12_canWin mPpl mBts mNum mW (xs (x + 1).toNatClampNeg))), .int (b2i (f_X11_canWin nums nP day votes isOpen baskets fneed seaO backB plc car bsk blB blC (xs (x + 1).toNatClampNeg)).1)]) (g_V (As := [.int (xs (x + 1).toNatClampNeg)]) (rest := [.int (b2i (f_X11_canWin nums nP day votes isOpen baskets fneed seaO backB plc car bsk blB blC (xs (x + 1).toNatClampNeg)).1)]) S mi_X12_canWin qw1840 (c_X12_canWin l D A w1 α 234 mTaped mErr mPpl mBts mUs mRa mSt mKi mWd mVal mLet mFin mNp mNb mOuts mWant mFnd mTape mNum mNam mFst mBnm mW mUn mSl mKp mnNum mnNam mnBo mnBn (xs (x + 1).toNatClampNeg) hB (rh_ppl hR) (rh_day0 hR hN) (rh_num hR) (rh_bts hR) (rh_of56 hR)) hK hP hD hE hS (hB 0 _ rfl) rfl rfl rfl hl.1 (Nat.le_of_ble_eq_true rfl) rfl rfl ⟨(Nat.le_of_ble_eq_true rfl), (Nat.le_of_ble_eq_true rfl)⟩ ⟨(Nat.le_of_ble_eq_true rfl), (Nat.le_of_ble_eq_true rfl)⟩ dL_law_1208) hS rfl (fun locs hS => ?_)
  have hV3 := hV2
  have hB3 := hB
  obtain ⟨hA, hR3⟩ := ra_canWin hR hN (xs (x + 1).toNatClampNeg)
  refine lv_icmp_eq (tgt := 1529) S.1 S.2.1 dL_law_1211 (by decide) (fun _ => ?_) (fun z => absurd hA z)
  exact kk _ _ _ (INV.mk hV3 hB3 hR3) hP hD hS
theorem lc_decisive (C : LCtx D A p m c s b L xs) (hP : va_P D vwCl w H) (hD : va_D A w) (hS : va_S A s.heap H locs) (hV : SVW D α w err pk pst pe tp tl dnums dbNames dpNames dfBoats dnB dnP nums bNames pNames fBoats nB nP day votes isOpen baskets lays recs fneed clos boatO seaO faultO daysO backB sailB plc car bnd bsk dyL rsn pastF pastN logF logN blB blC hsN hsX hsF kpF kpZ tx txl) (hB : Blk w 234 (cM D α 234 mTaped mErr mPpl mBts mUs mRa mSt mKi mWd mVal mLet mFin mNp mNb mOuts mWant mFnd mTape mNum mNam mFst mBnm mW mUn mSl mKp mnNum mnNam mnBo mnBn)) (hR : RALL N P B Qs nums bNames pNames fBoats nB nP day votes isOpen baskets lays recs fneed clos boatO seaO faultO daysO backB sailB plc car bnd bsk dyL rsn pastF pastN logF logN hsN hsX hsF kpF kpZ tp tl err txl mTaped mErr mPpl mBts mUs mTape mNum mNam mFst mBnm mW mUn mSl mKp) (hN : N ≤ 600) (hl : lv_has ls 8 [(0, .ref b), (1, .ref (α 0)), (2, .ref (α 234)), (3, .int x)]) (hx : ∀ k : Int32, 1 ≤ k → k ≤ 5 → vp_in (x + k) L) (kk : ∀ (w1 : va_W) (H1 : Heap) (locs1 : List Loc), INV D α (N + 1) w1 → va_P D vwCl w1 H1 → va_D A w1 → va_S A s.heap H1 locs1 → W p l e room_1 s m #[Value.ref b] below meth c H1 locs1 248 12703 Q (F0 m 1529 ls [])) : W p l e room_1 s m #[Value.ref b] below meth c H locs 248 12703 Q (F0 m 1216 ls []) := by
  obtain ⟨S, hK, hE, hX, hbl, hbA⟩ := C
  refine lv_aload_n S.1 S.2.1 dL_law_1216 rfl (lv_at hl 1 rfl) ?_
  refine g_aft0 (st1 := [.int (f_X11_decisive nums nP day votes isOpen fneed clos backB plc bsk blB blC).1]) (g_V (As := []) (rest := []) S mi_X11_decisive qw1157 (c_X11_decisive l D A w α err pk pst pe tp tl dnums dbNames dpNames dfBoats dnB dnP nums bNames pNames fBoats nB nP day votes isOpen baskets lays recs fneed clos boatO seaO faultO daysO backB sailB plc car bnd bsk dyL rsn pastF pastN logF logN blB blC hsN hsX hsF kpF kpZ tx txl hV) hK hP hD hE hS (hV.1 0 _ rfl) rfl rfl rfl hl.1 (Nat.le_of_ble_eq_true rfl) rfl rfl ⟨(Nat.le_of_ble_eq_true rfl), (Nat.le_of_ble_eq_true rfl)⟩ ⟨(Nat.le_of_ble_eq_true rfl), (Nat.le_of_ble_eq_true rfl)⟩ dL_law_1217) hS rfl (fun w1 H locs hQ hP hD hS => ?_)
  have hB := hB.other hQ.2 (Or.inr (by decide))
  have hV2 := hQ.1
  refine lv_aload_n S.1 S.2.1 dL_law_1220 rfl (lv_at hl 2 rfl) ?_
  refine g_aftR0 (st1 := [.int (f_X12_decisive mPpl mBts mNum mW), .int (f_X11_decisive nums nP day votes isOpen fneed clos backB plc bsk blB blC).1]) (g_V (As := []) (rest := [.int (f_X11_decisive nums nP day votes isOpen fneed clos backB plc bsk blB blC).1]) S mi_X12_decisive qw1848 (c_X12_decisive l D A w1 α 234 mTaped mErr mPpl mBts mUs mRa mSt mKi mWd mVal mLet mFin mNp mNb mOuts mWant mFnd mTape mNum mNam mFst mBnm mW mUn mSl mKp mnNum mnNam mnBo mnBn hB (rh_ppl hR) (rh_day0 hR hN) (rh_num hR) (rh_bts hR)) hK hP hD hE hS (hB 0 _ rfl) rfl rfl rfl hl.1 (Nat.le_of_ble_eq_true rfl) rfl rfl ⟨(Nat.le_of_ble_eq_true rfl), (Nat.le_of_ble_eq_true rfl)⟩ ⟨(Nat.le_of_ble_eq_true rfl), (Nat.le_of_ble_eq_true rfl)⟩ dL_law_1221) hS rfl (fun locs hS => ?_)
  have hV3 := hV2
  have hB3 := hB
  obtain ⟨hA, hR3⟩ := ra_decisive hR hN
  refine lv_icmp_eq (tgt := 1529) S.1 S.2.1 dL_law_1224 (by decide) (fun _ => ?_) (fun z => absurd hA z)
  exact kk _ _ _ (INV.mk hV3 hB3 hR3) hP hD hS
end LC
