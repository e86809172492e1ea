/-! THE LAW: what holds between two calls -/
theorem nan64_iff (x : UInt64) : isNaN64 x = true ↔ FP.Core.val64 x = .nan := by
  rw [isNaN64_iff, ← FP.Core.dIsNaN_iff, FP.Core.isNaN_bits, show (0x7fffffffffffffff : Nat) = 2 ^ 63 - 1 by decide, Nat.and_two_pow_sub_one_eq_mod]
theorem nan32_iff (x : UInt32) : isNaN32 x = true ↔ FP.Core.fIsNaN x = true := by
  rw [isNaN32_iff, FP.Core.isNaN_bits32, show (0x7fffffff : Nat) = 2 ^ 31 - 1 by decide, Nat.and_two_pow_sub_one_eq_mod]
def alk64 (p q : UInt64) : Prop := p = q ∨ (isNaN64 p = true ∧ isNaN64 q = true)
theorem alk64_of {p q x : UInt64} (h1 : alike64 p x = true) (h2 : alike64 q x = true) : alk64 p q := by
  unfold alike64 at h1 h2
  rw [Bool.or_eq_true, decide_eq_true_eq, Bool.and_eq_true] at h1 h2
  rcases h1 with a | ⟨a, a2⟩
  · rcases h2 with b | ⟨b, b2⟩
    · exact Or.inl (a.trans b.symm)
    · exact Or.inr ⟨by rw [a]; exact b2, b⟩
  · rcases h2 with b | ⟨b, b2⟩
    · exact Or.inr ⟨a, by rw [b]; exact a2⟩
    · exact Or.inr ⟨a, b⟩
theorem al_nan {p x : UInt64} (h : alike64 p x = true) (hx : isNaN64 x = true) : isNaN64 p = true := by
  unfold alike64 at h
  rw [Bool.or_eq_true, decide_eq_true_eq, Bool.and_eq_true] at h
  rcases h with a | ⟨a, a2⟩
  · rw [a]; exact hx
  · exact a
theorem f2d_nan64 {x : UInt32} (h : isNaN32 x = true) : isNaN64 (FP.f2d x) = true := by
  rw [nan64_iff, ← FP.Core.dIsNaN_iff]
  exact (FP.f2d_nan x).trans ((nan32_iff x).mp h)
theorem alk_f2d {r1 r2 x : UInt32} {p q : UInt64} (a1 : alike32 r1 x = true) (a2 : alike32 r2 x = true) (b1 : alike64 p (FP.f2d r1) = true) (b2 : alike64 q (FP.f2d r2) = true) : alk64 p q := by
  unfold alike32 at a1 a2
  rw [Bool.or_eq_true, decide_eq_true_eq, Bool.and_eq_true] at a1 a2
  have key : r1 = r2 ∨ (isNaN32 r1 = true ∧ isNaN32 r2 = true) := by
    rcases a1 with a | ⟨a, a3⟩
    · rcases a2 with b | ⟨b, b3⟩
      · exact Or.inl (a.trans b.symm)
      · exact Or.inr ⟨by rw [a]; exact b3, b⟩
    · rcases a2 with b | ⟨b, b3⟩
      · exact Or.inr ⟨a, by rw [b]; exact a3⟩
      · exact Or.inr ⟨a, b⟩
  rcases key with e | ⟨e1, e2⟩
  · subst e
    exact alk64_of b1 b2
  · exact Or.inr ⟨al_nan b1 (f2d_nan64 e1), al_nan b2 (f2d_nan64 e2)⟩
/-- the law's question of two doubles: alike, or neither is itself -/
theorem law_d {p q : UInt64} (h : alk64 p q) : Op.cmpValue (FP.dcmp p q) CmpOp.l = 0 ∨ (¬ Op.cmpValue (FP.dcmp p p) CmpOp.l = 0 ∧ ¬ Op.cmpValue (FP.dcmp q q) CmpOp.l = 0) := by
  have none_ : ∀ z : UInt64, FP.Core.val64 z = .nan → ¬ Op.cmpValue (FP.dcmp z z) CmpOp.l = 0 := fun z hz => by
    rw [show FP.dcmp z z = none from (FP.Core.dcmp_none z z).mpr (Or.inl hz)]
    decide
  rcases h with e | ⟨e1, e2⟩
  · subst e
    by_cases z : FP.Core.val64 p = .nan
    · exact Or.inr ⟨none_ p z, none_ p z⟩
    · refine Or.inl ?_
      rw [show FP.dcmp p p = some .eq from FP.Core.dcmp_self z]
      rfl
  · exact Or.inr ⟨none_ p ((nan64_iff p).mp e1), none_ q ((nan64_iff q).mp e2)⟩
/-! calls that may draw -/
section GVD
variable {p : Program} {l : Launch} {e : Env} {R : Room} {s : State} {m : MethodId} {args : Array Value} {below : List Frame} {meth : Method} {c : Code} {H : Heap} {locs : List Loc} {cells slots : Nat} {Q : State → Prop}
variable {cc : ByteArray} {nL pc : Nat} {ls : Array Slot} {rest : List Value} {D : va_G} {A : Nat → Prop} {ws : va_W} {own : String}
variable {y : MethodName} {bytes : ByteArray} {maxL n index b mc ms : Nat} {C : String} {ret : Option FieldType} {rm : Room} {As : List Value} {Qc : Array Value → State → Outcome → State → Prop} {st0 : List Value}
theorem g_VD (S : CallFix p m c cc nL s args lw_all own) (I : MI C y bytes maxL ret n) (L : Cond.methodLink own index y ∈ lw_all)
    (hM : MetD lw_cs l y (ws_ y bytes maxL ret) rm (gPre D A (.ref b :: As) ws) Qc mc ms A) (hK : va_K D vwCl (gTys D) s) (hP : va_P D vwCl ws H) (hD : va_D A ws) (hE : EV D A s s.heap) (hS : va_S A s.heap H locs)
    {q0 ci N : Nat} {fs : List Value} {T : u_T} (he : ws[q0]? = some (b, .inr (ci, fs))) (hc : vwCl[ci]? = some (C, T, N)) (hst : st0 = As.reverse ++ .ref b :: rest) (hn : As.length = n) (hls : ls.size = nL) (hW : (rest.map fun v => v.category).sum ≤ 8)
    (hrc : rm.cells = mc) (hrs : rm.slots = ms) (hR : rm.frames + 1 ≤ R.frames ∧ 8 + (maxL + 11) + rm.locals ≤ R.locals) (hf : cells + mc ≤ R.cells ∧ slots + ms ≤ R.slots) (hdg : decode cc pc = .ok (.invokevirtual index, 3)) :
    va_RunD lw_cs p l e R s m args below meth c H locs cells slots mc ms (F0 m pc ls st0) rest (Qc (Value.ref b :: As).toArray) A := by
  obtain ⟨i1, i2, i3, i4, i5⟩ := I
  have hts := S.2.2.2.2
  refine va_runV_D (As := As) (rest := rest) (index := index) (n := n) S hM ⟨callB_of n hts (ws_good i4) rfl hrc hrs (by rw [i5.1]; exact hts _ i3) (hts _ L) i5.2 hR, hts _ i1, hts _ i2⟩ ⟨gPre.blind, va_recv hK hP hc he, g_pre hK hP hD hE hS⟩ rfl hn hls hst (lv_room hW) hdg hf
theorem g_aftF {a : Array Value} {x : UInt32} {H0 : Heap} (hr : va_RunD lw_cs p l e R s m args below meth c H locs cells slots 0 0 (F0 m pc ls st0) rest (gF x a) A) (hS : va_S A H0 H locs)
    (kk : ∀ (r : UInt32) (locs1 : List Loc) (d1 : Drawn), alike32 r x = true → va_S A H0 H locs1 → s.drawn.sameBut d1 lw_cs → W p l e R (s.setDrawn d1) m args below meth c H locs1 cells slots Q (F0 m (pc + 3) ls (.float r :: rest))) : W p l e R s m args below meth c H locs cells slots Q (F0 m pc ls st0) := by
  intro T hT X
  obtain ⟨v, st₀, t, T', L, d', hd', h0, X', hL, e1, e2, ⟨⟨r, hv, ha⟩, hh⟩, st⟩ := hr T hT X
  cases hv
  obtain ⟨t2, a1, b1⟩ := kk r (locs ++ L) d' ha ⟨hS.1, hS.2.1, fun q hq => by
      rcases List.mem_append.mp hq with h | h
      · exact hS.2.2 q h
      · exact hL q h⟩ hd' T' (by rw [e1, hh, h0]) X'
  exact ⟨t2, st t2 a1, b1⟩
theorem g_aftDb {a : Array Value} {x : UInt64} {H0 : Heap} (hr : va_RunD lw_cs p l e R s m args below meth c H locs cells slots 0 0 (F0 m pc ls st0) rest (gD x a) A) (hS : va_S A H0 H locs)
    (kk : ∀ (r : UInt64) (locs1 : List Loc) (d1 : Drawn), alike64 r x = true → va_S A H0 H locs1 → s.drawn.sameBut d1 lw_cs → W p l e R (s.setDrawn d1) m args below meth c H locs1 cells slots Q (F0 m (pc + 3) ls (.double r :: rest))) : W p l e R s m args below meth c H locs cells slots Q (F0 m pc ls st0) := by
  intro T hT X
  obtain ⟨v, st₀, t, T', L, d', hd', h0, X', hL, e1, e2, ⟨⟨r, hv, ha⟩, hh⟩, st⟩ := hr T hT X
  cases hv
  obtain ⟨t2, a1, b1⟩ := kk r (locs ++ L) d' ha ⟨hS.1, hS.2.1, fun q hq => by
      rcases List.mem_append.mp hq with h | h
      · exact hS.2.2 q h
      · exact hL q h⟩ hd' T' (by rw [e1, hh, h0]) X'
  exact ⟨t2, st t2 a1, b1⟩
end GVD
/-! the world of both -/
theorem SVW.agree {D : va_G} {α : Nat → Nat} {w w' : va_W} {err : Int32} {pk : Int32} {pst : Int32} {pe : Int32} {tp : Nat → Int32} {tl : Int32} {dnums : Nat → Int32} {dbNames : Nat → Int32} {dpNames : Nat → Int32} {dfBoats : Nat → Int32} {dnB : Int32} {dnP : Int32} {nums : Nat → Int32} {bNames : Nat → Int32} {pNames : Nat → Int32} {fBoats : Nat → Int32} {nB : Int32} {nP : Int32} {day : Int32} {votes : Int32} {isOpen : Int32} {baskets : Int32} {lays : Int32} {recs : Int32} {fneed : Int32} {clos : Int32} {boatO : Nat → Int32} {seaO : Nat → Int32} {faultO : Nat → Int32} {daysO : Nat → Int32} {backB : Nat → Int32} {sailB : Nat → Int32} {plc : Nat → Int32} {car : Nat → Int32} {bnd : Nat → Int32} {bsk : Nat → Int32} {dyL : Nat → Int32} {rsn : Nat → Int32} {pastF : Nat → Int32} {pastN : Int32} {logF : Nat → Int32} {logN : Int32} {blB : Nat → Int32} {blC : Nat → Int32} {hsN : Int32} {hsX : Int32} {hsF : Nat → StT} {kpF : Nat → StT} {kpZ : Nat → Int32} {tx : Nat → Int32} {txl : Int32} (h : SVW D α w err pk pst pe tp tl dnums dbNames dpNames dfBoats dnB dnP nums bNames pNames fBoats nB nP day votes isOpen baskets lays recs fneed clos boatO seaO faultO daysO backB sailB plc car bnd bsk dyL rsn pastF pastN logF logN blB blC hsN hsX hsF kpF kpZ tx txl) (hs : ∀ j : Nat, j < 234 → w'[j]? = w[j]?) : SVW D α w' err pk pst pe tp tl dnums dbNames dpNames dfBoats dnB dnP nums bNames pNames fBoats nB nP day votes isOpen baskets lays recs fneed clos boatO seaO faultO daysO backB sailB plc car bnd bsk dyL rsn pastF pastN logF logN blB blC hsN hsX hsF kpF kpZ tx txl := by
  obtain ⟨h0, h1, h2, h3, h4, h5, h6, h7⟩ := h
  refine ⟨h0.other2 (fun j _ hj => hs j (Nat.lt_of_lt_of_le hj (Nat.le_of_ble_eq_true rfl))), h1.other2 (fun j _ hj => hs j (Nat.lt_of_lt_of_le hj (Nat.le_of_ble_eq_true rfl))), h2.other2 (fun j _ hj => hs j (Nat.lt_of_lt_of_le hj (Nat.le_of_ble_eq_true rfl))), ⟨h3.1.other2 (fun j _ hj => hs j (Nat.lt_of_lt_of_le hj (Nat.le_of_ble_eq_true rfl))), fun i hi => (h3.2 i hi).other2 (fun j _ hj => hs j ?_)⟩, (hs 191 (by decide)).trans h4, fun i hi => (h5 i hi).other2 (fun j _ hj => hs j ?_), h6.other2 (fun j _ hj => hs j (Nat.lt_of_lt_of_le hj (Nat.le_of_ble_eq_true rfl))), h7.other2 (fun j _ hj => hs j (Nat.lt_of_lt_of_le hj (Nat.le_of_ble_eq_true rfl)))⟩
  · rw [cSt_len] at hj; omega
  · rw [cSt_len] at hj; omega
/-- between two calls, after N of them -/
def INV (D : va_G) (α : Nat → Nat) (N : Nat) (w : va_W) : Prop := ∃ (P B Q : Nat) (err : Int32) (pk : Int32) (pst : Int32) (pe : Int32) (tp : Nat → Int32) (tl : Int32) (dnums : Nat → Int32) (dbNames : Nat → Int32) (dpNames : Nat → Int32) (dfBoats : Nat → Int32) (dnB : Int32) (dnP : Int32) (nums : Nat → Int32) (bNames : Nat → Int32) (pNames : Nat → Int32) (fBoats : Nat → Int32) (nB : Int32) (nP : Int32) (day : Int32) (votes : Int32) (isOpen : Int32) (baskets : Int32) (lays : Int32) (recs : Int32) (fneed : Int32) (clos : Int32) (boatO : Nat → Int32) (seaO : Nat → Int32) (faultO : Nat → Int32) (daysO : Nat → Int32) (backB : Nat → Int32) (sailB : Nat → Int32) (plc : Nat → Int32) (car : Nat → Int32) (bnd : Nat → Int32) (bsk : Nat → Int32) (dyL : Nat → Int32) (rsn : Nat → Int32) (pastF : Nat → Int32) (pastN : Int32) (logF : Nat → Int32) (logN : Int32) (blB : Nat → Int32) (blC : Nat → Int32) (hsN : Int32) (hsX : Int32) (hsF : Nat → StT) (kpF : Nat → StT) (kpZ : Nat → Int32) (tx : Nat → Int32) (txl : Int32) (mTaped : Int32) (mErr : Int32) (mPpl : Int32) (mBts : Int32) (mUs : Int32) (mRa : Int32) (mSt : Int32) (mKi : Int32) (mWd : Int64) (mVal : Int32) (mLet : Int32) (mFin : Int32) (mNp : Int32) (mNb : Int32) (mOuts : Int32) (mWant : Int32) (mFnd : Int32) (mTape : Nat → Int32) (mNum : Nat → Int32) (mNam : Nat → Int32) (mFst : Nat → Int32) (mBnm : Nat → Int32) (mW : Nat → Int32) (mUn : Nat → Int32) (mSl : Nat → Int32) (mKp : Nat → Int32) (mnNum : Nat → Int32) (mnNam : Nat → Int32) (mnBo : Nat → Int32) (mnBn : Nat → Int32), SVW D α w err pk pst pe tp tl dnums dbNames dpNames dfBoats dnB dnP nums bNames pNames fBoats nB nP day votes isOpen baskets lays recs fneed clos boatO seaO faultO daysO backB sailB plc car bnd bsk dyL rsn pastF pastN logF logN blB blC hsN hsX hsF kpF kpZ tx txl ∧ Blk w 234 (cM D α 234 mTaped mErr mPpl mBts mUs mRa mSt mKi mWd mVal mLet mFin mNp mNb mOuts mWant mFnd mTape mNum mNam mFst mBnm mW mUn mSl mKp mnNum mnNam mnBo mnBn) ∧ RALL N P B Q nums bNames pNames fBoats nB nP day votes isOpen baskets lays recs fneed clos boatO seaO faultO daysO backB sailB plc car bnd bsk dyL rsn pastF pastN logF logN hsN hsX hsF kpF kpZ tp tl err txl mTaped mErr mPpl mBts mUs mTape mNum mNam mFst mBnm mW mUn mSl mKp
theorem INV.mk {D : va_G} {α : Nat → Nat} {N : Nat} {w : va_W} {P B Q : Nat} {err : Int32} {pk : Int32} {pst : Int32} {pe : Int32} {tp : Nat → Int32} {tl : Int32} {dnums : Nat → Int32} {dbNames : Nat → Int32} {dpNames : Nat → Int32} {dfBoats : Nat → Int32} {dnB : Int32} {dnP : Int32} {nums : Nat → Int32} {bNames : Nat → Int32} {pNames : Nat → Int32} {fBoats : Nat → Int32} {nB : Int32} {nP : Int32} {day : Int32} {votes : Int32} {isOpen : Int32} {baskets : Int32} {lays : Int32} {recs : Int32} {fneed : Int32} {clos : Int32} {boatO : Nat → Int32} {seaO : Nat → Int32} {faultO : Nat → Int32} {daysO : Nat → Int32} {backB : Nat → Int32} {sailB : Nat → Int32} {plc : Nat → Int32} {car : Nat → Int32} {bnd : Nat → Int32} {bsk : Nat → Int32} {dyL : Nat → Int32} {rsn : Nat → Int32} {pastF : Nat → Int32} {pastN : Int32} {logF : Nat → Int32} {logN : Int32} {blB : Nat → Int32} {blC : Nat → Int32} {hsN : Int32} {hsX : Int32} {hsF : Nat → StT} {kpF : Nat → StT} {kpZ : Nat → Int32} {tx : Nat → Int32} {txl : Int32} {mTaped : Int32} {mErr : Int32} {mPpl : Int32} {mBts : Int32} {mUs : Int32} {mRa : Int32} {mSt : Int32} {mKi : Int32} {mWd : Int64} {mVal : Int32} {mLet : Int32} {mFin : Int32} {mNp : Int32} {mNb : Int32} {mOuts : Int32} {mWant : Int32} {mFnd : Int32} {mTape : Nat → Int32} {mNum : Nat → Int32} {mNam : Nat → Int32} {mFst : Nat → Int32} {mBnm : Nat → Int32} {mW : Nat → Int32} {mUn : Nat → Int32} {mSl : Nat → Int32} {mKp : Nat → Int32} {mnNum : Nat → Int32} {mnNam : Nat → Int32} {mnBo : Nat → Int32} {mnBn : Nat → Int32} (h1 : SVW D α w err pk pst pe tp tl dnums dbNames dpNames dfBoats dnB dnP nums bNames pNames fBoats nB nP day votes isOpen baskets lays recs fneed clos boatO seaO faultO daysO backB sailB plc car bnd bsk dyL rsn pastF pastN logF logN blB blC hsN hsX hsF kpF kpZ tx txl) (h2 : Blk w 234 (cM D α 234 mTaped mErr mPpl mBts mUs mRa mSt mKi mWd mVal mLet mFin mNp mNb mOuts mWant mFnd mTape mNum mNam mFst mBnm mW mUn mSl mKp mnNum mnNam mnBo mnBn)) (h3 : RALL N P B Q nums bNames pNames fBoats nB nP day votes isOpen baskets lays recs fneed clos boatO seaO faultO daysO backB sailB plc car bnd bsk dyL rsn pastF pastN logF logN hsN hsX hsF kpF kpZ tp tl err txl mTaped mErr mPpl mBts mUs mTape mNum mNam mFst mBnm mW mUn mSl mKp) : INV D α N w := ⟨P, B, Q, err, pk, pst, pe, tp, tl, dnums, dbNames, dpNames, dfBoats, dnB, dnP, nums, bNames, pNames, fBoats, nB, nP, day, votes, isOpen, baskets, lays, recs, fneed, clos, boatO, seaO, faultO, daysO, backB, sailB, plc, car, bnd, bsk, dyL, rsn, pastF, pastN, logF, logN, blB, blC, hsN, hsX, hsF, kpF, kpZ, tx, txl, mTaped, mErr, mPpl, mBts, mUs, mRa, mSt, mKi, mWd, mVal, mLet, mFin, mNp, mNb, mOuts, mWant, mFnd, mTape, mNum, mNam, mFst, mBnm, mW, mUn, mSl, mKp, mnNum, mnNam, mnBo, mnBn, h1, h2, h3⟩
theorem INV.next {D : va_G} {α : Nat → Nat} {N : Nat} {w : va_W} (h : INV D α N w) : INV D α (N + 1) w := by
  obtain ⟨P, B, Q, err, pk, pst, pe, tp, tl, dnums, dbNames, dpNames, dfBoats, dnB, dnP, nums, bNames, pNames, fBoats, nB, nP, day, votes, isOpen, baskets, lays, recs, fneed, clos, boatO, seaO, faultO, daysO, backB, sailB, plc, car, bnd, bsk, dyL, rsn, pastF, pastN, logF, logN, blB, blC, hsN, hsX, hsF, kpF, kpZ, tx, txl, mTaped, mErr, mPpl, mBts, mUs, mRa, mSt, mKi, mWd, mVal, mLet, mFin, mNp, mNb, mOuts, mWant, mFnd, mTape, mNum, mNam, mFst, mBnm, mW, mUn, mSl, mKp, mnNum, mnNam, mnBo, mnBn, h1, h2, h3⟩ := h
  exact INV.mk h1 h2 h3.next
/-- what stays through the whole law -/
def LCtx (D : va_G) (A : Nat → Prop) (p : Program) (m : MethodId) (c : Code) (s : State) (b L : Nat) (xs : Nat → Int32) : Prop := CallFix p m c code 8 s #[Value.ref b] lw_all RL ∧ va_K D vwCl (gTys D) s ∧ EV D A s s.heap ∧ va_X b L xs s s.heap ∧ b < s.heap.size ∧ ¬ A b
theorem LCtx.drawn {D : va_G} {A : Nat → Prop} {p : Program} {m : MethodId} {c : Code} {s : State} {b L : Nat} {xs : Nat → Int32} (C : LCtx D A p m c s b L xs) (d : Drawn) : LCtx D A p m c (s.setDrawn d) b L xs := by
  obtain ⟨S, hK, hE, hX, hbl, hbA⟩ := C
  exact ⟨⟨S.1, S.2.1, S.2.2.1, S.2.2.2.1, dr_words S.2.2.2.2 d⟩, va_K.moved (Vm.Alike.refl s.vm) hK, EV.same (s := s) hE rfl, va_X.moved (Vm.Alike.refl s.vm) hX, hbl, hbA⟩
