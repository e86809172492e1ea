noncomputable def a_truncate (v : VT) (x : Int32) : Int32 := (f_X11_truncate (v_tl v) x).1
noncomputable def n_truncate (v : VT)  (x : Int32) : VT := (((v_day v), (v_votes v), (v_isOpen v), (v_baskets v), (v_lays v), (v_recs v), (v_fneed v), (v_clos v), (v_boatO v), (v_seaO v), (v_faultO v), (v_daysO v), (v_backB v), (v_sailB v), (v_plc v), (v_car v), (v_bnd v), (v_bsk v), (v_dyL v), (v_rsn v), (v_pastF v), (v_pastN v), (v_logF v), (v_logN v)), ((v_nums v), (v_bNames v), (v_pNames v), (v_fBoats v), (v_nB v), (v_nP v)), ((v_hsN v), (v_hsX v), (v_hsF v)), ((v_kpF v), (v_kpZ v)), ((v_tp v), ((f_X11_truncate (v_tl v) x).2)), (v_err v))
set_option maxHeartbeats 4000000 in
theorem k_truncate (l : Launch) (D : va_G) (A : Nat → Prop) (w : va_W) (α : Nat → Nat) {N P B Q : Nat} {v : VT} (hR : RA N P B Q v) (hN : N ≤ 600) (x : Int32) (hB : OB D α w v) : Met l yX11_truncate (ws_ yX11_truncate cX11_truncate 2 (some .int)) ({ frames := 1, cells := 0, slots := 0, locals := 21 }) (gPre D A [.ref (α (0)), .int x] w) (gQ D A (some (.int (a_truncate v x))) (fun w1 => (OB D α w1 (n_truncate v  x)) ∧ Same w w1 0 234)) 0 0 A := by
  obtain ⟨mTaped, mErr, mPpl, mBts, mUs, mTape, mNum, mNam, mFst, mBnm, mW, mUn, mSl, mKp, hR⟩ := hR
  obtain ⟨pk, pst, pe, dnums, dbNames, dpNames, dfBoats, dnB, dnP, blB, blC, tx, txl, hV, h0⟩ := hB
  have e : (f_X11_truncate (v_tl v) x).1 = a_truncate v x := rfl
  refine (c_X11_truncate l D A w α (v_err v) pk pst pe (v_tp v) (v_tl v) dnums dbNames dpNames dfBoats dnB dnP (v_nums v) (v_bNames v) (v_pNames v) (v_fBoats v) (v_nB v) (v_nP v) (v_day v) (v_votes v) (v_isOpen v) (v_baskets v) (v_lays v) (v_recs v) (v_fneed v) (v_clos v) (v_boatO v) (v_seaO v) (v_faultO v) (v_daysO v) (v_backB v) (v_sailB v) (v_plc v) (v_car v) (v_bnd v) (v_bsk v) (v_dyL v) (v_rsn v) (v_pastF v) (v_pastN v) (v_logF v) (v_logN v) blB blC (v_hsN v) (v_hsX v) (v_hsF v) (v_kpF v) (v_kpZ v) tx txl x hV).mono (fun _ _ h => h) (fun a st o t _ hq => ?_)
  obtain ⟨⟨h1, w1, ⟨hV1, hs⟩, hP, hD⟩, hF⟩ := hq
  exact ⟨⟨h1.trans (congrArg (fun z => Outcome.returned (some (Value.int z))) e), w1, ⟨⟨_, _, _, _, _, _, _, _, _, _, _, _, _, hV1, h0⟩, hs⟩, hP, hD⟩, hF⟩
set_option maxHeartbeats 4000000 in
theorem q_truncate {N P B Q : Nat} {v : VT} (hR : RA N P B Q v) (hN : N ≤ 600)  (x : Int32) : RA (N + 1) P B Q (n_truncate v  x) := by
  obtain ⟨mTaped, mErr, mPpl, mBts, mUs, mTape, mNum, mNam, mFst, mBnm, mW, mUn, mSl, mKp, hR⟩ := hR
  exact ⟨_, _, _, _, _, _, _, _, _, _, _, _, _, _, (ra_truncate hR hN x).2⟩
