/-! A NEW STICKVOTES -/
theorem ob_of {D : va_G} {α : Nat → Nat} {w : va_W} {err : Int32} {pk : Int32} {pst : Int32} {pe : Int32} {tp : Nat → Int32} {tl : Int32} {dnums : Nat → Int32} {dbNames : Nat → Int32} {dpNames : Nat → Int32} {dfBoats : Nat → Int32} {dnB : Int32} {dnP : Int32} {nums : Nat → Int32} {bNames : Nat → Int32} {pNames : Nat → Int32} {fBoats : Nat → Int32} {nB : Int32} {nP : Int32} {day : Int32} {votes : Int32} {isOpen : Int32} {baskets : Int32} {lays : Int32} {recs : Int32} {fneed : Int32} {clos : Int32} {boatO : Nat → Int32} {seaO : Nat → Int32} {faultO : Nat → Int32} {daysO : Nat → Int32} {backB : Nat → Int32} {sailB : Nat → Int32} {plc : Nat → Int32} {car : Nat → Int32} {bnd : Nat → Int32} {bsk : Nat → Int32} {dyL : Nat → Int32} {rsn : Nat → Int32} {pastF : Nat → Int32} {pastN : Int32} {logF : Nat → Int32} {logN : Int32} {blB : Nat → Int32} {blC : Nat → Int32} {hsN : Int32} {hsX : Int32} {hsF : Nat → StT} {kpF : Nat → StT} {kpZ : Nat → Int32} {tx : Nat → Int32} {txl : Int32} (hV : SVW D α w err pk pst pe tp tl dnums dbNames dpNames dfBoats dnB dnP nums bNames pNames fBoats nB nP day votes isOpen baskets lays recs fneed clos boatO seaO faultO daysO backB sailB plc car bnd bsk dyL rsn pastF pastN logF logN blB blC hsN hsX hsF kpF kpZ tx txl) (h0 : ¬ txl < 0) : OB D α w ((day, votes, isOpen, baskets, lays, recs, fneed, clos, boatO, seaO, faultO, daysO, backB, sailB, plc, car, bnd, bsk, dyL, rsn, pastF, pastN, logF, logN), (nums, bNames, pNames, fBoats, nB, nP), (hsN, hsX, hsF), (kpF, kpZ), (tp, tl), err) := ⟨pk, pst, pe, dnums, dbNames, dpNames, dfBoats, dnB, dnP, blB, blC, tx, txl, hV, h0⟩
set_option maxHeartbeats 4000000 in
theorem ob_first {D : va_G} {α : Nat → Nat} {w1 : va_W} (hV : SVW D α w1 (-2) 0 0 0 z0 0 z0 z0 z0 z0 0 0 ((f_X10_beginTheFirstOne z0 z0 z0 z0 z0 z0 z0 z0 z0 z0 z0 z0 z0 z0 z0).2.2.2.2.2.2.2.2.2.2.2.2.2.2.2.2.2.2.1) z0 ((f_X10_beginTheFirstOne z0 z0 z0 z0 z0 z0 z0 z0 z0 z0 z0 z0 z0 z0 z0).2.2.2.2.2.2.2.2.2.2.2.2.2.2.2.2.2.2.2.1) ((f_X10_beginTheFirstOne z0 z0 z0 z0 z0 z0 z0 z0 z0 z0 z0 z0 z0 z0 z0).2.2.2.2.2.2.2.2.2.2.1) ((f_X10_beginTheFirstOne z0 z0 z0 z0 z0 z0 z0 z0 z0 z0 z0 z0 z0 z0 z0).2.2.2.2.2.2.2.2.2.2.2.2.2.2.2.2.1) ((f_X10_beginTheFirstOne z0 z0 z0 z0 z0 z0 z0 z0 z0 z0 z0 z0 z0 z0 z0).2.2.2.2.2.2.2.2.2.2.2.2.2.2.2.2.2.1) ((f_X10_beginTheFirstOne z0 z0 z0 z0 z0 z0 z0 z0 z0 z0 z0 z0 z0 z0 z0).2.2.2.2.2.2.2.1) ((f_X10_beginTheFirstOne z0 z0 z0 z0 z0 z0 z0 z0 z0 z0 z0 z0 z0 z0 z0).2.2.2.2.2.2.2.2.2.2.2.2.2.2.2.2.2.2.2.2.2.2.2.2.2.2) ((f_X10_beginTheFirstOne z0 z0 z0 z0 z0 z0 z0 z0 z0 z0 z0 z0 z0 z0 z0).2.2.2.2.2.2.2.2.2.2.2.2.2.1) ((f_X10_beginTheFirstOne z0 z0 z0 z0 z0 z0 z0 z0 z0 z0 z0 z0 z0 z0 z0).2.1) ((f_X10_beginTheFirstOne z0 z0 z0 z0 z0 z0 z0 z0 z0 z0 z0 z0 z0 z0 z0).2.2.2.2.2.2.2.2.2.2.2.2.2.2.1) ((f_X10_beginTheFirstOne z0 z0 z0 z0 z0 z0 z0 z0 z0 z0 z0 z0 z0 z0 z0).2.2.2.2.2.2.2.2.2.2.2.2.2.2.2.2.2.2.2.2.2.2.1) ((f_X10_beginTheFirstOne z0 z0 z0 z0 z0 z0 z0 z0 z0 z0 z0 z0 z0 z0 z0).2.2.2.2.2.2.2.2.2.2.2.2.1) ((f_X10_beginTheFirstOne z0 z0 z0 z0 z0 z0 z0 z0 z0 z0 z0 z0 z0 z0 z0).2.2.2.2.2.2.1) ((f_X10_beginTheFirstOne z0 z0 z0 z0 z0 z0 z0 z0 z0 z0 z0 z0 z0 z0 z0).2.2.2.1) ((f_X10_beginTheFirstOne z0 z0 z0 z0 z0 z0 z0 z0 z0 z0 z0 z0 z0 z0 z0).2.2.2.2.2.2.2.2.2.2.2.2.2.2.2.2.2.2.2.2.2.2.2.2.2.1) ((f_X10_beginTheFirstOne z0 z0 z0 z0 z0 z0 z0 z0 z0 z0 z0 z0 z0 z0 z0).2.2.2.2.2.2.2.2.2.2.2.1) ((f_X10_beginTheFirstOne z0 z0 z0 z0 z0 z0 z0 z0 z0 z0 z0 z0 z0 z0 z0).2.2.2.2.2.2.2.2.1) ((f_X10_beginTheFirstOne z0 z0 z0 z0 z0 z0 z0 z0 z0 z0 z0 z0 z0 z0 z0).1) ((f_X10_beginTheFirstOne z0 z0 z0 z0 z0 z0 z0 z0 z0 z0 z0 z0 z0 z0 z0).2.2.2.2.2.2.2.2.2.2.2.2.2.2.2.2.2.2.2.2.2.2.2.2.1) ((f_X10_beginTheFirstOne z0 z0 z0 z0 z0 z0 z0 z0 z0 z0 z0 z0 z0 z0 z0).2.2.2.2.2.2.2.2.2.2.2.2.2.2.2.2.2.2.2.2.2.1) ((f_X10_beginTheFirstOne z0 z0 z0 z0 z0 z0 z0 z0 z0 z0 z0 z0 z0 z0 z0).2.2.2.2.2.1) ((f_X10_beginTheFirstOne z0 z0 z0 z0 z0 z0 z0 z0 z0 z0 z0 z0 z0 z0 z0).2.2.1) ((f_X10_beginTheFirstOne z0 z0 z0 z0 z0 z0 z0 z0 z0 z0 z0 z0 z0 z0 z0).2.2.2.2.1) ((f_X10_beginTheFirstOne z0 z0 z0 z0 z0 z0 z0 z0 z0 z0 z0 z0 z0 z0 z0).2.2.2.2.2.2.2.2.2.1) ((f_X10_beginTheFirstOne z0 z0 z0 z0 z0 z0 z0 z0 z0 z0 z0 z0 z0 z0 z0).2.2.2.2.2.2.2.2.2.2.2.2.2.2.2.2.2.2.2.2.2.2.2.1) z0 ((f_X10_beginTheFirstOne z0 z0 z0 z0 z0 z0 z0 z0 z0 z0 z0 z0 z0 z0 z0).2.2.2.2.2.2.2.2.2.2.2.2.2.2.2.2.2.2.2.2.1) z0 ((f_X10_beginTheFirstOne z0 z0 z0 z0 z0 z0 z0 z0 z0 z0 z0 z0 z0 z0 z0).2.2.2.2.2.2.2.2.2.2.2.2.2.2.2.1) z0 z0 0 0 (fun _ => st0) (fun _ => st0) z0 z0 0) : ∃ v, OB D α w1 v ∧ RA 0 2 0 2 v := by
  refine ⟨_, ob_of hV (by decide), ?_⟩
  exact ⟨_, _, _, _, _, _, _, _, _, _, _, _, _, _, su_first, st_first, hi_first _ z0, ke_first _ z0, tp_first, rfl, by decide⟩
theorem wa_right {u x : va_W} {n : Nat} : ∀ q, va_A x n q → va_A (u ++ x) n q := fun q h => by
  rcases h with ⟨k, e, hk⟩ | h
  · refine .inl ⟨u.length + k, e, ?_⟩
    rw [List.getElem?_append_right (Nat.le_add_right _ _), Nat.add_sub_cancel_left]
    exact hk
  · exact .inr h
theorem wa_left {u x : va_W} {n : Nat} : ∀ q, va_A u n q → va_A (u ++ x) n q := fun q h => by
  rcases h with ⟨k, e, hk⟩ | h
  · refine .inl ⟨k, e, ?_⟩
    rw [List.getElem?_append_left (List.getElem?_eq_some_iff.mp hk).1]
    exact hk
  · exact .inr h
section NEWSV
variable {p : Program} {l : Launch} {e : Env} {R : Room} {s : State} {m : MethodId} {args : Array Value} {below : List Frame} {meth : Method} {c : Code} {H : Heap} {locs : List Loc} {cells slots : Nat} {Q : State → Prop} {cc : ByteArray} {nL pc : Nat} {ls : Array Slot} {rest : List Value} {D : va_G} {A : Nat → Prop} {u : va_W} {own : String}
set_option maxHeartbeats 4000000 in
set_option maxRecDepth 100000 in
theorem x_newSV {i1 i2 : Nat} (S : CallFix p m c cc nL s args lw_all own) (hcl : Cond.classLink own i1 RX11 ∈ lw_all) (L : Cond.methodLink own i2 yX11_init ∈ lw_all) (hK : va_K D vwCl (gTys D) s) (hP : va_P D vwCl u H) (hD : va_D A u) (hE : EV D A s s.heap) (hS : va_S A s.heap H locs) (hA : ∀ q, s.heap.size ≤ q → A q) (hls : ls.size = nL) (hW : ((Value.ref H.size :: rest).map fun v => v.category).sum ≤ 8) (hR : 6 ≤ R.frames ∧ 126 ≤ R.locals) (hr : cells + 1 + 233 ≤ R.cells ∧ slots + 10 + 7360 ≤ R.slots) (d0 : decode cc pc = .ok (.new i1, 3)) (d1 : decode cc (pc + 3) = .ok (.dup, 1)) (d2 : decode cc (pc + 3 + 1) = .ok (.invokespecial i2, 3))
    (kk : ∀ (H1 : Heap) (locs1 : List Loc) (α : Nat → Nat) (x : va_W) (v : VT), OB D α x v → RA 0 2 0 2 v → x.length = 234 → va_P D vwCl (u ++ x) H1 → va_D A (u ++ x) → va_S A s.heap H1 locs1 → KP s u H (u ++ x) H1 → W p l e R s m args below meth c H1 locs1 (cells + 1 + 233) (slots + 10 + 7360) Q (F0 m (pc + 3 + 1 + 3) ls (.ref (α 0) :: rest))) : W p l e R s m args below meth c H locs cells slots Q (F0 m pc ls rest) := by
  refine g_newO (ci := 11) (fs := [.null, .null, .null, .null, .null, .null, .null, .null, .null, .int 0]) S hK hP hD hS (hA _ hS.1) inX11 tyX11_ok rfl hcl qw25 qw1 dfX11 (Nat.le_trans (Nat.le_add_right _ 233) hr.1) (Nat.le_trans (Nat.le_add_right _ 7360) hr.2) d0 (fun H1 hz1 hold hP1 hD1 hS1 => ?_)
  have hDo : va_D (va_A u H.size) (u ++ [(H.size, .inr (11, [.null, .null, .null, .null, .null, .null, .null, .null, .null, .int 0]))]) := (wd_own hD).push hP rfl (.inr (Nat.le_refl _))
  refine lv_dup S.1 S.2.1 d1 rfl ?_
  obtain ⟨α, hα⟩ : ∃ α : Nat → Nat, ∀ i, α i = H.size + i := ⟨fun i => H.size + i, fun _ => rfl⟩
  have e0 : [(H.size, (.inr (11, [.null, .null, .null, .null, .null, .null, .null, .null, .null, .int 0]) : va_E))] = ([] ++ [cO α (0 + 0) 11 [.null, .null, .null, .null, .null, .null, .null, .null, .null, .int 0]] : va_W) := by
    show _ = [(α 0, _)]
    rw [hα 0]
    rfl
  have er : (Value.ref H.size) = .ref (α (0 + 0)) := by rw [hα]; rfl
  have hrest : (rest.map fun v => v.category).sum ≤ 8 := by
    rw [List.map_cons, List.sum_cons] at hW
    omega
  rw [e0] at hP1 hD1 hDo
  rw [er] at hW ⊢
  have hA1 : ∀ q, va_A ([] ++ [cO α (0 + 0) 11 [.null, .null, .null, .null, .null, .null, .null, .null, .null, .int 0]]) H1.size q → A q := wa_sub (wd_right hD1) (fun q hq => hA q (Nat.le_trans hS1.1 hq))
  have hAa : ∀ q, H.size ≤ q → va_A ([] ++ [cO α (0 + 0) 11 [.null, .null, .null, .null, .null, .null, .null, .null, .null, .int 0]]) H1.size q := fun q hq => by
    rcases Nat.eq_or_lt_of_le hq with z | z
    · exact .inl ⟨0, _, by rw [← z, ← show α 0 = H.size from hα 0]; rfl⟩
    · exact .inr (by omega)
  refine x_aftQ (V := none) (st1 := .ref (α (0 + 0)) :: rest) (x_I (As := []) (rest := .ref (α (0 + 0)) :: rest) (X := fun _ H => H.size = H1.size) S mc_X11_init L ((c_X11_init l D (va_A ([] ++ [cO α (0 + 0) 11 [.null, .null, .null, .null, .null, .null, .null, .null, .null, .int 0]]) H1.size) α H.size (fun i _ => by rw [Nat.zero_add]; exact hα i) hAa).mono (fun _ _ h => ⟨h.1, h.2.1, h.2.2.trans hz1⟩) (fun _ _ _ _ _ h => h)) (fun _ _ _ _ h => h) hK (wp_right hP1) (wd_own (wd_right hD1)) (hE.own hS1 (wd_right hD1) hA) rfl rfl rfl hls hW rfl rfl ⟨Nat.le_trans (Nat.le_of_ble_eq_true rfl) hR.1, Nat.le_trans (Nat.le_of_ble_eq_true rfl) hR.2⟩ hr d2) hS1 hA1 rfl (fun w1 H2 locs2 hq hP2 hD2 hz hk hS2 => ?_)
  obtain ⟨v, hB, hRA⟩ := ob_first hq.1
  obtain ⟨hP3, hD3⟩ := w_join hP1 hD1 (fun q hq => hA q (Nat.le_trans hS1.1 hq)) hk hP2 hD2
  obtain ⟨-, hD4⟩ := w_join hP1 hDo (fun q hq => .inr (by omega)) hk hP2 hD2
  refine kk H2 locs2 α w1 v hB hRA hq.2 hP3 hD3 hS2 (kp_of (by omega) (fun q hq _ => ?_) hD4)
  rw [hk q (by omega) (fun z => ?_), hold q hq]
  rcases z with ⟨k, e, hk2⟩ | z
  · have h4 : ([] ++ [cO α (0 + 0) 11 [.null, .null, .null, .null, .null, .null, .null, .null, .null, .int 0]] : va_W)[k]? = some (q, e) := hk2
    rw [← e0] at h4
    cases k with
    | zero =>
      have h5 : (H.size, (.inr (11, [.null, .null, .null, .null, .null, .null, .null, .null, .null, .int 0]) : va_E)) = (q, e) := Option.some.inj h4
      have h6 : H.size = q := congrArg Prod.fst h5
      omega
    | succ k => simp at h4
  · omega
end NEWSV
