/-! CALLS IN THE OBJECT'S OWN REGION: strings outside it stay -/
def KP (s : State) (w : va_W) (H : Heap) (w1 : va_W) (H1 : Heap) : Prop := H.size ≤ H1.size ∧ ∀ (a v n : Nat) (f : Nat → Int32), Tx (va_A w H.size) s H a v n f → Tx (va_A w1 H1.size) s H1 a v n f
theorem kp_of {s : State} {w w1 : va_W} {H H1 : Heap} (hz : H.size ≤ H1.size) (hk : ∀ q : Nat, q < H.size → ¬ va_A w H.size q → H1[q]? = H[q]?) (hD1 : va_D (va_A w H.size) w1) : KP s w H w1 H1 :=
  ⟨hz, fun _ _ _ _ h => (h.kept hk).narrow (wa_sub hD1 (fun _ hq => .inr (Nat.le_trans hz hq)))⟩
theorem KP.trans {s : State} {w w1 w2 : va_W} {H H1 H2 : Heap} (h : KP s w H w1 H1) (h1 : KP s w1 H1 w2 H2) : KP s w H w2 H2 := ⟨Nat.le_trans h.1 h1.1, fun a v n f t => h1.2 a v n f (h.2 a v n f t)⟩
theorem wd_up {A : Nat → Prop} {w w1 : va_W} {n : Nat} (hD : va_D A w) (hA : ∀ q, n ≤ q → A q) (h : va_D (va_A w n) w1) : va_D A w1 := ⟨h.1, fun k q hk => wa_sub hD hA q.1 (h.2 k q hk)⟩
/-- the string that a call left behind its world -/
theorem st_own {D : va_G} {A : Nat → Prop} {s : State} {H : Heap} {args : Array Value} {x : va_W} {a v n : Nat} {f : Nat → Int32} (hts : ∀ w ∈ lw_all, w.before args s = true) (hK : va_K D vwCl (gTys D) s) (hP : va_P D vwCl (x ++ stW D a v n f) H) (hD : va_D A (x ++ stW D a v n f)) : Tx (va_A x H.size) s H a v n f := st_tx (u := []) (x := x) hts hK hP hD
section XOWN
variable {p : Program} {l : Launch} {e : Env} {R : Room} {s : State} {m : MethodId} {args : Array Value} {below : List Frame} {meth : Method} {c : Code} {H : Heap} {locs : List Loc} {cells slots mc ms : Nat} {Q : State → Prop}
variable {pc : Nat} {ls : Array Slot} {rest st0 st1 : List Value} {D : va_G} {A : Nat → Prop} {w : va_W}
theorem x_ownQ {V : Option Value} {Wp : va_W → Prop} {a : Array Value} (hr : va_Run p l e R s m args below meth c H locs cells slots mc ms (F0 m pc ls st0) rest (gQ D (va_A w H.size) V Wp a) (va_A w H.size)) (hS : va_S A s.heap H locs) (hD : va_D A w) (hA : ∀ q, s.heap.size ≤ q → A q) (h1 : V.toList ++ rest = st1)
    (kk : ∀ (w1 : va_W) (H1 : Heap) (locs1 : List Loc), Wp w1 → va_P D vwCl w1 H1 → va_D A w1 → va_S A s.heap H1 locs1 → KP s w H w1 H1 → W p l e R s m args below meth c H1 locs1 (cells + mc) (slots + ms) Q (F0 m (pc + 3) ls st1)) : W p l e R s m args below meth c H locs cells slots Q (F0 m pc ls st0) :=
  x_aftQ hr hS (wa_sub hD (fun q hq => hA q (Nat.le_trans hS.1 hq))) h1 (fun w1 H1 locs1 hw hP hD1 hz hk hS1 => kk w1 H1 locs1 hw hP (wd_up hD (fun q hq => hA q (Nat.le_trans hS.1 hq)) hD1) hS1 (kp_of hz hk hD1))
/-- a contract over the heap, whose answer bears a world w1 and strings behind -/
theorem x_ownG {Qp : Option Value → Heap → Heap → Prop} {a : Array Value} (hr : va_Run p l e R s m args below meth c H locs cells slots mc ms (F0 m pc ls st0) rest (gG (va_A w H.size) Qp a) (va_A w H.size)) (hS : va_S A s.heap H locs) (hD : va_D A w) (hA : ∀ q, s.heap.size ≤ q → A q)
    (kk : ∀ (v : Option Value) (H1 : Heap) (locs1 : List Loc), Qp v H H1 → va_S A s.heap H1 locs1 → (∀ w1, va_D (va_A w H.size) w1 → va_D A w1 ∧ KP s w H w1 H1) → W p l e R s m args below meth c H1 locs1 (cells + mc) (slots + ms) Q (F0 m (pc + 3) ls (v.toList ++ rest))) : W p l e R s m args below meth c H locs cells slots Q (F0 m pc ls st0) :=
  x_aft hr hS (wa_sub hD (fun q hq => hA q (Nat.le_trans hS.1 hq))) (fun v H1 locs1 hq hz hk hS1 => kk v H1 locs1 hq hS1 (fun w1 hD1 => ⟨wd_up hD (fun q hq => hA q (Nat.le_trans hS.1 hq)) hD1, kp_of hz hk hD1⟩))
end XOWN
theorem DGf.own {A : Nat → Prop} {s : State} {H : Heap} {locs : List Loc} {x : va_W} (h : DGf A s s.heap) (hS : va_S A s.heap H locs) (hD : va_D A x) (hA : ∀ q, s.heap.size ≤ q → A q) : DGf (va_A x H.size) s H := (h.kept hS.2.1).narrow (wa_sub hD (fun q hq => hA q (Nat.le_trans hS.1 hq)))
/-! calls that are refused -/
section REF
variable {N P B Q : Nat} {v : VT}
theorem in_no {i : Int32} {b : Nat} (h : ¬ (¬ i < 0 ∧ ¬ nI b ≤ i)) : f_X11_isIn i (nI b) = false := by
  unfold f_X11_isIn
  by_cases q : i < 0
  · rw [if_pos q]
  · rw [if_neg q, if_pos]
    exact Decidable.byContradiction (fun z => h ⟨q, z⟩)
theorem no_boat6 (hR : RA N P B Q v) : f_X11_isBoat (v_nB v) 6 = false := by
  obtain ⟨e, h⟩ := ra_nB hR
  rw [e]
  exact in_no (fun z => z.2 (show nI B ≤ nI 6 from nI_le h (by decide)))
theorem no_neg (b : Nat) : f_X11_isIn (-1) (nI b) = false := in_no (fun z => z.1 (by decide))
theorem no_20 (hR : RA N P B Q v) : f_X11_isPerson (v_nP v) 20 = false := by
  obtain ⟨e, -, h⟩ := ra_nP hR
  rw [e]
  exact in_no (fun z => z.2 (show nI P ≤ nI 20 from nI_le h (by decide)))
theorem is_p0 (hR : RA N P B Q v) : f_X11_isPerson (v_nP v) 0 = true := ra_isP hR (p := 0) (by have := (ra_nP hR).2.1; omega)
theorem is_p1 (hR : RA N P B Q v) : f_X11_isPerson (v_nP v) 1 = true := ra_isP hR (p := 1) (by have := (ra_nP hR).2.1; omega)
theorem rf_1 (hR : RA N P B Q v) : a_sail v 6 1 = -1 ∧ n_sail v 6 1 = v := lf_sail_3 v 6 1 (no_boat6 hR)
theorem rf_2 (hR : RA N P B Q v) : a_delay v (-1) 1 = -1 ∧ n_delay v (-1) 1 = v := lf_delay_3 v (-1) 1 (by rw [(ra_nB hR).1]; exact no_neg B)
theorem rf_3 (hR : RA N P B Q v) : a_comeHome v 6 = -1 ∧ n_comeHome v 6 = v := lf_comeHome_2 v 6 (no_boat6 hR)
theorem rf_4 (hR : RA N P B Q v) : a_join v 20 (-2) = -1 ∧ n_join v 20 (-2) = v := lf_join_9 v 20 (-2) (no_20 hR)
theorem rf_5 (hR : RA N P B Q v) : a_join v 0 (-1) = -1 ∧ n_join v 0 (-1) = v := lf_join_8 v 0 (-1) (is_p0 hR) (by decide) (by rw [(ra_nB hR).1]; exact no_neg B)
theorem rf_6 (hR : RA N P B Q v) : a_open v 5 = -1 ∧ n_open v 5 = v := lf_open_3 v 5 (by decide) (by decide)
theorem rf_7 (hR : RA N P B Q v) : a_give v 0 0 (-2) = -1 ∧ n_give v 0 0 (-2) = v := lf_give_0 v 0 0 (-2) (is_p0 hR) (is_p0 hR) rfl
theorem rf_8 (hR : RA N P B Q v) : a_give v 0 1 4 = -1 ∧ n_give v 0 1 4 = v := lf_give_9 v 0 1 4 (is_p0 hR) (is_p1 hR) (by decide) (by decide) (by decide)
theorem rf_9 (hR : RA N P B Q v) : a_takeBack v (-1) = -1 ∧ n_takeBack v (-1) = v := lf_takeBack_5 v (-1) (by rw [(ra_nP hR).1]; exact no_neg P)
theorem rf_10 (hR : RA N P B Q v) : a_lay v 0 0 4 = -1 ∧ n_lay v 0 0 4 = v := by
  have e : f_X11_refusalToLay (v_nP v) (v_isOpen v) (v_baskets v) (v_seaO v) (v_plc v) (v_car v) 0 0 4 = -1 := by
    unfold f_X11_refusalToLay
    rw [is_p0 hR, cond_true, cond_true, show f_X11_isBasket 4 = false from by decide, cond_false]
  have h := lf_lay_1 v 0 0 4 (by rw [e]; decide)
  exact ⟨h.1.trans e, h.2⟩
theorem rf_11 (hR : RA N P B Q v) : a_contest v 0 20 = -1 ∧ ∀ blB blC, n_contest v blB blC 0 20 = v := ⟨(lf_contest_6 v z0 z0 0 20 (is_p0 hR) (no_20 hR)).1, fun blB blC => (lf_contest_6 v blB blC 0 20 (is_p0 hR) (no_20 hR)).2⟩
theorem rf_12 (_hR : RA N P B Q v) : a_pass v 0 = -1 ∧ n_pass v 0 = v := lf_pass_1 v 0 (by decide)
theorem rf_13 (_hR : RA N P B Q v) : a_pass v 100 = -1 ∧ n_pass v 100 = v := lf_pass_1 v 100 (by decide)
theorem rf_14 (_hR : RA N P B Q v) : a_keep v 2 = -1 ∧ n_keep v 2 = v := by
  have e : f_X11_isSlot 2 = false := by decide
  unfold a_keep n_keep f_X11_keep
  rw [e, cond_false]
  exact ⟨rfl, rfl⟩
theorem rf_15 (_hR : RA N P B Q v) : a_restore v (-1) = -1 ∧ n_restore v (-1) = v := lf_restore_2 v (-1) (by decide)
end REF
/-- the bottom of the saved states: what is there once all are taken back -/
def BOT (v : VT) (L : List StT) (t0 : StT) : Prop := (v.1 :: L).getLast? = some t0
theorem BOT.nil (v : VT) : BOT v [] v.1 := rfl
theorem BOT.push {v u : VT} {L : List StT} {t0 : StT} (h : BOT v L t0) : BOT u (v.1 :: L) t0 := by
  unfold BOT
  rw [List.getLast?_cons_cons]
  exact h
theorem BOT.pop {v u : VT} {t t0 : StT} {L : List StT} (h : BOT v (t :: L) t0) (e : u.1 = t) : BOT u L t0 := by
  unfold BOT at h ⊢
  rw [List.getLast?_cons_cons] at h
  rw [e]
  exact h
theorem BOT.end {v : VT} {t0 : StT} (h : BOT v [] t0) : v.1 = t0 := Option.some.inj h
