/-! THE LAW: stands, the baskets, boats, people -/
section ST
variable {pg : Program} {l : Launch} {en : Env} {s : State} {mi : MethodId} {ar : Array Value} {below : List Frame} {me : Method} {co : Code} {H : Heap} {locs : List Loc} {Z : State → Prop} {ls : Array Slot} {D : va_G} {A : Nat → Prop} {α : Nat → Nat} {w0 w : va_W} {v : VT} {N P B Q : Nat}
set_option maxHeartbeats 4000000 in
set_option maxRecDepth 100000 in
theorem st_kc3 (S : CallFix pg mi co cL_stands 12 s ar lw_all RL) (hK : va_K D vwCl (gTys D) s) (hP : va_P D vwCl w H) (hD : va_D A w) (hE : EV D A s s.heap) (hS : va_S A s.heap H locs) (hr : me.sig.returnType = some .boolean) (hlk : me.locks = false) (hB : OB D α w v) (hs0 : Same w0 w 0 234) (hR : RA N P B Q v) (hN : N ≤ 600) (hEnd : LEnd pg l en ({ frames := 9, cells := 0, slots := 0, locals := 230 } : Room) s mi ar below me co (stQ D A α w0 v) A Z 0 0) (hl : lv_has ls 12 [(0, .ref (α 0)), (1, .int (nI P)), (2, .int (sSea v P)), (3, .int (sStr v P)), (4, .int (sTrn v P)), (5, .int (sWrg v P)), (6, .int (sSum v P)), (7, .int 1), (8, .int (sOut v B)), (9, .int (sAbo v B)), (10, .int (((((0 : Int32) + (a_basket v (0 : Int32))) + (a_basket v (1 : Int32))) + (a_basket v (2 : Int32))) + (a_basket v (3 : Int32)))), (11, .int 3)]) (hT : TF v P B) (hKF : ∀ b : Int32, b = 0 ∨ b = 1 ∨ b = 2 ∨ b = 3 → KF v b) {r1 r2 : UInt32} (hc : Op.cmpValue (FP.fcmp r1 r2) .l = 0) : W pg l en ({ frames := 9, cells := 0, slots := 0, locals := 230 } : Room) s mi ar below me co H locs 0 0 Z (F0 mi 669 ls [.float r2, .float r1]) := by
  obtain ⟨k1, k2, k3⟩ := hKF 3 (by decide)
  rcases k3 with c | ⟨c, k3⟩
  · refine lv_fcmp S.1 S.2.1 dL_stands_669 ?_
    refine lv_if_ne (tgt := 697) S.1 S.2.1 dL_stands_670 (by decide) (fun z9 => absurd (hc) z9) (fun _ => ?_)
    refine lv_iload S.1 S.2.1 dL_stands_673 (lv_at hl 11 rfl) ?_
    refine lv_aload_n S.1 S.2.1 dL_stands_675 rfl (lv_at hl 0 rfl) ?_
    refine lv_bipush (v := 9) S.1 S.2.1 dL_stands_676 (by decide) ?_
    refine x_aftQ (st1 := [.int (a_value v (9 : Int32)), .int 3]) (x_V0 (As := [.int 9]) (rest := [.int 3]) S mi_X11_value qw725 (k_value l D A w α hR hN (9 : Int32) hB) hK hP hD (hE.kept hS.2.1) (hB.recv hK hP) rfl rfl hl.1 (Nat.le_of_ble_eq_true rfl) rfl rfl ⟨(Nat.le_of_ble_eq_true rfl), (Nat.le_of_ble_eq_true rfl)⟩ ⟨(Nat.le_of_ble_eq_true rfl), (Nat.le_of_ble_eq_true rfl)⟩ dL_stands_678) hS (fun _ h => h) rfl (fun w21 H locs hq hP hD hz hk hS => ?_)
    obtain ⟨hB, hsm⟩ := hq
    have hs0 := hs0.trans hsm
    clear hz hk
    refine lv_icmp_lt (tgt := 693) S.1 S.2.1 dL_stands_681 (by decide) (fun _ => ?_) (fun z9 => absurd (c) z9)
    refine lv_iconst (v := 1) S.1 S.2.1 dL_stands_693 (by decide) ?_
    refine lv_goto (tgt := 698) S.1 S.2.1 dL_stands_694 (by decide) ?_
    refine lv_istore (lv' := [(7, .int 1), (0, .ref (α 0)), (1, .int (nI P)), (2, .int (sSea v P)), (3, .int (sStr v P)), (4, .int (sTrn v P)), (5, .int (sWrg v P)), (6, .int (sSum v P)), (8, .int (sOut v B)), (9, .int (sAbo v B)), (10, .int (((((0 : Int32) + (a_basket v (0 : Int32))) + (a_basket v (1 : Int32))) + (a_basket v (2 : Int32))) + (a_basket v (3 : Int32)))), (11, .int 3)]) S.1 S.2.1 dL_stands_698 hl (by decide) rfl (fun ls hl => ?_)
    refine lv_iinc (v := 4) (lv' := [(11, .int 4), (7, .int 1), (0, .ref (α 0)), (1, .int (nI P)), (2, .int (sSea v P)), (3, .int (sStr v P)), (4, .int (sTrn v P)), (5, .int (sWrg v P)), (6, .int (sSum v P)), (8, .int (sOut v B)), (9, .int (sAbo v B)), (10, .int (((((0 : Int32) + (a_basket v (0 : Int32))) + (a_basket v (1 : Int32))) + (a_basket v (2 : Int32))) + (a_basket v (3 : Int32))))]) S.1 S.2.1 dL_stands_700 hl (k := 11) rfl (by decide) (by decide) rfl (fun ls hl => ?_)
    refine lv_goto (tgt := 595) S.1 S.2.1 dL_stands_703 (by decide) ?_
    refine lv_iload S.1 S.2.1 dL_stands_595 (lv_at hl 0 rfl) ?_
    refine lv_iconst (v := 4) S.1 S.2.1 dL_stands_597 (by decide) ?_
    refine lv_icmp_ge (tgt := 706) S.1 S.2.1 dL_stands_598 (by decide) (fun _ => ?_) (fun z9 => absurd (by decide) z9)
    exact st_t1 S hK hP hD hE hS hr hlk hB hs0 hR hN hEnd (lv_sub hl [2, 3, 4, 5, 6, 7, 8, 1, 9, 10, 11] rfl) hT
  · refine lv_fcmp S.1 S.2.1 dL_stands_669 ?_
    refine lv_if_ne (tgt := 697) S.1 S.2.1 dL_stands_670 (by decide) (fun z9 => absurd (hc) z9) (fun _ => ?_)
    refine lv_iload S.1 S.2.1 dL_stands_673 (lv_at hl 11 rfl) ?_
    refine lv_aload_n S.1 S.2.1 dL_stands_675 rfl (lv_at hl 0 rfl) ?_
    refine lv_bipush (v := 9) S.1 S.2.1 dL_stands_676 (by decide) ?_
    refine x_aftQ (st1 := [.int (a_value v (9 : Int32)), .int 3]) (x_V0 (As := [.int 9]) (rest := [.int 3]) S mi_X11_value qw725 (k_value l D A w α hR hN (9 : Int32) hB) hK hP hD (hE.kept hS.2.1) (hB.recv hK hP) rfl rfl hl.1 (Nat.le_of_ble_eq_true rfl) rfl rfl ⟨(Nat.le_of_ble_eq_true rfl), (Nat.le_of_ble_eq_true rfl)⟩ ⟨(Nat.le_of_ble_eq_true rfl), (Nat.le_of_ble_eq_true rfl)⟩ dL_stands_678) hS (fun _ h => h) rfl (fun w21 H locs hq hP hD hz hk hS => ?_)
    obtain ⟨hB, hsm⟩ := hq
    have hs0 := hs0.trans hsm
    clear hz hk
    refine lv_icmp_lt (tgt := 693) S.1 S.2.1 dL_stands_681 (by decide) (fun z9 => absurd z9 (c)) (fun _ => ?_)
    refine lv_aload_n S.1 S.2.1 dL_stands_684 rfl (lv_at hl 0 rfl) ?_
    refine lv_iload S.1 S.2.1 dL_stands_685 (lv_at hl 11 rfl) ?_
    refine x_aftR (st1 := [.int (a_basket v (3 : Int32))]) (x_V0 (As := [.int 3]) (rest := []) S mi_X11_basket qw1346 (k_basket l D A w21 α (3 : Int32) hB) hK hP hD (hE.kept hS.2.1) (hB.recv hK hP) rfl rfl hl.1 (Nat.le_of_ble_eq_true rfl) rfl rfl ⟨(Nat.le_of_ble_eq_true rfl), (Nat.le_of_ble_eq_true rfl)⟩ ⟨(Nat.le_of_ble_eq_true rfl), (Nat.le_of_ble_eq_true rfl)⟩ dL_stands_687) hS (fun _ h => h) rfl (fun locs hS => ?_)
    refine lv_if_ne (tgt := 697) S.1 S.2.1 dL_stands_690 (by decide) (fun z9 => absurd (k3) z9) (fun _ => ?_)
    refine lv_iconst (v := 1) S.1 S.2.1 dL_stands_693 (by decide) ?_
    refine lv_goto (tgt := 698) S.1 S.2.1 dL_stands_694 (by decide) ?_
    refine lv_istore (lv' := [(7, .int 1), (0, .ref (α 0)), (1, .int (nI P)), (2, .int (sSea v P)), (3, .int (sStr v P)), (4, .int (sTrn v P)), (5, .int (sWrg v P)), (6, .int (sSum v P)), (8, .int (sOut v B)), (9, .int (sAbo v B)), (10, .int (((((0 : Int32) + (a_basket v (0 : Int32))) + (a_basket v (1 : Int32))) + (a_basket v (2 : Int32))) + (a_basket v (3 : Int32)))), (11, .int 3)]) S.1 S.2.1 dL_stands_698 hl (by decide) rfl (fun ls hl => ?_)
    refine lv_iinc (v := 4) (lv' := [(11, .int 4), (7, .int 1), (0, .ref (α 0)), (1, .int (nI P)), (2, .int (sSea v P)), (3, .int (sStr v P)), (4, .int (sTrn v P)), (5, .int (sWrg v P)), (6, .int (sSum v P)), (8, .int (sOut v B)), (9, .int (sAbo v B)), (10, .int (((((0 : Int32) + (a_basket v (0 : Int32))) + (a_basket v (1 : Int32))) + (a_basket v (2 : Int32))) + (a_basket v (3 : Int32))))]) S.1 S.2.1 dL_stands_700 hl (k := 11) rfl (by decide) (by decide) rfl (fun ls hl => ?_)
    refine lv_goto (tgt := 595) S.1 S.2.1 dL_stands_703 (by decide) ?_
    refine lv_iload S.1 S.2.1 dL_stands_595 (lv_at hl 0 rfl) ?_
    refine lv_iconst (v := 4) S.1 S.2.1 dL_stands_597 (by decide) ?_
    refine lv_icmp_ge (tgt := 706) S.1 S.2.1 dL_stands_598 (by decide) (fun _ => ?_) (fun z9 => absurd (by decide) z9)
    exact st_t1 S hK hP hD hE hS hr hlk hB hs0 hR hN hEnd (lv_sub hl [2, 3, 4, 5, 6, 7, 8, 1, 9, 10, 11] rfl) hT
set_option maxHeartbeats 4000000 in
set_option maxRecDepth 100000 in
theorem st_ks3 (S : CallFix pg mi co cL_stands 12 s ar lw_all RL) (hK : va_K D vwCl (gTys D) s) (hP : va_P D vwCl w H) (hD : va_D A w) (hE : EV D A s s.heap) (hS : va_S A s.heap H locs) (hr : me.sig.returnType = some .boolean) (hlk : me.locks = false) (hB : OB D α w v) (hs0 : Same w0 w 0 234) (hR : RA N P B Q v) (hN : N ≤ 600) (hEnd : LEnd pg l en ({ frames := 9, cells := 0, slots := 0, locals := 230 } : Room) s mi ar below me co (stQ D A α w0 v) A Z 0 0) (hl : lv_has ls 12 [(0, .ref (α 0)), (1, .int (nI P)), (2, .int (sSea v P)), (3, .int (sStr v P)), (4, .int (sTrn v P)), (5, .int (sWrg v P)), (6, .int (sSum v P)), (7, .int 1), (8, .int (sOut v B)), (9, .int (sAbo v B)), (10, .int (((((0 : Int32) + (a_basket v (0 : Int32))) + (a_basket v (1 : Int32))) + (a_basket v (2 : Int32))) + (a_basket v (3 : Int32)))), (11, .int 3)]) (hT : TF v P B) (hKF : ∀ b : Int32, b = 0 ∨ b = 1 ∨ b = 2 ∨ b = 3 → KF v b) {r1 : UInt32} (hal : alike32 r1 (a_share v 3) = true) : W pg l en ({ frames := 9, cells := 0, slots := 0, locals := 230 } : Room) s mi ar below me co H locs 0 0 Z (F0 mi 641 ls [.float r1]) := by
  obtain ⟨k1, k2, k3⟩ := hKF 3 (by decide)
  rcases (inferInstance : Decidable (a_value v 7 = 0)) with c | c
  · refine lv_aload_n S.1 S.2.1 dL_stands_641 rfl (lv_at hl 0 rfl) ?_
    refine lv_bipush (v := 7) S.1 S.2.1 dL_stands_642 (by decide) ?_
    refine x_aftQ (st1 := [.int (a_value v (7 : Int32)), .float r1]) (x_V0 (As := [.int 7]) (rest := [.float r1]) S mi_X11_value qw725 (k_value l D A w α hR hN (7 : Int32) hB) hK hP hD (hE.kept hS.2.1) (hB.recv hK hP) rfl rfl hl.1 (Nat.le_of_ble_eq_true rfl) rfl rfl ⟨(Nat.le_of_ble_eq_true rfl), (Nat.le_of_ble_eq_true rfl)⟩ ⟨(Nat.le_of_ble_eq_true rfl), (Nat.le_of_ble_eq_true rfl)⟩ dL_stands_644) hS (fun _ h => h) rfl (fun w21 H locs hq hP hD hz hk hS => ?_)
    obtain ⟨hB, hsm⟩ := hq
    have hs0 := hs0.trans hsm
    clear hz hk
    refine lv_if_ne (tgt := 654) S.1 S.2.1 dL_stands_647 (by decide) (fun _ => ?_) (fun z9 => absurd z9 (c))
    refine lv_aload_n S.1 S.2.1 dL_stands_654 rfl (lv_at hl 0 rfl) ?_
    refine lv_iload S.1 S.2.1 dL_stands_655 (lv_at hl 11 rfl) ?_
    refine x_aftR (st1 := [.int (a_basket v (3 : Int32)), .float r1]) (x_V0 (As := [.int 3]) (rest := [.float r1]) S mi_X11_basket qw1346 (k_basket l D A w21 α (3 : Int32) hB) hK hP hD (hE.kept hS.2.1) (hB.recv hK hP) rfl rfl hl.1 (Nat.le_of_ble_eq_true rfl) rfl rfl ⟨(Nat.le_of_ble_eq_true rfl), (Nat.le_of_ble_eq_true rfl)⟩ ⟨(Nat.le_of_ble_eq_true rfl), (Nat.le_of_ble_eq_true rfl)⟩ dL_stands_657) hS (fun _ h => h) rfl (fun locs hS => ?_)
    refine lv_i2f S.1 S.2.1 dL_stands_660 ?_
    refine lv_aload_n S.1 S.2.1 dL_stands_661 rfl (lv_at hl 0 rfl) ?_
    refine lv_bipush (v := 7) S.1 S.2.1 dL_stands_662 (by decide) ?_
    refine x_aftQ (st1 := [.int (a_value v (7 : Int32)), .float (FP.i2f (a_basket v (3 : Int32))), .float r1]) (x_V0 (As := [.int 7]) (rest := [.float (FP.i2f (a_basket v (3 : Int32))), .float r1]) S mi_X11_value qw725 (k_value l D A w21 α hR hN (7 : Int32) hB) hK hP hD (hE.kept hS.2.1) (hB.recv hK hP) rfl rfl hl.1 (Nat.le_of_ble_eq_true rfl) rfl rfl ⟨(Nat.le_of_ble_eq_true rfl), (Nat.le_of_ble_eq_true rfl)⟩ ⟨(Nat.le_of_ble_eq_true rfl), (Nat.le_of_ble_eq_true rfl)⟩ dL_stands_664) hS (fun _ h => h) rfl (fun w22 H locs hq hP hD hz hk hS => ?_)
    obtain ⟨hB, hsm⟩ := hq
    have hs0 := hs0.trans hsm
    clear hz hk
    refine lv_i2f S.1 S.2.1 dL_stands_667 ?_
    refine W.base (lv_fdiv_any (Drawn.sameBut.refl s.drawn lw_cs) lw_bits S.1 S.2.1 dL_stands_668 (fun r2 d1 ha2 hd1 => ?_))
    exact st_kc3 (S.drawn d1) (va_K.moved (Vm.Alike.refl s.vm) hK) hP hD (EV.same (s := s) hE rfl) hS hr hlk hB hs0 hR hN (hEnd.drawn hd1) hl hT hKF (k2 _ _ hal (.inr ⟨c, ha2⟩))
  · refine lv_aload_n S.1 S.2.1 dL_stands_641 rfl (lv_at hl 0 rfl) ?_
    refine lv_bipush (v := 7) S.1 S.2.1 dL_stands_642 (by decide) ?_
    refine x_aftQ (st1 := [.int (a_value v (7 : Int32)), .float r1]) (x_V0 (As := [.int 7]) (rest := [.float r1]) S mi_X11_value qw725 (k_value l D A w α hR hN (7 : Int32) hB) hK hP hD (hE.kept hS.2.1) (hB.recv hK hP) rfl rfl hl.1 (Nat.le_of_ble_eq_true rfl) rfl rfl ⟨(Nat.le_of_ble_eq_true rfl), (Nat.le_of_ble_eq_true rfl)⟩ ⟨(Nat.le_of_ble_eq_true rfl), (Nat.le_of_ble_eq_true rfl)⟩ dL_stands_644) hS (fun _ h => h) rfl (fun w21 H locs hq hP hD hz hk hS => ?_)
    obtain ⟨hB, hsm⟩ := hq
    have hs0 := hs0.trans hsm
    clear hz hk
    refine lv_if_ne (tgt := 654) S.1 S.2.1 dL_stands_647 (by decide) (fun z9 => absurd (c) z9) (fun _ => ?_)
    refine lv_fconst0 S.1 S.2.1 dL_stands_650 ?_
    refine lv_goto (tgt := 669) S.1 S.2.1 dL_stands_651 (by decide) ?_
    exact st_kc3 S hK hP hD hE hS hr hlk hB hs0 hR hN hEnd hl hT hKF (k2 _ _ hal (.inl ⟨c, rfl⟩))
set_option maxHeartbeats 4000000 in
set_option maxRecDepth 100000 in
theorem st_k3 (S : CallFix pg mi co cL_stands 12 s ar lw_all RL) (hK : va_K D vwCl (gTys D) s) (hP : va_P D vwCl w H) (hD : va_D A w) (hE : EV D A s s.heap) (hS : va_S A s.heap H locs) (hr : me.sig.returnType = some .boolean) (hlk : me.locks = false) (hB : OB D α w v) (hs0 : Same w0 w 0 234) (hR : RA N P B Q v) (hN : N ≤ 600) (hEnd : LEnd pg l en ({ frames := 9, cells := 0, slots := 0, locals := 230 } : Room) s mi ar below me co (stQ D A α w0 v) A Z 0 0) (hl : lv_has ls 12 [(0, .ref (α 0)), (1, .int (nI P)), (2, .int (sSea v P)), (3, .int (sStr v P)), (4, .int (sTrn v P)), (5, .int (sWrg v P)), (6, .int (sSum v P)), (7, .int 1), (8, .int (sOut v B)), (9, .int (sAbo v B)), (10, .int ((((0 : Int32) + (a_basket v (0 : Int32))) + (a_basket v (1 : Int32))) + (a_basket v (2 : Int32)))), (11, .int 3)]) (hT : TF v P B) (hKF : ∀ b : Int32, b = 0 ∨ b = 1 ∨ b = 2 ∨ b = 3 → KF v b)  : W pg l en ({ frames := 9, cells := 0, slots := 0, locals := 230 } : Room) s mi ar below me co H locs 0 0 Z (F0 mi 595 ls []) := by
  obtain ⟨k1, k2, k3⟩ := hKF 3 (by decide)
  refine lv_iload S.1 S.2.1 dL_stands_595 (lv_at hl 11 rfl) ?_
  refine lv_iconst (v := 4) S.1 S.2.1 dL_stands_597 (by decide) ?_
  refine lv_icmp_ge (tgt := 706) S.1 S.2.1 dL_stands_598 (by decide) (fun z9 => absurd z9 (by decide)) (fun _ => ?_)
  refine lv_iload S.1 S.2.1 dL_stands_601 (lv_at hl 7 rfl) ?_
  refine lv_if_eq (tgt := 706) S.1 S.2.1 dL_stands_603 (by decide) (fun z9 => absurd z9 (by decide)) (fun _ => ?_)
  refine lv_iload S.1 S.2.1 dL_stands_606 (lv_at hl 10 rfl) ?_
  refine lv_aload_n S.1 S.2.1 dL_stands_608 rfl (lv_at hl 0 rfl) ?_
  refine lv_iload S.1 S.2.1 dL_stands_609 (lv_at hl 11 rfl) ?_
  refine x_aftR (st1 := [.int (a_basket v (3 : Int32)), .int ((((0 : Int32) + (a_basket v (0 : Int32))) + (a_basket v (1 : Int32))) + (a_basket v (2 : Int32)))]) (x_V0 (As := [.int 3]) (rest := [.int ((((0 : Int32) + (a_basket v (0 : Int32))) + (a_basket v (1 : Int32))) + (a_basket v (2 : Int32)))]) S mi_X11_basket qw1346 (k_basket l D A w α (3 : Int32) hB) hK hP hD (hE.kept hS.2.1) (hB.recv hK hP) rfl rfl hl.1 (Nat.le_of_ble_eq_true rfl) rfl rfl ⟨(Nat.le_of_ble_eq_true rfl), (Nat.le_of_ble_eq_true rfl)⟩ ⟨(Nat.le_of_ble_eq_true rfl), (Nat.le_of_ble_eq_true rfl)⟩ dL_stands_611) hS (fun _ h => h) rfl (fun locs hS => ?_)
  refine lv_iadd S.1 S.2.1 dL_stands_614 ?_
  refine lv_istore (lv' := [(10, .int (((((0 : Int32) + (a_basket v (0 : Int32))) + (a_basket v (1 : Int32))) + (a_basket v (2 : Int32))) + (a_basket v (3 : Int32)))), (0, .ref (α 0)), (1, .int (nI P)), (2, .int (sSea v P)), (3, .int (sStr v P)), (4, .int (sTrn v P)), (5, .int (sWrg v P)), (6, .int (sSum v P)), (7, .int 1), (8, .int (sOut v B)), (9, .int (sAbo v B)), (11, .int 3)]) S.1 S.2.1 dL_stands_615 hl (by decide) rfl (fun ls hl => ?_)
  refine lv_aload_n S.1 S.2.1 dL_stands_617 rfl (lv_at hl 1 rfl) ?_
  refine lv_iload S.1 S.2.1 dL_stands_618 (lv_at hl 11 rfl) ?_
  refine x_aftR (st1 := [.int (a_basket v (3 : Int32))]) (x_V0 (As := [.int 3]) (rest := []) S mi_X11_basket qw1346 (k_basket l D A w α (3 : Int32) hB) hK hP hD (hE.kept hS.2.1) (hB.recv hK hP) rfl rfl hl.1 (Nat.le_of_ble_eq_true rfl) rfl rfl ⟨(Nat.le_of_ble_eq_true rfl), (Nat.le_of_ble_eq_true rfl)⟩ ⟨(Nat.le_of_ble_eq_true rfl), (Nat.le_of_ble_eq_true rfl)⟩ dL_stands_620) hS (fun _ h => h) rfl (fun locs hS => ?_)
  refine lv_aload_n S.1 S.2.1 dL_stands_623 rfl (lv_at hl 1 rfl) ?_
  refine lv_iload S.1 S.2.1 dL_stands_624 (lv_at hl 11 rfl) ?_
  refine x_aftR (st1 := [.int (a_owners v (3 : Int32)), .int (a_basket v (3 : Int32))]) (x_V0 (As := [.int 3]) (rest := [.int (a_basket v (3 : Int32))]) S mi_X11_owners qw1313 (k_owners l D A w α (3 : Int32) hB) hK hP hD (hE.kept hS.2.1) (hB.recv hK hP) rfl rfl hl.1 (Nat.le_of_ble_eq_true rfl) rfl rfl ⟨(Nat.le_of_ble_eq_true rfl), (Nat.le_of_ble_eq_true rfl)⟩ ⟨(Nat.le_of_ble_eq_true rfl), (Nat.le_of_ble_eq_true rfl)⟩ dL_stands_626) hS (fun _ h => h) rfl (fun locs hS => ?_)
  refine x_aftR (st1 := [.int (f_J6_bitCount_0f7a4 (a_owners v (3 : Int32))), .int (a_basket v (3 : Int32))]) (x_St0 (As := [.int (a_owners v (3 : Int32))]) (rest := [.int (a_basket v (3 : Int32))]) S ms_J6_bitCount_0f7a4 qw1318 (c_J6_bitCount_0f7a4 l D A w α (a_owners v (3 : Int32))) hK hP hD (hE.kept hS.2.1) rfl rfl hl.1 (Nat.le_of_ble_eq_true rfl) rfl rfl ⟨(Nat.le_of_ble_eq_true rfl), (Nat.le_of_ble_eq_true rfl)⟩ ⟨(Nat.le_of_ble_eq_true rfl), (Nat.le_of_ble_eq_true rfl)⟩ dL_stands_629) hS (fun _ h => h) rfl (fun locs hS => ?_)
  refine lv_icmp_ne (tgt := 697) S.1 S.2.1 dL_stands_632 (by decide) (fun z9 => absurd (k1) z9) (fun _ => ?_)
  refine lv_aload_n S.1 S.2.1 dL_stands_635 rfl (lv_at hl 1 rfl) ?_
  refine lv_iload S.1 S.2.1 dL_stands_636 (lv_at hl 11 rfl) ?_
  refine x_aftF (rest := []) (g_VD0 (As := [.int 3]) (rest := []) S mi_X11_share qw1351 (k_share l D A w α (3 : Int32) hB) hK hP hD hE hS (hB.recv hK hP) rfl rfl hl.1 (Nat.le_of_ble_eq_true rfl) rfl rfl ⟨(Nat.le_of_ble_eq_true rfl), (Nat.le_of_ble_eq_true rfl)⟩ ⟨(Nat.le_of_ble_eq_true rfl), (Nat.le_of_ble_eq_true rfl)⟩ dL_stands_638) hS (fun r1 locs d1 hal hS hd1 => ?_)
  exact st_ks3 (S.drawn d1) (va_K.moved (Vm.Alike.refl s.vm) hK) hP hD (EV.same (s := s) hE rfl) hS hr hlk hB hs0 hR hN (hEnd.drawn hd1) (lv_sub hl [1, 2, 3, 4, 5, 6, 7, 8, 9, 10, 0, 11] rfl) hT hKF hal
set_option maxHeartbeats 4000000 in
set_option maxRecDepth 100000 in
theorem st_kc2 (S : CallFix pg mi co cL_stands 12 s ar lw_all RL) (hK : va_K D vwCl (gTys D) s) (hP : va_P D vwCl w H) (hD : va_D A w) (hE : EV D A s s.heap) (hS : va_S A s.heap H locs) (hr : me.sig.returnType = some .boolean) (hlk : me.locks = false) (hB : OB D α w v) (hs0 : Same w0 w 0 234) (hR : RA N P B Q v) (hN : N ≤ 600) (hEnd : LEnd pg l en ({ frames := 9, cells := 0, slots := 0, locals := 230 } : Room) s mi ar below me co (stQ D A α w0 v) A Z 0 0) (hl : lv_has ls 12 [(0, .ref (α 0)), (1, .int (nI P)), (2, .int (sSea v P)), (3, .int (sStr v P)), (4, .int (sTrn v P)), (5, .int (sWrg v P)), (6, .int (sSum v P)), (7, .int 1), (8, .int (sOut v B)), (9, .int (sAbo v B)), (10, .int ((((0 : Int32) + (a_basket v (0 : Int32))) + (a_basket v (1 : Int32))) + (a_basket v (2 : Int32)))), (11, .int 2)]) (hT : TF v P B) (hKF : ∀ b : Int32, b = 0 ∨ b = 1 ∨ b = 2 ∨ b = 3 → KF v b) {r1 r2 : UInt32} (hc : Op.cmpValue (FP.fcmp r1 r2) .l = 0) : W pg l en ({ frames := 9, cells := 0, slots := 0, locals := 230 } : Room) s mi ar below me co H locs 0 0 Z (F0 mi 669 ls [.float r2, .float r1]) := by
  obtain ⟨k1, k2, k3⟩ := hKF 2 (by decide)
  rcases k3 with c | ⟨c, k3⟩
  · refine lv_fcmp S.1 S.2.1 dL_stands_669 ?_
    refine lv_if_ne (tgt := 697) S.1 S.2.1 dL_stands_670 (by decide) (fun z9 => absurd (hc) z9) (fun _ => ?_)
    refine lv_iload S.1 S.2.1 dL_stands_673 (lv_at hl 11 rfl) ?_
    refine lv_aload_n S.1 S.2.1 dL_stands_675 rfl (lv_at hl 0 rfl) ?_
    refine lv_bipush (v := 9) S.1 S.2.1 dL_stands_676 (by decide) ?_
    refine x_aftQ (st1 := [.int (a_value v (9 : Int32)), .int 2]) (x_V0 (As := [.int 9]) (rest := [.int 2]) S mi_X11_value qw725 (k_value l D A w α hR hN (9 : Int32) hB) hK hP hD (hE.kept hS.2.1) (hB.recv hK hP) rfl rfl hl.1 (Nat.le_of_ble_eq_true rfl) rfl rfl ⟨(Nat.le_of_ble_eq_true rfl), (Nat.le_of_ble_eq_true rfl)⟩ ⟨(Nat.le_of_ble_eq_true rfl), (Nat.le_of_ble_eq_true rfl)⟩ dL_stands_678) hS (fun _ h => h) rfl (fun w21 H locs hq hP hD hz hk hS => ?_)
    obtain ⟨hB, hsm⟩ := hq
    have hs0 := hs0.trans hsm
    clear hz hk
    refine lv_icmp_lt (tgt := 693) S.1 S.2.1 dL_stands_681 (by decide) (fun _ => ?_) (fun z9 => absurd (c) z9)
    refine lv_iconst (v := 1) S.1 S.2.1 dL_stands_693 (by decide) ?_
    refine lv_goto (tgt := 698) S.1 S.2.1 dL_stands_694 (by decide) ?_
    refine lv_istore (lv' := [(7, .int 1), (0, .ref (α 0)), (1, .int (nI P)), (2, .int (sSea v P)), (3, .int (sStr v P)), (4, .int (sTrn v P)), (5, .int (sWrg v P)), (6, .int (sSum v P)), (8, .int (sOut v B)), (9, .int (sAbo v B)), (10, .int ((((0 : Int32) + (a_basket v (0 : Int32))) + (a_basket v (1 : Int32))) + (a_basket v (2 : Int32)))), (11, .int 2)]) S.1 S.2.1 dL_stands_698 hl (by decide) rfl (fun ls hl => ?_)
    refine lv_iinc (v := 3) (lv' := [(11, .int 3), (7, .int 1), (0, .ref (α 0)), (1, .int (nI P)), (2, .int (sSea v P)), (3, .int (sStr v P)), (4, .int (sTrn v P)), (5, .int (sWrg v P)), (6, .int (sSum v P)), (8, .int (sOut v B)), (9, .int (sAbo v B)), (10, .int ((((0 : Int32) + (a_basket v (0 : Int32))) + (a_basket v (1 : Int32))) + (a_basket v (2 : Int32))))]) S.1 S.2.1 dL_stands_700 hl (k := 11) rfl (by decide) (by decide) rfl (fun ls hl => ?_)
    refine lv_goto (tgt := 595) S.1 S.2.1 dL_stands_703 (by decide) ?_
    exact st_k3 S hK hP hD hE hS hr hlk hB hs0 hR hN hEnd (lv_sub hl [2, 3, 4, 5, 6, 7, 8, 1, 9, 10, 11, 0] rfl) hT hKF
  · refine lv_fcmp S.1 S.2.1 dL_stands_669 ?_
    refine lv_if_ne (tgt := 697) S.1 S.2.1 dL_stands_670 (by decide) (fun z9 => absurd (hc) z9) (fun _ => ?_)
    refine lv_iload S.1 S.2.1 dL_stands_673 (lv_at hl 11 rfl) ?_
    refine lv_aload_n S.1 S.2.1 dL_stands_675 rfl (lv_at hl 0 rfl) ?_
    refine lv_bipush (v := 9) S.1 S.2.1 dL_stands_676 (by decide) ?_
    refine x_aftQ (st1 := [.int (a_value v (9 : Int32)), .int 2]) (x_V0 (As := [.int 9]) (rest := [.int 2]) S mi_X11_value qw725 (k_value l D A w α hR hN (9 : Int32) hB) hK hP hD (hE.kept hS.2.1) (hB.recv hK hP) rfl rfl hl.1 (Nat.le_of_ble_eq_true rfl) rfl rfl ⟨(Nat.le_of_ble_eq_true rfl), (Nat.le_of_ble_eq_true rfl)⟩ ⟨(Nat.le_of_ble_eq_true rfl), (Nat.le_of_ble_eq_true rfl)⟩ dL_stands_678) hS (fun _ h => h) rfl (fun w21 H locs hq hP hD hz hk hS => ?_)
    obtain ⟨hB, hsm⟩ := hq
    have hs0 := hs0.trans hsm
    clear hz hk
    refine lv_icmp_lt (tgt := 693) S.1 S.2.1 dL_stands_681 (by decide) (fun z9 => absurd z9 (c)) (fun _ => ?_)
    refine lv_aload_n S.1 S.2.1 dL_stands_684 rfl (lv_at hl 0 rfl) ?_
    refine lv_iload S.1 S.2.1 dL_stands_685 (lv_at hl 11 rfl) ?_
    refine x_aftR (st1 := [.int (a_basket v (2 : Int32))]) (x_V0 (As := [.int 2]) (rest := []) S mi_X11_basket qw1346 (k_basket l D A w21 α (2 : Int32) hB) hK hP hD (hE.kept hS.2.1) (hB.recv hK hP) rfl rfl hl.1 (Nat.le_of_ble_eq_true rfl) rfl rfl ⟨(Nat.le_of_ble_eq_true rfl), (Nat.le_of_ble_eq_true rfl)⟩ ⟨(Nat.le_of_ble_eq_true rfl), (Nat.le_of_ble_eq_true rfl)⟩ dL_stands_687) hS (fun _ h => h) rfl (fun locs hS => ?_)
    refine lv_if_ne (tgt := 697) S.1 S.2.1 dL_stands_690 (by decide) (fun z9 => absurd (k3) z9) (fun _ => ?_)
    refine lv_iconst (v := 1) S.1 S.2.1 dL_stands_693 (by decide) ?_
    refine lv_goto (tgt := 698) S.1 S.2.1 dL_stands_694 (by decide) ?_
    refine lv_istore (lv' := [(7, .int 1), (0, .ref (α 0)), (1, .int (nI P)), (2, .int (sSea v P)), (3, .int (sStr v P)), (4, .int (sTrn v P)), (5, .int (sWrg v P)), (6, .int (sSum v P)), (8, .int (sOut v B)), (9, .int (sAbo v B)), (10, .int ((((0 : Int32) + (a_basket v (0 : Int32))) + (a_basket v (1 : Int32))) + (a_basket v (2 : Int32)))), (11, .int 2)]) S.1 S.2.1 dL_stands_698 hl (by decide) rfl (fun ls hl => ?_)
    refine lv_iinc (v := 3) (lv' := [(11, .int 3), (7, .int 1), (0, .ref (α 0)), (1, .int (nI P)), (2, .int (sSea v P)), (3, .int (sStr v P)), (4, .int (sTrn v P)), (5, .int (sWrg v P)), (6, .int (sSum v P)), (8, .int (sOut v B)), (9, .int (sAbo v B)), (10, .int ((((0 : Int32) + (a_basket v (0 : Int32))) + (a_basket v (1 : Int32))) + (a_basket v (2 : Int32))))]) S.1 S.2.1 dL_stands_700 hl (k := 11) rfl (by decide) (by decide) rfl (fun ls hl => ?_)
    refine lv_goto (tgt := 595) S.1 S.2.1 dL_stands_703 (by decide) ?_
    exact st_k3 S hK hP hD hE hS hr hlk hB hs0 hR hN hEnd (lv_sub hl [2, 3, 4, 5, 6, 7, 8, 1, 9, 10, 11, 0] rfl) hT hKF
set_option maxHeartbeats 4000000 in
set_option maxRecDepth 100000 in
theorem st_ks2 (S : CallFix pg mi co cL_stands 12 s ar lw_all RL) (hK : va_K D vwCl (gTys D) s) (hP : va_P D vwCl w H) (hD : va_D A w) (hE : EV D A s s.heap) (hS : va_S A s.heap H locs) (hr : me.sig.returnType = some .boolean) (hlk : me.locks = false) (hB : OB D α w v) (hs0 : Same w0 w 0 234) (hR : RA N P B Q v) (hN : N ≤ 600) (hEnd : LEnd pg l en ({ frames := 9, cells := 0, slots := 0, locals := 230 } : Room) s mi ar below me co (stQ D A α w0 v) A Z 0 0) (hl : lv_has ls 12 [(0, .ref (α 0)), (1, .int (nI P)), (2, .int (sSea v P)), (3, .int (sStr v P)), (4, .int (sTrn v P)), (5, .int (sWrg v P)), (6, .int (sSum v P)), (7, .int 1), (8, .int (sOut v B)), (9, .int (sAbo v B)), (10, .int ((((0 : Int32) + (a_basket v (0 : Int32))) + (a_basket v (1 : Int32))) + (a_basket v (2 : Int32)))), (11, .int 2)]) (hT : TF v P B) (hKF : ∀ b : Int32, b = 0 ∨ b = 1 ∨ b = 2 ∨ b = 3 → KF v b) {r1 : UInt32} (hal : alike32 r1 (a_share v 2) = true) : W pg l en ({ frames := 9, cells := 0, slots := 0, locals := 230 } : Room) s mi ar below me co H locs 0 0 Z (F0 mi 641 ls [.float r1]) := by
  obtain ⟨k1, k2, k3⟩ := hKF 2 (by decide)
  rcases (inferInstance : Decidable (a_value v 7 = 0)) with c | c
  · refine lv_aload_n S.1 S.2.1 dL_stands_641 rfl (lv_at hl 0 rfl) ?_
    refine lv_bipush (v := 7) S.1 S.2.1 dL_stands_642 (by decide) ?_
    refine x_aftQ (st1 := [.int (a_value v (7 : Int32)), .float r1]) (x_V0 (As := [.int 7]) (rest := [.float r1]) S mi_X11_value qw725 (k_value l D A w α hR hN (7 : Int32) hB) hK hP hD (hE.kept hS.2.1) (hB.recv hK hP) rfl rfl hl.1 (Nat.le_of_ble_eq_true rfl) rfl rfl ⟨(Nat.le_of_ble_eq_true rfl), (Nat.le_of_ble_eq_true rfl)⟩ ⟨(Nat.le_of_ble_eq_true rfl), (Nat.le_of_ble_eq_true rfl)⟩ dL_stands_644) hS (fun _ h => h) rfl (fun w21 H locs hq hP hD hz hk hS => ?_)
    obtain ⟨hB, hsm⟩ := hq
    have hs0 := hs0.trans hsm
    clear hz hk
    refine lv_if_ne (tgt := 654) S.1 S.2.1 dL_stands_647 (by decide) (fun _ => ?_) (fun z9 => absurd z9 (c))
    refine lv_aload_n S.1 S.2.1 dL_stands_654 rfl (lv_at hl 0 rfl) ?_
    refine lv_iload S.1 S.2.1 dL_stands_655 (lv_at hl 11 rfl) ?_
    refine x_aftR (st1 := [.int (a_basket v (2 : Int32)), .float r1]) (x_V0 (As := [.int 2]) (rest := [.float r1]) S mi_X11_basket qw1346 (k_basket l D A w21 α (2 : Int32) hB) hK hP hD (hE.kept hS.2.1) (hB.recv hK hP) rfl rfl hl.1 (Nat.le_of_ble_eq_true rfl) rfl rfl ⟨(Nat.le_of_ble_eq_true rfl), (Nat.le_of_ble_eq_true rfl)⟩ ⟨(Nat.le_of_ble_eq_true rfl), (Nat.le_of_ble_eq_true rfl)⟩ dL_stands_657) hS (fun _ h => h) rfl (fun locs hS => ?_)
    refine lv_i2f S.1 S.2.1 dL_stands_660 ?_
    refine lv_aload_n S.1 S.2.1 dL_stands_661 rfl (lv_at hl 0 rfl) ?_
    refine lv_bipush (v := 7) S.1 S.2.1 dL_stands_662 (by decide) ?_
    refine x_aftQ (st1 := [.int (a_value v (7 : Int32)), .float (FP.i2f (a_basket v (2 : Int32))), .float r1]) (x_V0 (As := [.int 7]) (rest := [.float (FP.i2f (a_basket v (2 : Int32))), .float r1]) S mi_X11_value qw725 (k_value l D A w21 α hR hN (7 : Int32) hB) hK hP hD (hE.kept hS.2.1) (hB.recv hK hP) rfl rfl hl.1 (Nat.le_of_ble_eq_true rfl) rfl rfl ⟨(Nat.le_of_ble_eq_true rfl), (Nat.le_of_ble_eq_true rfl)⟩ ⟨(Nat.le_of_ble_eq_true rfl), (Nat.le_of_ble_eq_true rfl)⟩ dL_stands_664) hS (fun _ h => h) rfl (fun w22 H locs hq hP hD hz hk hS => ?_)
    obtain ⟨hB, hsm⟩ := hq
    have hs0 := hs0.trans hsm
    clear hz hk
    refine lv_i2f S.1 S.2.1 dL_stands_667 ?_
    refine W.base (lv_fdiv_any (Drawn.sameBut.refl s.drawn lw_cs) lw_bits S.1 S.2.1 dL_stands_668 (fun r2 d1 ha2 hd1 => ?_))
    exact st_kc2 (S.drawn d1) (va_K.moved (Vm.Alike.refl s.vm) hK) hP hD (EV.same (s := s) hE rfl) hS hr hlk hB hs0 hR hN (hEnd.drawn hd1) hl hT hKF (k2 _ _ hal (.inr ⟨c, ha2⟩))
  · refine lv_aload_n S.1 S.2.1 dL_stands_641 rfl (lv_at hl 0 rfl) ?_
    refine lv_bipush (v := 7) S.1 S.2.1 dL_stands_642 (by decide) ?_
    refine x_aftQ (st1 := [.int (a_value v (7 : Int32)), .float r1]) (x_V0 (As := [.int 7]) (rest := [.float r1]) S mi_X11_value qw725 (k_value l D A w α hR hN (7 : Int32) hB) hK hP hD (hE.kept hS.2.1) (hB.recv hK hP) rfl rfl hl.1 (Nat.le_of_ble_eq_true rfl) rfl rfl ⟨(Nat.le_of_ble_eq_true rfl), (Nat.le_of_ble_eq_true rfl)⟩ ⟨(Nat.le_of_ble_eq_true rfl), (Nat.le_of_ble_eq_true rfl)⟩ dL_stands_644) hS (fun _ h => h) rfl (fun w21 H locs hq hP hD hz hk hS => ?_)
    obtain ⟨hB, hsm⟩ := hq
    have hs0 := hs0.trans hsm
    clear hz hk
    refine lv_if_ne (tgt := 654) S.1 S.2.1 dL_stands_647 (by decide) (fun z9 => absurd (c) z9) (fun _ => ?_)
    refine lv_fconst0 S.1 S.2.1 dL_stands_650 ?_
    refine lv_goto (tgt := 669) S.1 S.2.1 dL_stands_651 (by decide) ?_
    exact st_kc2 S hK hP hD hE hS hr hlk hB hs0 hR hN hEnd hl hT hKF (k2 _ _ hal (.inl ⟨c, rfl⟩))
set_option maxHeartbeats 4000000 in
set_option maxRecDepth 100000 in
theorem st_k2 (S : CallFix pg mi co cL_stands 12 s ar lw_all RL) (hK : va_K D vwCl (gTys D) s) (hP : va_P D vwCl w H) (hD : va_D A w) (hE : EV D A s s.heap) (hS : va_S A s.heap H locs) (hr : me.sig.returnType = some .boolean) (hlk : me.locks = false) (hB : OB D α w v) (hs0 : Same w0 w 0 234) (hR : RA N P B Q v) (hN : N ≤ 600) (hEnd : LEnd pg l en ({ frames := 9, cells := 0, slots := 0, locals := 230 } : Room) s mi ar below me co (stQ D A α w0 v) A Z 0 0) (hl : lv_has ls 12 [(0, .ref (α 0)), (1, .int (nI P)), (2, .int (sSea v P)), (3, .int (sStr v P)), (4, .int (sTrn v P)), (5, .int (sWrg v P)), (6, .int (sSum v P)), (7, .int 1), (8, .int (sOut v B)), (9, .int (sAbo v B)), (10, .int (((0 : Int32) + (a_basket v (0 : Int32))) + (a_basket v (1 : Int32)))), (11, .int 2)]) (hT : TF v P B) (hKF : ∀ b : Int32, b = 0 ∨ b = 1 ∨ b = 2 ∨ b = 3 → KF v b)  : W pg l en ({ frames := 9, cells := 0, slots := 0, locals := 230 } : Room) s mi ar below me co H locs 0 0 Z (F0 mi 595 ls []) := by
  obtain ⟨k1, k2, k3⟩ := hKF 2 (by decide)
  refine lv_iload S.1 S.2.1 dL_stands_595 (lv_at hl 11 rfl) ?_
  refine lv_iconst (v := 4) S.1 S.2.1 dL_stands_597 (by decide) ?_
  refine lv_icmp_ge (tgt := 706) S.1 S.2.1 dL_stands_598 (by decide) (fun z9 => absurd z9 (by decide)) (fun _ => ?_)
  refine lv_iload S.1 S.2.1 dL_stands_601 (lv_at hl 7 rfl) ?_
  refine lv_if_eq (tgt := 706) S.1 S.2.1 dL_stands_603 (by decide) (fun z9 => absurd z9 (by decide)) (fun _ => ?_)
  refine lv_iload S.1 S.2.1 dL_stands_606 (lv_at hl 10 rfl) ?_
  refine lv_aload_n S.1 S.2.1 dL_stands_608 rfl (lv_at hl 0 rfl) ?_
  refine lv_iload S.1 S.2.1 dL_stands_609 (lv_at hl 11 rfl) ?_
  refine x_aftR (st1 := [.int (a_basket v (2 : Int32)), .int (((0 : Int32) + (a_basket v (0 : Int32))) + (a_basket v (1 : Int32)))]) (x_V0 (As := [.int 2]) (rest := [.int (((0 : Int32) + (a_basket v (0 : Int32))) + (a_basket v (1 : Int32)))]) S mi_X11_basket qw1346 (k_basket l D A w α (2 : Int32) hB) hK hP hD (hE.kept hS.2.1) (hB.recv hK hP) rfl rfl hl.1 (Nat.le_of_ble_eq_true rfl) rfl rfl ⟨(Nat.le_of_ble_eq_true rfl), (Nat.le_of_ble_eq_true rfl)⟩ ⟨(Nat.le_of_ble_eq_true rfl), (Nat.le_of_ble_eq_true rfl)⟩ dL_stands_611) hS (fun _ h => h) rfl (fun locs hS => ?_)
  refine lv_iadd S.1 S.2.1 dL_stands_614 ?_
  refine lv_istore (lv' := [(10, .int ((((0 : Int32) + (a_basket v (0 : Int32))) + (a_basket v (1 : Int32))) + (a_basket v (2 : Int32)))), (0, .ref (α 0)), (1, .int (nI P)), (2, .int (sSea v P)), (3, .int (sStr v P)), (4, .int (sTrn v P)), (5, .int (sWrg v P)), (6, .int (sSum v P)), (7, .int 1), (8, .int (sOut v B)), (9, .int (sAbo v B)), (11, .int 2)]) S.1 S.2.1 dL_stands_615 hl (by decide) rfl (fun ls hl => ?_)
  refine lv_aload_n S.1 S.2.1 dL_stands_617 rfl (lv_at hl 1 rfl) ?_
  refine lv_iload S.1 S.2.1 dL_stands_618 (lv_at hl 11 rfl) ?_
  refine x_aftR (st1 := [.int (a_basket v (2 : Int32))]) (x_V0 (As := [.int 2]) (rest := []) S mi_X11_basket qw1346 (k_basket l D A w α (2 : Int32) hB) hK hP hD (hE.kept hS.2.1) (hB.recv hK hP) rfl rfl hl.1 (Nat.le_of_ble_eq_true rfl) rfl rfl ⟨(Nat.le_of_ble_eq_true rfl), (Nat.le_of_ble_eq_true rfl)⟩ ⟨(Nat.le_of_ble_eq_true rfl), (Nat.le_of_ble_eq_true rfl)⟩ dL_stands_620) hS (fun _ h => h) rfl (fun locs hS => ?_)
  refine lv_aload_n S.1 S.2.1 dL_stands_623 rfl (lv_at hl 1 rfl) ?_
  refine lv_iload S.1 S.2.1 dL_stands_624 (lv_at hl 11 rfl) ?_
  refine x_aftR (st1 := [.int (a_owners v (2 : Int32)), .int (a_basket v (2 : Int32))]) (x_V0 (As := [.int 2]) (rest := [.int (a_basket v (2 : Int32))]) S mi_X11_owners qw1313 (k_owners l D A w α (2 : Int32) hB) hK hP hD (hE.kept hS.2.1) (hB.recv hK hP) rfl rfl hl.1 (Nat.le_of_ble_eq_true rfl) rfl rfl ⟨(Nat.le_of_ble_eq_true rfl), (Nat.le_of_ble_eq_true rfl)⟩ ⟨(Nat.le_of_ble_eq_true rfl), (Nat.le_of_ble_eq_true rfl)⟩ dL_stands_626) hS (fun _ h => h) rfl (fun locs hS => ?_)
  refine x_aftR (st1 := [.int (f_J6_bitCount_0f7a4 (a_owners v (2 : Int32))), .int (a_basket v (2 : Int32))]) (x_St0 (As := [.int (a_owners v (2 : Int32))]) (rest := [.int (a_basket v (2 : Int32))]) S ms_J6_bitCount_0f7a4 qw1318 (c_J6_bitCount_0f7a4 l D A w α (a_owners v (2 : Int32))) hK hP hD (hE.kept hS.2.1) rfl rfl hl.1 (Nat.le_of_ble_eq_true rfl) rfl rfl ⟨(Nat.le_of_ble_eq_true rfl), (Nat.le_of_ble_eq_true rfl)⟩ ⟨(Nat.le_of_ble_eq_true rfl), (Nat.le_of_ble_eq_true rfl)⟩ dL_stands_629) hS (fun _ h => h) rfl (fun locs hS => ?_)
  refine lv_icmp_ne (tgt := 697) S.1 S.2.1 dL_stands_632 (by decide) (fun z9 => absurd (k1) z9) (fun _ => ?_)
  refine lv_aload_n S.1 S.2.1 dL_stands_635 rfl (lv_at hl 1 rfl) ?_
  refine lv_iload S.1 S.2.1 dL_stands_636 (lv_at hl 11 rfl) ?_
  refine x_aftF (rest := []) (g_VD0 (As := [.int 2]) (rest := []) S mi_X11_share qw1351 (k_share l D A w α (2 : Int32) hB) hK hP hD hE hS (hB.recv hK hP) rfl rfl hl.1 (Nat.le_of_ble_eq_true rfl) rfl rfl ⟨(Nat.le_of_ble_eq_true rfl), (Nat.le_of_ble_eq_true rfl)⟩ ⟨(Nat.le_of_ble_eq_true rfl), (Nat.le_of_ble_eq_true rfl)⟩ dL_stands_638) hS (fun r1 locs d1 hal hS hd1 => ?_)
  exact st_ks2 (S.drawn d1) (va_K.moved (Vm.Alike.refl s.vm) hK) hP hD (EV.same (s := s) hE rfl) hS hr hlk hB hs0 hR hN (hEnd.drawn hd1) (lv_sub hl [1, 2, 3, 4, 5, 6, 7, 8, 9, 10, 0, 11] rfl) hT hKF hal
set_option maxHeartbeats 4000000 in
set_option maxRecDepth 100000 in
theorem st_kc1 (S : CallFix pg mi co cL_stands 12 s ar lw_all RL) (hK : va_K D vwCl (gTys D) s) (hP : va_P D vwCl w H) (hD : va_D A w) (hE : EV D A s s.heap) (hS : va_S A s.heap H locs) (hr : me.sig.returnType = some .boolean) (hlk : me.locks = false) (hB : OB D α w v) (hs0 : Same w0 w 0 234) (hR : RA N P B Q v) (hN : N ≤ 600) (hEnd : LEnd pg l en ({ frames := 9, cells := 0, slots := 0, locals := 230 } : Room) s mi ar below me co (stQ D A α w0 v) A Z 0 0) (hl : lv_has ls 12 [(0, .ref (α 0)), (1, .int (nI P)), (2, .int (sSea v P)), (3, .int (sStr v P)), (4, .int (sTrn v P)), (5, .int (sWrg v P)), (6, .int (sSum v P)), (7, .int 1), (8, .int (sOut v B)), (9, .int (sAbo v B)), (10, .int (((0 : Int32) + (a_basket v (0 : Int32))) + (a_basket v (1 : Int32)))), (11, .int 1)]) (hT : TF v P B) (hKF : ∀ b : Int32, b = 0 ∨ b = 1 ∨ b = 2 ∨ b = 3 → KF v b) {r1 r2 : UInt32} (hc : Op.cmpValue (FP.fcmp r1 r2) .l = 0) : W pg l en ({ frames := 9, cells := 0, slots := 0, locals := 230 } : Room) s mi ar below me co H locs 0 0 Z (F0 mi 669 ls [.float r2, .float r1]) := by
  obtain ⟨k1, k2, k3⟩ := hKF 1 (by decide)
  rcases k3 with c | ⟨c, k3⟩
  · refine lv_fcmp S.1 S.2.1 dL_stands_669 ?_
    refine lv_if_ne (tgt := 697) S.1 S.2.1 dL_stands_670 (by decide) (fun z9 => absurd (hc) z9) (fun _ => ?_)
    refine lv_iload S.1 S.2.1 dL_stands_673 (lv_at hl 11 rfl) ?_
    refine lv_aload_n S.1 S.2.1 dL_stands_675 rfl (lv_at hl 0 rfl) ?_
    refine lv_bipush (v := 9) S.1 S.2.1 dL_stands_676 (by decide) ?_
    refine x_aftQ (st1 := [.int (a_value v (9 : Int32)), .int 1]) (x_V0 (As := [.int 9]) (rest := [.int 1]) S mi_X11_value qw725 (k_value l D A w α hR hN (9 : Int32) hB) hK hP hD (hE.kept hS.2.1) (hB.recv hK hP) rfl rfl hl.1 (Nat.le_of_ble_eq_true rfl) rfl rfl ⟨(Nat.le_of_ble_eq_true rfl), (Nat.le_of_ble_eq_true rfl)⟩ ⟨(Nat.le_of_ble_eq_true rfl), (Nat.le_of_ble_eq_true rfl)⟩ dL_stands_678) hS (fun _ h => h) rfl (fun w21 H locs hq hP hD hz hk hS => ?_)
    obtain ⟨hB, hsm⟩ := hq
    have hs0 := hs0.trans hsm
    clear hz hk
    refine lv_icmp_lt (tgt := 693) S.1 S.2.1 dL_stands_681 (by decide) (fun _ => ?_) (fun z9 => absurd (c) z9)
    refine lv_iconst (v := 1) S.1 S.2.1 dL_stands_693 (by decide) ?_
    refine lv_goto (tgt := 698) S.1 S.2.1 dL_stands_694 (by decide) ?_
    refine lv_istore (lv' := [(7, .int 1), (0, .ref (α 0)), (1, .int (nI P)), (2, .int (sSea v P)), (3, .int (sStr v P)), (4, .int (sTrn v P)), (5, .int (sWrg v P)), (6, .int (sSum v P)), (8, .int (sOut v B)), (9, .int (sAbo v B)), (10, .int (((0 : Int32) + (a_basket v (0 : Int32))) + (a_basket v (1 : Int32)))), (11, .int 1)]) S.1 S.2.1 dL_stands_698 hl (by decide) rfl (fun ls hl => ?_)
    refine lv_iinc (v := 2) (lv' := [(11, .int 2), (7, .int 1), (0, .ref (α 0)), (1, .int (nI P)), (2, .int (sSea v P)), (3, .int (sStr v P)), (4, .int (sTrn v P)), (5, .int (sWrg v P)), (6, .int (sSum v P)), (8, .int (sOut v B)), (9, .int (sAbo v B)), (10, .int (((0 : Int32) + (a_basket v (0 : Int32))) + (a_basket v (1 : Int32))))]) S.1 S.2.1 dL_stands_700 hl (k := 11) rfl (by decide) (by decide) rfl (fun ls hl => ?_)
    refine lv_goto (tgt := 595) S.1 S.2.1 dL_stands_703 (by decide) ?_
    exact st_k2 S hK hP hD hE hS hr hlk hB hs0 hR hN hEnd (lv_sub hl [2, 3, 4, 5, 6, 7, 8, 1, 9, 10, 11, 0] rfl) hT hKF
  · refine lv_fcmp S.1 S.2.1 dL_stands_669 ?_
    refine lv_if_ne (tgt := 697) S.1 S.2.1 dL_stands_670 (by decide) (fun z9 => absurd (hc) z9) (fun _ => ?_)
    refine lv_iload S.1 S.2.1 dL_stands_673 (lv_at hl 11 rfl) ?_
    refine lv_aload_n S.1 S.2.1 dL_stands_675 rfl (lv_at hl 0 rfl) ?_
    refine lv_bipush (v := 9) S.1 S.2.1 dL_stands_676 (by decide) ?_
    refine x_aftQ (st1 := [.int (a_value v (9 : Int32)), .int 1]) (x_V0 (As := [.int 9]) (rest := [.int 1]) S mi_X11_value qw725 (k_value l D A w α hR hN (9 : Int32) hB) hK hP hD (hE.kept hS.2.1) (hB.recv hK hP) rfl rfl hl.1 (Nat.le_of_ble_eq_true rfl) rfl rfl ⟨(Nat.le_of_ble_eq_true rfl), (Nat.le_of_ble_eq_true rfl)⟩ ⟨(Nat.le_of_ble_eq_true rfl), (Nat.le_of_ble_eq_true rfl)⟩ dL_stands_678) hS (fun _ h => h) rfl (fun w21 H locs hq hP hD hz hk hS => ?_)
    obtain ⟨hB, hsm⟩ := hq
    have hs0 := hs0.trans hsm
    clear hz hk
    refine lv_icmp_lt (tgt := 693) S.1 S.2.1 dL_stands_681 (by decide) (fun z9 => absurd z9 (c)) (fun _ => ?_)
    refine lv_aload_n S.1 S.2.1 dL_stands_684 rfl (lv_at hl 0 rfl) ?_
    refine lv_iload S.1 S.2.1 dL_stands_685 (lv_at hl 11 rfl) ?_
    refine x_aftR (st1 := [.int (a_basket v (1 : Int32))]) (x_V0 (As := [.int 1]) (rest := []) S mi_X11_basket qw1346 (k_basket l D A w21 α (1 : Int32) hB) hK hP hD (hE.kept hS.2.1) (hB.recv hK hP) rfl rfl hl.1 (Nat.le_of_ble_eq_true rfl) rfl rfl ⟨(Nat.le_of_ble_eq_true rfl), (Nat.le_of_ble_eq_true rfl)⟩ ⟨(Nat.le_of_ble_eq_true rfl), (Nat.le_of_ble_eq_true rfl)⟩ dL_stands_687) hS (fun _ h => h) rfl (fun locs hS => ?_)
    refine lv_if_ne (tgt := 697) S.1 S.2.1 dL_stands_690 (by decide) (fun z9 => absurd (k3) z9) (fun _ => ?_)
    refine lv_iconst (v := 1) S.1 S.2.1 dL_stands_693 (by decide) ?_
    refine lv_goto (tgt := 698) S.1 S.2.1 dL_stands_694 (by decide) ?_
    refine lv_istore (lv' := [(7, .int 1), (0, .ref (α 0)), (1, .int (nI P)), (2, .int (sSea v P)), (3, .int (sStr v P)), (4, .int (sTrn v P)), (5, .int (sWrg v P)), (6, .int (sSum v P)), (8, .int (sOut v B)), (9, .int (sAbo v B)), (10, .int (((0 : Int32) + (a_basket v (0 : Int32))) + (a_basket v (1 : Int32)))), (11, .int 1)]) S.1 S.2.1 dL_stands_698 hl (by decide) rfl (fun ls hl => ?_)
    refine lv_iinc (v := 2) (lv' := [(11, .int 2), (7, .int 1), (0, .ref (α 0)), (1, .int (nI P)), (2, .int (sSea v P)), (3, .int (sStr v P)), (4, .int (sTrn v P)), (5, .int (sWrg v P)), (6, .int (sSum v P)), (8, .int (sOut v B)), (9, .int (sAbo v B)), (10, .int (((0 : Int32) + (a_basket v (0 : Int32))) + (a_basket v (1 : Int32))))]) S.1 S.2.1 dL_stands_700 hl (k := 11) rfl (by decide) (by decide) rfl (fun ls hl => ?_)
    refine lv_goto (tgt := 595) S.1 S.2.1 dL_stands_703 (by decide) ?_
    exact st_k2 S hK hP hD hE hS hr hlk hB hs0 hR hN hEnd (lv_sub hl [2, 3, 4, 5, 6, 7, 8, 1, 9, 10, 11, 0] rfl) hT hKF
set_option maxHeartbeats 4000000 in
set_option maxRecDepth 100000 in
theorem st_ks1 (S : CallFix pg mi co cL_stands 12 s ar lw_all RL) (hK : va_K D vwCl (gTys D) s) (hP : va_P D vwCl w H) (hD : va_D A w) (hE : EV D A s s.heap) (hS : va_S A s.heap H locs) (hr : me.sig.returnType = some .boolean) (hlk : me.locks = false) (hB : OB D α w v) (hs0 : Same w0 w 0 234) (hR : RA N P B Q v) (hN : N ≤ 600) (hEnd : LEnd pg l en ({ frames := 9, cells := 0, slots := 0, locals := 230 } : Room) s mi ar below me co (stQ D A α w0 v) A Z 0 0) (hl : lv_has ls 12 [(0, .ref (α 0)), (1, .int (nI P)), (2, .int (sSea v P)), (3, .int (sStr v P)), (4, .int (sTrn v P)), (5, .int (sWrg v P)), (6, .int (sSum v P)), (7, .int 1), (8, .int (sOut v B)), (9, .int (sAbo v B)), (10, .int (((0 : Int32) + (a_basket v (0 : Int32))) + (a_basket v (1 : Int32)))), (11, .int 1)]) (hT : TF v P B) (hKF : ∀ b : Int32, b = 0 ∨ b = 1 ∨ b = 2 ∨ b = 3 → KF v b) {r1 : UInt32} (hal : alike32 r1 (a_share v 1) = true) : W pg l en ({ frames := 9, cells := 0, slots := 0, locals := 230 } : Room) s mi ar below me co H locs 0 0 Z (F0 mi 641 ls [.float r1]) := by
  obtain ⟨k1, k2, k3⟩ := hKF 1 (by decide)
  rcases (inferInstance : Decidable (a_value v 7 = 0)) with c | c
  · refine lv_aload_n S.1 S.2.1 dL_stands_641 rfl (lv_at hl 0 rfl) ?_
    refine lv_bipush (v := 7) S.1 S.2.1 dL_stands_642 (by decide) ?_
    refine x_aftQ (st1 := [.int (a_value v (7 : Int32)), .float r1]) (x_V0 (As := [.int 7]) (rest := [.float r1]) S mi_X11_value qw725 (k_value l D A w α hR hN (7 : Int32) hB) hK hP hD (hE.kept hS.2.1) (hB.recv hK hP) rfl rfl hl.1 (Nat.le_of_ble_eq_true rfl) rfl rfl ⟨(Nat.le_of_ble_eq_true rfl), (Nat.le_of_ble_eq_true rfl)⟩ ⟨(Nat.le_of_ble_eq_true rfl), (Nat.le_of_ble_eq_true rfl)⟩ dL_stands_644) hS (fun _ h => h) rfl (fun w21 H locs hq hP hD hz hk hS => ?_)
    obtain ⟨hB, hsm⟩ := hq
    have hs0 := hs0.trans hsm
    clear hz hk
    refine lv_if_ne (tgt := 654) S.1 S.2.1 dL_stands_647 (by decide) (fun _ => ?_) (fun z9 => absurd z9 (c))
    refine lv_aload_n S.1 S.2.1 dL_stands_654 rfl (lv_at hl 0 rfl) ?_
    refine lv_iload S.1 S.2.1 dL_stands_655 (lv_at hl 11 rfl) ?_
    refine x_aftR (st1 := [.int (a_basket v (1 : Int32)), .float r1]) (x_V0 (As := [.int 1]) (rest := [.float r1]) S mi_X11_basket qw1346 (k_basket l D A w21 α (1 : Int32) hB) hK hP hD (hE.kept hS.2.1) (hB.recv hK hP) rfl rfl hl.1 (Nat.le_of_ble_eq_true rfl) rfl rfl ⟨(Nat.le_of_ble_eq_true rfl), (Nat.le_of_ble_eq_true rfl)⟩ ⟨(Nat.le_of_ble_eq_true rfl), (Nat.le_of_ble_eq_true rfl)⟩ dL_stands_657) hS (fun _ h => h) rfl (fun locs hS => ?_)
    refine lv_i2f S.1 S.2.1 dL_stands_660 ?_
    refine lv_aload_n S.1 S.2.1 dL_stands_661 rfl (lv_at hl 0 rfl) ?_
    refine lv_bipush (v := 7) S.1 S.2.1 dL_stands_662 (by decide) ?_
    refine x_aftQ (st1 := [.int (a_value v (7 : Int32)), .float (FP.i2f (a_basket v (1 : Int32))), .float r1]) (x_V0 (As := [.int 7]) (rest := [.float (FP.i2f (a_basket v (1 : Int32))), .float r1]) S mi_X11_value qw725 (k_value l D A w21 α hR hN (7 : Int32) hB) hK hP hD (hE.kept hS.2.1) (hB.recv hK hP) rfl rfl hl.1 (Nat.le_of_ble_eq_true rfl) rfl rfl ⟨(Nat.le_of_ble_eq_true rfl), (Nat.le_of_ble_eq_true rfl)⟩ ⟨(Nat.le_of_ble_eq_true rfl), (Nat.le_of_ble_eq_true rfl)⟩ dL_stands_664) hS (fun _ h => h) rfl (fun w22 H locs hq hP hD hz hk hS => ?_)
    obtain ⟨hB, hsm⟩ := hq
    have hs0 := hs0.trans hsm
    clear hz hk
    refine lv_i2f S.1 S.2.1 dL_stands_667 ?_
    refine W.base (lv_fdiv_any (Drawn.sameBut.refl s.drawn lw_cs) lw_bits S.1 S.2.1 dL_stands_668 (fun r2 d1 ha2 hd1 => ?_))
    exact st_kc1 (S.drawn d1) (va_K.moved (Vm.Alike.refl s.vm) hK) hP hD (EV.same (s := s) hE rfl) hS hr hlk hB hs0 hR hN (hEnd.drawn hd1) hl hT hKF (k2 _ _ hal (.inr ⟨c, ha2⟩))
  · refine lv_aload_n S.1 S.2.1 dL_stands_641 rfl (lv_at hl 0 rfl) ?_
    refine lv_bipush (v := 7) S.1 S.2.1 dL_stands_642 (by decide) ?_
    refine x_aftQ (st1 := [.int (a_value v (7 : Int32)), .float r1]) (x_V0 (As := [.int 7]) (rest := [.float r1]) S mi_X11_value qw725 (k_value l D A w α hR hN (7 : Int32) hB) hK hP hD (hE.kept hS.2.1) (hB.recv hK hP) rfl rfl hl.1 (Nat.le_of_ble_eq_true rfl) rfl rfl ⟨(Nat.le_of_ble_eq_true rfl), (Nat.le_of_ble_eq_true rfl)⟩ ⟨(Nat.le_of_ble_eq_true rfl), (Nat.le_of_ble_eq_true rfl)⟩ dL_stands_644) hS (fun _ h => h) rfl (fun w21 H locs hq hP hD hz hk hS => ?_)
    obtain ⟨hB, hsm⟩ := hq
    have hs0 := hs0.trans hsm
    clear hz hk
    refine lv_if_ne (tgt := 654) S.1 S.2.1 dL_stands_647 (by decide) (fun z9 => absurd (c) z9) (fun _ => ?_)
    refine lv_fconst0 S.1 S.2.1 dL_stands_650 ?_
    refine lv_goto (tgt := 669) S.1 S.2.1 dL_stands_651 (by decide) ?_
    exact st_kc1 S hK hP hD hE hS hr hlk hB hs0 hR hN hEnd hl hT hKF (k2 _ _ hal (.inl ⟨c, rfl⟩))
set_option maxHeartbeats 4000000 in
set_option maxRecDepth 100000 in
theorem st_k1 (S : CallFix pg mi co cL_stands 12 s ar lw_all RL) (hK : va_K D vwCl (gTys D) s) (hP : va_P D vwCl w H) (hD : va_D A w) (hE : EV D A s s.heap) (hS : va_S A s.heap H locs) (hr : me.sig.returnType = some .boolean) (hlk : me.locks = false) (hB : OB D α w v) (hs0 : Same w0 w 0 234) (hR : RA N P B Q v) (hN : N ≤ 600) (hEnd : LEnd pg l en ({ frames := 9, cells := 0, slots := 0, locals := 230 } : Room) s mi ar below me co (stQ D A α w0 v) A Z 0 0) (hl : lv_has ls 12 [(0, .ref (α 0)), (1, .int (nI P)), (2, .int (sSea v P)), (3, .int (sStr v P)), (4, .int (sTrn v P)), (5, .int (sWrg v P)), (6, .int (sSum v P)), (7, .int 1), (8, .int (sOut v B)), (9, .int (sAbo v B)), (10, .int ((0 : Int32) + (a_basket v (0 : Int32)))), (11, .int 1)]) (hT : TF v P B) (hKF : ∀ b : Int32, b = 0 ∨ b = 1 ∨ b = 2 ∨ b = 3 → KF v b)  : W pg l en ({ frames := 9, cells := 0, slots := 0, locals := 230 } : Room) s mi ar below me co H locs 0 0 Z (F0 mi 595 ls []) := by
  obtain ⟨k1, k2, k3⟩ := hKF 1 (by decide)
  refine lv_iload S.1 S.2.1 dL_stands_595 (lv_at hl 11 rfl) ?_
  refine lv_iconst (v := 4) S.1 S.2.1 dL_stands_597 (by decide) ?_
  refine lv_icmp_ge (tgt := 706) S.1 S.2.1 dL_stands_598 (by decide) (fun z9 => absurd z9 (by decide)) (fun _ => ?_)
  refine lv_iload S.1 S.2.1 dL_stands_601 (lv_at hl 7 rfl) ?_
  refine lv_if_eq (tgt := 706) S.1 S.2.1 dL_stands_603 (by decide) (fun z9 => absurd z9 (by decide)) (fun _ => ?_)
  refine lv_iload S.1 S.2.1 dL_stands_606 (lv_at hl 10 rfl) ?_
  refine lv_aload_n S.1 S.2.1 dL_stands_608 rfl (lv_at hl 0 rfl) ?_
  refine lv_iload S.1 S.2.1 dL_stands_609 (lv_at hl 11 rfl) ?_
  refine x_aftR (st1 := [.int (a_basket v (1 : Int32)), .int ((0 : Int32) + (a_basket v (0 : Int32)))]) (x_V0 (As := [.int 1]) (rest := [.int ((0 : Int32) + (a_basket v (0 : Int32)))]) S mi_X11_basket qw1346 (k_basket l D A w α (1 : Int32) hB) hK hP hD (hE.kept hS.2.1) (hB.recv hK hP) rfl rfl hl.1 (Nat.le_of_ble_eq_true rfl) rfl rfl ⟨(Nat.le_of_ble_eq_true rfl), (Nat.le_of_ble_eq_true rfl)⟩ ⟨(Nat.le_of_ble_eq_true rfl), (Nat.le_of_ble_eq_true rfl)⟩ dL_stands_611) hS (fun _ h => h) rfl (fun locs hS => ?_)
  refine lv_iadd S.1 S.2.1 dL_stands_614 ?_
  refine lv_istore (lv' := [(10, .int (((0 : Int32) + (a_basket v (0 : Int32))) + (a_basket v (1 : Int32)))), (0, .ref (α 0)), (1, .int (nI P)), (2, .int (sSea v P)), (3, .int (sStr v P)), (4, .int (sTrn v P)), (5, .int (sWrg v P)), (6, .int (sSum v P)), (7, .int 1), (8, .int (sOut v B)), (9, .int (sAbo v B)), (11, .int 1)]) S.1 S.2.1 dL_stands_615 hl (by decide) rfl (fun ls hl => ?_)
  refine lv_aload_n S.1 S.2.1 dL_stands_617 rfl (lv_at hl 1 rfl) ?_
  refine lv_iload S.1 S.2.1 dL_stands_618 (lv_at hl 11 rfl) ?_
  refine x_aftR (st1 := [.int (a_basket v (1 : Int32))]) (x_V0 (As := [.int 1]) (rest := []) S mi_X11_basket qw1346 (k_basket l D A w α (1 : Int32) hB) hK hP hD (hE.kept hS.2.1) (hB.recv hK hP) rfl rfl hl.1 (Nat.le_of_ble_eq_true rfl) rfl rfl ⟨(Nat.le_of_ble_eq_true rfl), (Nat.le_of_ble_eq_true rfl)⟩ ⟨(Nat.le_of_ble_eq_true rfl), (Nat.le_of_ble_eq_true rfl)⟩ dL_stands_620) hS (fun _ h => h) rfl (fun locs hS => ?_)
  refine lv_aload_n S.1 S.2.1 dL_stands_623 rfl (lv_at hl 1 rfl) ?_
  refine lv_iload S.1 S.2.1 dL_stands_624 (lv_at hl 11 rfl) ?_
  refine x_aftR (st1 := [.int (a_owners v (1 : Int32)), .int (a_basket v (1 : Int32))]) (x_V0 (As := [.int 1]) (rest := [.int (a_basket v (1 : Int32))]) S mi_X11_owners qw1313 (k_owners l D A w α (1 : Int32) hB) hK hP hD (hE.kept hS.2.1) (hB.recv hK hP) rfl rfl hl.1 (Nat.le_of_ble_eq_true rfl) rfl rfl ⟨(Nat.le_of_ble_eq_true rfl), (Nat.le_of_ble_eq_true rfl)⟩ ⟨(Nat.le_of_ble_eq_true rfl), (Nat.le_of_ble_eq_true rfl)⟩ dL_stands_626) hS (fun _ h => h) rfl (fun locs hS => ?_)
  refine x_aftR (st1 := [.int (f_J6_bitCount_0f7a4 (a_owners v (1 : Int32))), .int (a_basket v (1 : Int32))]) (x_St0 (As := [.int (a_owners v (1 : Int32))]) (rest := [.int (a_basket v (1 : Int32))]) S ms_J6_bitCount_0f7a4 qw1318 (c_J6_bitCount_0f7a4 l D A w α (a_owners v (1 : Int32))) hK hP hD (hE.kept hS.2.1) rfl rfl hl.1 (Nat.le_of_ble_eq_true rfl) rfl rfl ⟨(Nat.le_of_ble_eq_true rfl), (Nat.le_of_ble_eq_true rfl)⟩ ⟨(Nat.le_of_ble_eq_true rfl), (Nat.le_of_ble_eq_true rfl)⟩ dL_stands_629) hS (fun _ h => h) rfl (fun locs hS => ?_)
  refine lv_icmp_ne (tgt := 697) S.1 S.2.1 dL_stands_632 (by decide) (fun z9 => absurd (k1) z9) (fun _ => ?_)
  refine lv_aload_n S.1 S.2.1 dL_stands_635 rfl (lv_at hl 1 rfl) ?_
  refine lv_iload S.1 S.2.1 dL_stands_636 (lv_at hl 11 rfl) ?_
  refine x_aftF (rest := []) (g_VD0 (As := [.int 1]) (rest := []) S mi_X11_share qw1351 (k_share l D A w α (1 : Int32) hB) hK hP hD hE hS (hB.recv hK hP) rfl rfl hl.1 (Nat.le_of_ble_eq_true rfl) rfl rfl ⟨(Nat.le_of_ble_eq_true rfl), (Nat.le_of_ble_eq_true rfl)⟩ ⟨(Nat.le_of_ble_eq_true rfl), (Nat.le_of_ble_eq_true rfl)⟩ dL_stands_638) hS (fun r1 locs d1 hal hS hd1 => ?_)
  exact st_ks1 (S.drawn d1) (va_K.moved (Vm.Alike.refl s.vm) hK) hP hD (EV.same (s := s) hE rfl) hS hr hlk hB hs0 hR hN (hEnd.drawn hd1) (lv_sub hl [1, 2, 3, 4, 5, 6, 7, 8, 9, 10, 0, 11] rfl) hT hKF hal
set_option maxHeartbeats 4000000 in
set_option maxRecDepth 100000 in
theorem st_kc0 (S : CallFix pg mi co cL_stands 12 s ar lw_all RL) (hK : va_K D vwCl (gTys D) s) (hP : va_P D vwCl w H) (hD : va_D A w) (hE : EV D A s s.heap) (hS : va_S A s.heap H locs) (hr : me.sig.returnType = some .boolean) (hlk : me.locks = false) (hB : OB D α w v) (hs0 : Same w0 w 0 234) (hR : RA N P B Q v) (hN : N ≤ 600) (hEnd : LEnd pg l en ({ frames := 9, cells := 0, slots := 0, locals := 230 } : Room) s mi ar below me co (stQ D A α w0 v) A Z 0 0) (hl : lv_has ls 12 [(0, .ref (α 0)), (1, .int (nI P)), (2, .int (sSea v P)), (3, .int (sStr v P)), (4, .int (sTrn v P)), (5, .int (sWrg v P)), (6, .int (sSum v P)), (7, .int 1), (8, .int (sOut v B)), (9, .int (sAbo v B)), (10, .int ((0 : Int32) + (a_basket v (0 : Int32)))), (11, .int 0)]) (hT : TF v P B) (hKF : ∀ b : Int32, b = 0 ∨ b = 1 ∨ b = 2 ∨ b = 3 → KF v b) {r1 r2 : UInt32} (hc : Op.cmpValue (FP.fcmp r1 r2) .l = 0) : W pg l en ({ frames := 9, cells := 0, slots := 0, locals := 230 } : Room) s mi ar below me co H locs 0 0 Z (F0 mi 669 ls [.float r2, .float r1]) := by
  obtain ⟨k1, k2, k3⟩ := hKF 0 (by decide)
  rcases k3 with c | ⟨c, k3⟩
  · refine lv_fcmp S.1 S.2.1 dL_stands_669 ?_
    refine lv_if_ne (tgt := 697) S.1 S.2.1 dL_stands_670 (by decide) (fun z9 => absurd (hc) z9) (fun _ => ?_)
    refine lv_iload S.1 S.2.1 dL_stands_673 (lv_at hl 11 rfl) ?_
    refine lv_aload_n S.1 S.2.1 dL_stands_675 rfl (lv_at hl 0 rfl) ?_
    refine lv_bipush (v := 9) S.1 S.2.1 dL_stands_676 (by decide) ?_
    refine x_aftQ (st1 := [.int (a_value v (9 : Int32)), .int 0]) (x_V0 (As := [.int 9]) (rest := [.int 0]) S mi_X11_value qw725 (k_value l D A w α hR hN (9 : Int32) hB) hK hP hD (hE.kept hS.2.1) (hB.recv hK hP) rfl rfl hl.1 (Nat.le_of_ble_eq_true rfl) rfl rfl ⟨(Nat.le_of_ble_eq_true rfl), (Nat.le_of_ble_eq_true rfl)⟩ ⟨(Nat.le_of_ble_eq_true rfl), (Nat.le_of_ble_eq_true rfl)⟩ dL_stands_678) hS (fun _ h => h) rfl (fun w21 H locs hq hP hD hz hk hS => ?_)
    obtain ⟨hB, hsm⟩ := hq
    have hs0 := hs0.trans hsm
    clear hz hk
    refine lv_icmp_lt (tgt := 693) S.1 S.2.1 dL_stands_681 (by decide) (fun _ => ?_) (fun z9 => absurd (c) z9)
    refine lv_iconst (v := 1) S.1 S.2.1 dL_stands_693 (by decide) ?_
    refine lv_goto (tgt := 698) S.1 S.2.1 dL_stands_694 (by decide) ?_
    refine lv_istore (lv' := [(7, .int 1), (0, .ref (α 0)), (1, .int (nI P)), (2, .int (sSea v P)), (3, .int (sStr v P)), (4, .int (sTrn v P)), (5, .int (sWrg v P)), (6, .int (sSum v P)), (8, .int (sOut v B)), (9, .int (sAbo v B)), (10, .int ((0 : Int32) + (a_basket v (0 : Int32)))), (11, .int 0)]) S.1 S.2.1 dL_stands_698 hl (by decide) rfl (fun ls hl => ?_)
    refine lv_iinc (v := 1) (lv' := [(11, .int 1), (7, .int 1), (0, .ref (α 0)), (1, .int (nI P)), (2, .int (sSea v P)), (3, .int (sStr v P)), (4, .int (sTrn v P)), (5, .int (sWrg v P)), (6, .int (sSum v P)), (8, .int (sOut v B)), (9, .int (sAbo v B)), (10, .int ((0 : Int32) + (a_basket v (0 : Int32))))]) S.1 S.2.1 dL_stands_700 hl (k := 11) rfl (by decide) (by decide) rfl (fun ls hl => ?_)
    refine lv_goto (tgt := 595) S.1 S.2.1 dL_stands_703 (by decide) ?_
    exact st_k1 S hK hP hD hE hS hr hlk hB hs0 hR hN hEnd (lv_sub hl [2, 3, 4, 5, 6, 7, 8, 1, 9, 10, 11, 0] rfl) hT hKF
  · refine lv_fcmp S.1 S.2.1 dL_stands_669 ?_
    refine lv_if_ne (tgt := 697) S.1 S.2.1 dL_stands_670 (by decide) (fun z9 => absurd (hc) z9) (fun _ => ?_)
    refine lv_iload S.1 S.2.1 dL_stands_673 (lv_at hl 11 rfl) ?_
    refine lv_aload_n S.1 S.2.1 dL_stands_675 rfl (lv_at hl 0 rfl) ?_
    refine lv_bipush (v := 9) S.1 S.2.1 dL_stands_676 (by decide) ?_
    refine x_aftQ (st1 := [.int (a_value v (9 : Int32)), .int 0]) (x_V0 (As := [.int 9]) (rest := [.int 0]) S mi_X11_value qw725 (k_value l D A w α hR hN (9 : Int32) hB) hK hP hD (hE.kept hS.2.1) (hB.recv hK hP) rfl rfl hl.1 (Nat.le_of_ble_eq_true rfl) rfl rfl ⟨(Nat.le_of_ble_eq_true rfl), (Nat.le_of_ble_eq_true rfl)⟩ ⟨(Nat.le_of_ble_eq_true rfl), (Nat.le_of_ble_eq_true rfl)⟩ dL_stands_678) hS (fun _ h => h) rfl (fun w21 H locs hq hP hD hz hk hS => ?_)
    obtain ⟨hB, hsm⟩ := hq
    have hs0 := hs0.trans hsm
    clear hz hk
    refine lv_icmp_lt (tgt := 693) S.1 S.2.1 dL_stands_681 (by decide) (fun z9 => absurd z9 (c)) (fun _ => ?_)
    refine lv_aload_n S.1 S.2.1 dL_stands_684 rfl (lv_at hl 0 rfl) ?_
    refine lv_iload S.1 S.2.1 dL_stands_685 (lv_at hl 11 rfl) ?_
    refine x_aftR (st1 := [.int (a_basket v (0 : Int32))]) (x_V0 (As := [.int 0]) (rest := []) S mi_X11_basket qw1346 (k_basket l D A w21 α (0 : Int32) hB) hK hP hD (hE.kept hS.2.1) (hB.recv hK hP) rfl rfl hl.1 (Nat.le_of_ble_eq_true rfl) rfl rfl ⟨(Nat.le_of_ble_eq_true rfl), (Nat.le_of_ble_eq_true rfl)⟩ ⟨(Nat.le_of_ble_eq_true rfl), (Nat.le_of_ble_eq_true rfl)⟩ dL_stands_687) hS (fun _ h => h) rfl (fun locs hS => ?_)
    refine lv_if_ne (tgt := 697) S.1 S.2.1 dL_stands_690 (by decide) (fun z9 => absurd (k3) z9) (fun _ => ?_)
    refine lv_iconst (v := 1) S.1 S.2.1 dL_stands_693 (by decide) ?_
    refine lv_goto (tgt := 698) S.1 S.2.1 dL_stands_694 (by decide) ?_
    refine lv_istore (lv' := [(7, .int 1), (0, .ref (α 0)), (1, .int (nI P)), (2, .int (sSea v P)), (3, .int (sStr v P)), (4, .int (sTrn v P)), (5, .int (sWrg v P)), (6, .int (sSum v P)), (8, .int (sOut v B)), (9, .int (sAbo v B)), (10, .int ((0 : Int32) + (a_basket v (0 : Int32)))), (11, .int 0)]) S.1 S.2.1 dL_stands_698 hl (by decide) rfl (fun ls hl => ?_)
    refine lv_iinc (v := 1) (lv' := [(11, .int 1), (7, .int 1), (0, .ref (α 0)), (1, .int (nI P)), (2, .int (sSea v P)), (3, .int (sStr v P)), (4, .int (sTrn v P)), (5, .int (sWrg v P)), (6, .int (sSum v P)), (8, .int (sOut v B)), (9, .int (sAbo v B)), (10, .int ((0 : Int32) + (a_basket v (0 : Int32))))]) S.1 S.2.1 dL_stands_700 hl (k := 11) rfl (by decide) (by decide) rfl (fun ls hl => ?_)
    refine lv_goto (tgt := 595) S.1 S.2.1 dL_stands_703 (by decide) ?_
    exact st_k1 S hK hP hD hE hS hr hlk hB hs0 hR hN hEnd (lv_sub hl [2, 3, 4, 5, 6, 7, 8, 1, 9, 10, 11, 0] rfl) hT hKF
set_option maxHeartbeats 4000000 in
set_option maxRecDepth 100000 in
theorem st_ks0 (S : CallFix pg mi co cL_stands 12 s ar lw_all RL) (hK : va_K D vwCl (gTys D) s) (hP : va_P D vwCl w H) (hD : va_D A w) (hE : EV D A s s.heap) (hS : va_S A s.heap H locs) (hr : me.sig.returnType = some .boolean) (hlk : me.locks = false) (hB : OB D α w v) (hs0 : Same w0 w 0 234) (hR : RA N P B Q v) (hN : N ≤ 600) (hEnd : LEnd pg l en ({ frames := 9, cells := 0, slots := 0, locals := 230 } : Room) s mi ar below me co (stQ D A α w0 v) A Z 0 0) (hl : lv_has ls 12 [(0, .ref (α 0)), (1, .int (nI P)), (2, .int (sSea v P)), (3, .int (sStr v P)), (4, .int (sTrn v P)), (5, .int (sWrg v P)), (6, .int (sSum v P)), (7, .int 1), (8, .int (sOut v B)), (9, .int (sAbo v B)), (10, .int ((0 : Int32) + (a_basket v (0 : Int32)))), (11, .int 0)]) (hT : TF v P B) (hKF : ∀ b : Int32, b = 0 ∨ b = 1 ∨ b = 2 ∨ b = 3 → KF v b) {r1 : UInt32} (hal : alike32 r1 (a_share v 0) = true) : W pg l en ({ frames := 9, cells := 0, slots := 0, locals := 230 } : Room) s mi ar below me co H locs 0 0 Z (F0 mi 641 ls [.float r1]) := by
  obtain ⟨k1, k2, k3⟩ := hKF 0 (by decide)
  rcases (inferInstance : Decidable (a_value v 7 = 0)) with c | c
  · refine lv_aload_n S.1 S.2.1 dL_stands_641 rfl (lv_at hl 0 rfl) ?_
    refine lv_bipush (v := 7) S.1 S.2.1 dL_stands_642 (by decide) ?_
    refine x_aftQ (st1 := [.int (a_value v (7 : Int32)), .float r1]) (x_V0 (As := [.int 7]) (rest := [.float r1]) S mi_X11_value qw725 (k_value l D A w α hR hN (7 : Int32) hB) hK hP hD (hE.kept hS.2.1) (hB.recv hK hP) rfl rfl hl.1 (Nat.le_of_ble_eq_true rfl) rfl rfl ⟨(Nat.le_of_ble_eq_true rfl), (Nat.le_of_ble_eq_true rfl)⟩ ⟨(Nat.le_of_ble_eq_true rfl), (Nat.le_of_ble_eq_true rfl)⟩ dL_stands_644) hS (fun _ h => h) rfl (fun w21 H locs hq hP hD hz hk hS => ?_)
    obtain ⟨hB, hsm⟩ := hq
    have hs0 := hs0.trans hsm
    clear hz hk
    refine lv_if_ne (tgt := 654) S.1 S.2.1 dL_stands_647 (by decide) (fun _ => ?_) (fun z9 => absurd z9 (c))
    refine lv_aload_n S.1 S.2.1 dL_stands_654 rfl (lv_at hl 0 rfl) ?_
    refine lv_iload S.1 S.2.1 dL_stands_655 (lv_at hl 11 rfl) ?_
    refine x_aftR (st1 := [.int (a_basket v (0 : Int32)), .float r1]) (x_V0 (As := [.int 0]) (rest := [.float r1]) S mi_X11_basket qw1346 (k_basket l D A w21 α (0 : Int32) hB) hK hP hD (hE.kept hS.2.1) (hB.recv hK hP) rfl rfl hl.1 (Nat.le_of_ble_eq_true rfl) rfl rfl ⟨(Nat.le_of_ble_eq_true rfl), (Nat.le_of_ble_eq_true rfl)⟩ ⟨(Nat.le_of_ble_eq_true rfl), (Nat.le_of_ble_eq_true rfl)⟩ dL_stands_657) hS (fun _ h => h) rfl (fun locs hS => ?_)
    refine lv_i2f S.1 S.2.1 dL_stands_660 ?_
    refine lv_aload_n S.1 S.2.1 dL_stands_661 rfl (lv_at hl 0 rfl) ?_
    refine lv_bipush (v := 7) S.1 S.2.1 dL_stands_662 (by decide) ?_
    refine x_aftQ (st1 := [.int (a_value v (7 : Int32)), .float (FP.i2f (a_basket v (0 : Int32))), .float r1]) (x_V0 (As := [.int 7]) (rest := [.float (FP.i2f (a_basket v (0 : Int32))), .float r1]) S mi_X11_value qw725 (k_value l D A w21 α hR hN (7 : Int32) hB) hK hP hD (hE.kept hS.2.1) (hB.recv hK hP) rfl rfl hl.1 (Nat.le_of_ble_eq_true rfl) rfl rfl ⟨(Nat.le_of_ble_eq_true rfl), (Nat.le_of_ble_eq_true rfl)⟩ ⟨(Nat.le_of_ble_eq_true rfl), (Nat.le_of_ble_eq_true rfl)⟩ dL_stands_664) hS (fun _ h => h) rfl (fun w22 H locs hq hP hD hz hk hS => ?_)
    obtain ⟨hB, hsm⟩ := hq
    have hs0 := hs0.trans hsm
    clear hz hk
    refine lv_i2f S.1 S.2.1 dL_stands_667 ?_
    refine W.base (lv_fdiv_any (Drawn.sameBut.refl s.drawn lw_cs) lw_bits S.1 S.2.1 dL_stands_668 (fun r2 d1 ha2 hd1 => ?_))
    exact st_kc0 (S.drawn d1) (va_K.moved (Vm.Alike.refl s.vm) hK) hP hD (EV.same (s := s) hE rfl) hS hr hlk hB hs0 hR hN (hEnd.drawn hd1) hl hT hKF (k2 _ _ hal (.inr ⟨c, ha2⟩))
  · refine lv_aload_n S.1 S.2.1 dL_stands_641 rfl (lv_at hl 0 rfl) ?_
    refine lv_bipush (v := 7) S.1 S.2.1 dL_stands_642 (by decide) ?_
    refine x_aftQ (st1 := [.int (a_value v (7 : Int32)), .float r1]) (x_V0 (As := [.int 7]) (rest := [.float r1]) S mi_X11_value qw725 (k_value l D A w α hR hN (7 : Int32) hB) hK hP hD (hE.kept hS.2.1) (hB.recv hK hP) rfl rfl hl.1 (Nat.le_of_ble_eq_true rfl) rfl rfl ⟨(Nat.le_of_ble_eq_true rfl), (Nat.le_of_ble_eq_true rfl)⟩ ⟨(Nat.le_of_ble_eq_true rfl), (Nat.le_of_ble_eq_true rfl)⟩ dL_stands_644) hS (fun _ h => h) rfl (fun w21 H locs hq hP hD hz hk hS => ?_)
    obtain ⟨hB, hsm⟩ := hq
    have hs0 := hs0.trans hsm
    clear hz hk
    refine lv_if_ne (tgt := 654) S.1 S.2.1 dL_stands_647 (by decide) (fun z9 => absurd (c) z9) (fun _ => ?_)
    refine lv_fconst0 S.1 S.2.1 dL_stands_650 ?_
    refine lv_goto (tgt := 669) S.1 S.2.1 dL_stands_651 (by decide) ?_
    exact st_kc0 S hK hP hD hE hS hr hlk hB hs0 hR hN hEnd hl hT hKF (k2 _ _ hal (.inl ⟨c, rfl⟩))
set_option maxHeartbeats 4000000 in
set_option maxRecDepth 100000 in
theorem st_k0 (S : CallFix pg mi co cL_stands 12 s ar lw_all RL) (hK : va_K D vwCl (gTys D) s) (hP : va_P D vwCl w H) (hD : va_D A w) (hE : EV D A s s.heap) (hS : va_S A s.heap H locs) (hr : me.sig.returnType = some .boolean) (hlk : me.locks = false) (hB : OB D α w v) (hs0 : Same w0 w 0 234) (hR : RA N P B Q v) (hN : N ≤ 600) (hEnd : LEnd pg l en ({ frames := 9, cells := 0, slots := 0, locals := 230 } : Room) s mi ar below me co (stQ D A α w0 v) A Z 0 0) (hl : lv_has ls 12 [(0, .ref (α 0)), (1, .int (nI P)), (2, .int (sSea v P)), (3, .int (sStr v P)), (4, .int (sTrn v P)), (5, .int (sWrg v P)), (6, .int (sSum v P)), (7, .int 1), (8, .int (sOut v B)), (9, .int (sAbo v B)), (10, .int 0), (11, .int 0)]) (hT : TF v P B) (hKF : ∀ b : Int32, b = 0 ∨ b = 1 ∨ b = 2 ∨ b = 3 → KF v b)  : W pg l en ({ frames := 9, cells := 0, slots := 0, locals := 230 } : Room) s mi ar below me co H locs 0 0 Z (F0 mi 595 ls []) := by
  obtain ⟨k1, k2, k3⟩ := hKF 0 (by decide)
  refine lv_iload S.1 S.2.1 dL_stands_595 (lv_at hl 11 rfl) ?_
  refine lv_iconst (v := 4) S.1 S.2.1 dL_stands_597 (by decide) ?_
  refine lv_icmp_ge (tgt := 706) S.1 S.2.1 dL_stands_598 (by decide) (fun z9 => absurd z9 (by decide)) (fun _ => ?_)
  refine lv_iload S.1 S.2.1 dL_stands_601 (lv_at hl 7 rfl) ?_
  refine lv_if_eq (tgt := 706) S.1 S.2.1 dL_stands_603 (by decide) (fun z9 => absurd z9 (by decide)) (fun _ => ?_)
  refine lv_iload S.1 S.2.1 dL_stands_606 (lv_at hl 10 rfl) ?_
  refine lv_aload_n S.1 S.2.1 dL_stands_608 rfl (lv_at hl 0 rfl) ?_
  refine lv_iload S.1 S.2.1 dL_stands_609 (lv_at hl 11 rfl) ?_
  refine x_aftR (st1 := [.int (a_basket v (0 : Int32)), .int 0]) (x_V0 (As := [.int 0]) (rest := [.int 0]) S mi_X11_basket qw1346 (k_basket l D A w α (0 : Int32) hB) hK hP hD (hE.kept hS.2.1) (hB.recv hK hP) rfl rfl hl.1 (Nat.le_of_ble_eq_true rfl) rfl rfl ⟨(Nat.le_of_ble_eq_true rfl), (Nat.le_of_ble_eq_true rfl)⟩ ⟨(Nat.le_of_ble_eq_true rfl), (Nat.le_of_ble_eq_true rfl)⟩ dL_stands_611) hS (fun _ h => h) rfl (fun locs hS => ?_)
  refine lv_iadd S.1 S.2.1 dL_stands_614 ?_
  refine lv_istore (lv' := [(10, .int ((0 : Int32) + (a_basket v (0 : Int32)))), (0, .ref (α 0)), (1, .int (nI P)), (2, .int (sSea v P)), (3, .int (sStr v P)), (4, .int (sTrn v P)), (5, .int (sWrg v P)), (6, .int (sSum v P)), (7, .int 1), (8, .int (sOut v B)), (9, .int (sAbo v B)), (11, .int 0)]) S.1 S.2.1 dL_stands_615 hl (by decide) rfl (fun ls hl => ?_)
  refine lv_aload_n S.1 S.2.1 dL_stands_617 rfl (lv_at hl 1 rfl) ?_
  refine lv_iload S.1 S.2.1 dL_stands_618 (lv_at hl 11 rfl) ?_
  refine x_aftR (st1 := [.int (a_basket v (0 : Int32))]) (x_V0 (As := [.int 0]) (rest := []) S mi_X11_basket qw1346 (k_basket l D A w α (0 : Int32) hB) hK hP hD (hE.kept hS.2.1) (hB.recv hK hP) rfl rfl hl.1 (Nat.le_of_ble_eq_true rfl) rfl rfl ⟨(Nat.le_of_ble_eq_true rfl), (Nat.le_of_ble_eq_true rfl)⟩ ⟨(Nat.le_of_ble_eq_true rfl), (Nat.le_of_ble_eq_true rfl)⟩ dL_stands_620) hS (fun _ h => h) rfl (fun locs hS => ?_)
  refine lv_aload_n S.1 S.2.1 dL_stands_623 rfl (lv_at hl 1 rfl) ?_
  refine lv_iload S.1 S.2.1 dL_stands_624 (lv_at hl 11 rfl) ?_
  refine x_aftR (st1 := [.int (a_owners v (0 : Int32)), .int (a_basket v (0 : Int32))]) (x_V0 (As := [.int 0]) (rest := [.int (a_basket v (0 : Int32))]) S mi_X11_owners qw1313 (k_owners l D A w α (0 : Int32) hB) hK hP hD (hE.kept hS.2.1) (hB.recv hK hP) rfl rfl hl.1 (Nat.le_of_ble_eq_true rfl) rfl rfl ⟨(Nat.le_of_ble_eq_true rfl), (Nat.le_of_ble_eq_true rfl)⟩ ⟨(Nat.le_of_ble_eq_true rfl), (Nat.le_of_ble_eq_true rfl)⟩ dL_stands_626) hS (fun _ h => h) rfl (fun locs hS => ?_)
  refine x_aftR (st1 := [.int (f_J6_bitCount_0f7a4 (a_owners v (0 : Int32))), .int (a_basket v (0 : Int32))]) (x_St0 (As := [.int (a_owners v (0 : Int32))]) (rest := [.int (a_basket v (0 : Int32))]) S ms_J6_bitCount_0f7a4 qw1318 (c_J6_bitCount_0f7a4 l D A w α (a_owners v (0 : Int32))) hK hP hD (hE.kept hS.2.1) rfl rfl hl.1 (Nat.le_of_ble_eq_true rfl) rfl rfl ⟨(Nat.le_of_ble_eq_true rfl), (Nat.le_of_ble_eq_true rfl)⟩ ⟨(Nat.le_of_ble_eq_true rfl), (Nat.le_of_ble_eq_true rfl)⟩ dL_stands_629) hS (fun _ h => h) rfl (fun locs hS => ?_)
  refine lv_icmp_ne (tgt := 697) S.1 S.2.1 dL_stands_632 (by decide) (fun z9 => absurd (k1) z9) (fun _ => ?_)
  refine lv_aload_n S.1 S.2.1 dL_stands_635 rfl (lv_at hl 1 rfl) ?_
  refine lv_iload S.1 S.2.1 dL_stands_636 (lv_at hl 11 rfl) ?_
  refine x_aftF (rest := []) (g_VD0 (As := [.int 0]) (rest := []) S mi_X11_share qw1351 (k_share l D A w α (0 : Int32) hB) hK hP hD hE hS (hB.recv hK hP) rfl rfl hl.1 (Nat.le_of_ble_eq_true rfl) rfl rfl ⟨(Nat.le_of_ble_eq_true rfl), (Nat.le_of_ble_eq_true rfl)⟩ ⟨(Nat.le_of_ble_eq_true rfl), (Nat.le_of_ble_eq_true rfl)⟩ dL_stands_638) hS (fun r1 locs d1 hal hS hd1 => ?_)
  exact st_ks0 (S.drawn d1) (va_K.moved (Vm.Alike.refl s.vm) hK) hP hD (EV.same (s := s) hE rfl) hS hr hlk hB hs0 hR hN (hEnd.drawn hd1) (lv_sub hl [1, 2, 3, 4, 5, 6, 7, 8, 9, 10, 0, 11] rfl) hT hKF hal
set_option maxHeartbeats 4000000 in
set_option maxRecDepth 100000 in
theorem st_b (S : CallFix pg mi co cL_stands 12 s ar lw_all RL) (hK : va_K D vwCl (gTys D) s) (hP : va_P D vwCl w H) (hD : va_D A w) (hE : EV D A s s.heap) (hS : va_S A s.heap H locs) (hr : me.sig.returnType = some .boolean) (hlk : me.locks = false) (hB : OB D α w v) (hs0 : Same w0 w 0 234) (hR : RA N P B Q v) (hN : N ≤ 600) (hEnd : LEnd pg l en ({ frames := 9, cells := 0, slots := 0, locals := 230 } : Room) s mi ar below me co (stQ D A α w0 v) A Z 0 0) (hT : TF v P B) (hKF : ∀ b : Int32, b = 0 ∨ b = 1 ∨ b = 2 ∨ b = 3 → KF v b) (hBF : ∀ j, j < B → BF v (nI j)) (h3 : a_value v 3 = nI B) (hB6 : B ≤ 6) (r j : Nat) (hl : lv_has ls 12 [(0, .ref (α 0)), (1, .int (nI P)), (2, .int (sSea v P)), (3, .int (sStr v P)), (4, .int (sTrn v P)), (5, .int (sWrg v P)), (6, .int (sSum v P)), (7, .int 1), (8, .int (sOut v j)), (9, .int (sAbo v j)), (10, .int (nI j))]) (hj : j + r = B) : W pg l en ({ frames := 9, cells := 0, slots := 0, locals := 230 } : Room) s mi ar below me co H locs 0 0 Z (F0 mi 421 ls []) := by
  induction r generalizing j w H locs ls with
  | zero =>
    have hj : j = B := hj
    subst hj
    refine lv_iload S.1 S.2.1 dL_stands_421 (lv_at hl 10 rfl) ?_
    refine lv_aload_n S.1 S.2.1 dL_stands_423 rfl (lv_at hl 0 rfl) ?_
    refine lv_iconst (v := 3) S.1 S.2.1 dL_stands_424 (by decide) ?_
    refine x_aftQ (st1 := [.int (a_value v (3 : Int32)), .int (nI j)]) (x_V0 (As := [.int 3]) (rest := [.int (nI j)]) S mi_X11_value qw725 (k_value l D A w α hR hN (3 : Int32) hB) hK hP hD (hE.kept hS.2.1) (hB.recv hK hP) rfl rfl hl.1 (Nat.le_of_ble_eq_true rfl) rfl rfl ⟨(Nat.le_of_ble_eq_true rfl), (Nat.le_of_ble_eq_true rfl)⟩ ⟨(Nat.le_of_ble_eq_true rfl), (Nat.le_of_ble_eq_true rfl)⟩ dL_stands_425) hS (fun _ h => h) rfl (fun w1 H locs hq hP hD hz hk hS => ?_)
    obtain ⟨hB, hsm⟩ := hq
    have hs0 := hs0.trans hsm
    clear hz hk
    rw [show (a_value v (3 : Int32)) = (nI j) from h3]
    refine lv_icmp_ge (tgt := 589) S.1 S.2.1 dL_stands_428 (by decide) (fun _ => ?_) (fun z9 => absurd (Int32.le_refl _) z9)
    refine lv_iconst (v := 0) S.1 S.2.1 dL_stands_589 (by decide) ?_
    refine lv_istore (lv' := [(10, .int 0), (0, .ref (α 0)), (1, .int (nI P)), (2, .int (sSea v P)), (3, .int (sStr v P)), (4, .int (sTrn v P)), (5, .int (sWrg v P)), (6, .int (sSum v P)), (7, .int 1), (8, .int (sOut v j)), (9, .int (sAbo v j))]) S.1 S.2.1 dL_stands_590 hl (by decide) rfl (fun ls hl => ?_)
    refine lv_iconst (v := 0) S.1 S.2.1 dL_stands_592 (by decide) ?_
    refine lv_istore (lv' := [(11, .int 0), (10, .int 0), (0, .ref (α 0)), (1, .int (nI P)), (2, .int (sSea v P)), (3, .int (sStr v P)), (4, .int (sTrn v P)), (5, .int (sWrg v P)), (6, .int (sSum v P)), (7, .int 1), (8, .int (sOut v j)), (9, .int (sAbo v j))]) S.1 S.2.1 dL_stands_593 hl (by decide) rfl (fun ls hl => ?_)
    exact st_k0 S hK hP hD hE hS hr hlk hB hs0 hR hN hEnd (lv_sub hl [2, 3, 4, 5, 6, 7, 8, 9, 10, 11, 1, 0] rfl) hT hKF
  | succ r ih =>
    have hjB : j < B := by omega
    obtain ⟨kb, ke⟩ := hBF j hjB
    have eO : sOut v (j + 1) = sOut v j + a_boat v (nI j) 0 := iter_s _ _ _
    have eA : sAbo v (j + 1) = sAbo v j + a_boat v (nI j) 2 := iter_s _ _ _
    refine lv_iload S.1 S.2.1 dL_stands_421 (lv_at hl 10 rfl) ?_
    refine lv_aload_n S.1 S.2.1 dL_stands_423 rfl (lv_at hl 0 rfl) ?_
    refine lv_iconst (v := 3) S.1 S.2.1 dL_stands_424 (by decide) ?_
    refine x_aftQ (st1 := [.int (a_value v (3 : Int32)), .int (nI j)]) (x_V0 (As := [.int 3]) (rest := [.int (nI j)]) S mi_X11_value qw725 (k_value l D A w α hR hN (3 : Int32) hB) hK hP hD (hE.kept hS.2.1) (hB.recv hK hP) rfl rfl hl.1 (Nat.le_of_ble_eq_true rfl) rfl rfl ⟨(Nat.le_of_ble_eq_true rfl), (Nat.le_of_ble_eq_true rfl)⟩ ⟨(Nat.le_of_ble_eq_true rfl), (Nat.le_of_ble_eq_true rfl)⟩ dL_stands_425) hS (fun _ h => h) rfl (fun w2 H locs hq hP hD hz hk hS => ?_)
    obtain ⟨hB, hsm⟩ := hq
    have hs0 := hs0.trans hsm
    clear hz hk
    rw [show (a_value v (3 : Int32)) = (nI B) from h3]
    refine lv_icmp_ge (tgt := 589) S.1 S.2.1 dL_stands_428 (by decide) (fun z9 => absurd z9 (fun z9 => absurd ((nI_leI (by omega) (by omega)).mp z9) (by omega))) (fun _ => ?_)
    refine lv_iload S.1 S.2.1 dL_stands_431 (lv_at hl 7 rfl) ?_
    refine lv_if_eq (tgt := 589) S.1 S.2.1 dL_stands_433 (by decide) (fun z9 => absurd z9 (by decide)) (fun _ => ?_)
    refine lv_iload S.1 S.2.1 dL_stands_436 (lv_at hl 8 rfl) ?_
    refine lv_aload_n S.1 S.2.1 dL_stands_438 rfl (lv_at hl 0 rfl) ?_
    refine lv_iload S.1 S.2.1 dL_stands_439 (lv_at hl 10 rfl) ?_
    refine lv_iconst (v := 0) S.1 S.2.1 dL_stands_441 (by decide) ?_
    refine x_aftR (st1 := [.int (a_boat v (nI j) (0 : Int32)), .int (sOut v j)]) (x_V0 (As := [.int (nI j), .int 0]) (rest := [.int (sOut v j)]) S mi_X11_boat qw1319 (k_boat l D A w2 α (nI j) (0 : Int32) hB) hK hP hD (hE.kept hS.2.1) (hB.recv hK hP) rfl rfl hl.1 (Nat.le_of_ble_eq_true rfl) rfl rfl ⟨(Nat.le_of_ble_eq_true rfl), (Nat.le_of_ble_eq_true rfl)⟩ ⟨(Nat.le_of_ble_eq_true rfl), (Nat.le_of_ble_eq_true rfl)⟩ dL_stands_442) hS (fun _ h => h) rfl (fun locs hS => ?_)
    refine lv_iadd S.1 S.2.1 dL_stands_445 ?_
    refine lv_istore (lv' := [(8, .int ((sOut v j) + (a_boat v (nI j) (0 : Int32)))), (0, .ref (α 0)), (1, .int (nI P)), (2, .int (sSea v P)), (3, .int (sStr v P)), (4, .int (sTrn v P)), (5, .int (sWrg v P)), (6, .int (sSum v P)), (7, .int 1), (9, .int (sAbo v j)), (10, .int (nI j))]) S.1 S.2.1 dL_stands_446 hl (by decide) rfl (fun ls hl => ?_)
    refine lv_iload S.1 S.2.1 dL_stands_448 (lv_at hl 9 rfl) ?_
    refine lv_aload_n S.1 S.2.1 dL_stands_450 rfl (lv_at hl 1 rfl) ?_
    refine lv_iload S.1 S.2.1 dL_stands_451 (lv_at hl 10 rfl) ?_
    refine lv_iconst (v := 2) S.1 S.2.1 dL_stands_453 (by decide) ?_
    refine x_aftR (st1 := [.int (a_boat v (nI j) (2 : Int32)), .int (sAbo v j)]) (x_V0 (As := [.int (nI j), .int 2]) (rest := [.int (sAbo v j)]) S mi_X11_boat qw1319 (k_boat l D A w2 α (nI j) (2 : Int32) hB) hK hP hD (hE.kept hS.2.1) (hB.recv hK hP) rfl rfl hl.1 (Nat.le_of_ble_eq_true rfl) rfl rfl ⟨(Nat.le_of_ble_eq_true rfl), (Nat.le_of_ble_eq_true rfl)⟩ ⟨(Nat.le_of_ble_eq_true rfl), (Nat.le_of_ble_eq_true rfl)⟩ dL_stands_454) hS (fun _ h => h) rfl (fun locs hS => ?_)
    refine lv_iadd S.1 S.2.1 dL_stands_457 ?_
    refine lv_istore (lv' := [(9, .int ((sAbo v j) + (a_boat v (nI j) (2 : Int32)))), (8, .int ((sOut v j) + (a_boat v (nI j) (0 : Int32)))), (0, .ref (α 0)), (1, .int (nI P)), (2, .int (sSea v P)), (3, .int (sStr v P)), (4, .int (sTrn v P)), (5, .int (sWrg v P)), (6, .int (sSum v P)), (7, .int 1), (10, .int (nI j))]) S.1 S.2.1 dL_stands_458 hl (by decide) rfl (fun ls hl => ?_)
    rcases kb with ⟨k1, k2, k3⟩ | ⟨k1, k2, k3, k4⟩
    · refine lv_aload_n S.1 S.2.1 dL_stands_460 rfl (lv_at hl 2 rfl) ?_
      refine lv_iload S.1 S.2.1 dL_stands_461 (lv_at hl 10 rfl) ?_
      refine lv_iconst (v := 0) S.1 S.2.1 dL_stands_463 (by decide) ?_
      refine x_aftR (st1 := [.int (a_boat v (nI j) (0 : Int32))]) (x_V0 (As := [.int (nI j), .int 0]) (rest := []) S mi_X11_boat qw1319 (k_boat l D A w2 α (nI j) (0 : Int32) hB) hK hP hD (hE.kept hS.2.1) (hB.recv hK hP) rfl rfl hl.1 (Nat.le_of_ble_eq_true rfl) rfl rfl ⟨(Nat.le_of_ble_eq_true rfl), (Nat.le_of_ble_eq_true rfl)⟩ ⟨(Nat.le_of_ble_eq_true rfl), (Nat.le_of_ble_eq_true rfl)⟩ dL_stands_464) hS (fun _ h => h) rfl (fun locs hS => ?_)
      refine lv_iconst (v := 1) S.1 S.2.1 dL_stands_467 (by decide) ?_
      refine lv_icmp_ne (tgt := 475) S.1 S.2.1 dL_stands_468 (by decide) (fun z9 => absurd (k1) z9) (fun _ => ?_)
      refine lv_iconst (v := 1) S.1 S.2.1 dL_stands_471 (by decide) ?_
      refine lv_goto (tgt := 476) S.1 S.2.1 dL_stands_472 (by decide) ?_
      refine lv_aload_n S.1 S.2.1 dL_stands_476 rfl (lv_at hl 2 rfl) ?_
      refine lv_iload S.1 S.2.1 dL_stands_477 (lv_at hl 10 rfl) ?_
      refine lv_iconst (v := 1) S.1 S.2.1 dL_stands_479 (by decide) ?_
      refine x_aftR (st1 := [.int (a_boat v (nI j) (1 : Int32)), .int 1]) (x_V0 (As := [.int (nI j), .int 1]) (rest := [.int 1]) S mi_X11_boat qw1319 (k_boat l D A w2 α (nI j) (1 : Int32) hB) hK hP hD (hE.kept hS.2.1) (hB.recv hK hP) rfl rfl hl.1 (Nat.le_of_ble_eq_true rfl) rfl rfl ⟨(Nat.le_of_ble_eq_true rfl), (Nat.le_of_ble_eq_true rfl)⟩ ⟨(Nat.le_of_ble_eq_true rfl), (Nat.le_of_ble_eq_true rfl)⟩ dL_stands_480) hS (fun _ h => h) rfl (fun locs hS => ?_)
      refine lv_aload_n S.1 S.2.1 dL_stands_483 rfl (lv_at hl 2 rfl) ?_
      refine lv_iconst (v := 0) S.1 S.2.1 dL_stands_484 (by decide) ?_
      refine x_aftQ (st1 := [.int (a_value v (0 : Int32)), .int (a_boat v (nI j) (1 : Int32)), .int 1]) (x_V0 (As := [.int 0]) (rest := [.int (a_boat v (nI j) (1 : Int32)), .int 1]) S mi_X11_value qw725 (k_value l D A w2 α hR hN (0 : Int32) hB) hK hP hD (hE.kept hS.2.1) (hB.recv hK hP) rfl rfl hl.1 (Nat.le_of_ble_eq_true rfl) rfl rfl ⟨(Nat.le_of_ble_eq_true rfl), (Nat.le_of_ble_eq_true rfl)⟩ ⟨(Nat.le_of_ble_eq_true rfl), (Nat.le_of_ble_eq_true rfl)⟩ dL_stands_485) hS (fun _ h => h) rfl (fun w3 H locs hq hP hD hz hk hS => ?_)
      obtain ⟨hB, hsm⟩ := hq
      have hs0 := hs0.trans hsm
      clear hz hk
      refine lv_icmp_le (tgt := 495) S.1 S.2.1 dL_stands_488 (by decide) (fun z9 => absurd z9 (k2)) (fun _ => ?_)
      refine lv_iconst (v := 1) S.1 S.2.1 dL_stands_491 (by decide) ?_
      refine lv_goto (tgt := 496) S.1 S.2.1 dL_stands_492 (by decide) ?_
      refine lv_icmp_ne (tgt := 580) S.1 S.2.1 dL_stands_496 (by decide) (fun z9 => absurd (by decide) z9) (fun _ => ?_)
      refine lv_aload_n S.1 S.2.1 dL_stands_499 rfl (lv_at hl 2 rfl) ?_
      refine lv_iload S.1 S.2.1 dL_stands_500 (lv_at hl 10 rfl) ?_
      refine lv_iconst (v := 0) S.1 S.2.1 dL_stands_502 (by decide) ?_
      refine x_aftR (st1 := [.int (a_boat v (nI j) (0 : Int32))]) (x_V0 (As := [.int (nI j), .int 0]) (rest := []) S mi_X11_boat qw1319 (k_boat l D A w3 α (nI j) (0 : Int32) hB) hK hP hD (hE.kept hS.2.1) (hB.recv hK hP) rfl rfl hl.1 (Nat.le_of_ble_eq_true rfl) rfl rfl ⟨(Nat.le_of_ble_eq_true rfl), (Nat.le_of_ble_eq_true rfl)⟩ ⟨(Nat.le_of_ble_eq_true rfl), (Nat.le_of_ble_eq_true rfl)⟩ dL_stands_503) hS (fun _ h => h) rfl (fun locs hS => ?_)
      refine lv_iconst (v := 1) S.1 S.2.1 dL_stands_506 (by decide) ?_
      refine lv_icmp_eq (tgt := 520) S.1 S.2.1 dL_stands_507 (by decide) (fun _ => ?_) (fun z9 => absurd (k1) z9)
      refine lv_aload_n S.1 S.2.1 dL_stands_520 rfl (lv_at hl 2 rfl) ?_
      refine lv_iload S.1 S.2.1 dL_stands_521 (lv_at hl 10 rfl) ?_
      refine lv_iconst (v := 3) S.1 S.2.1 dL_stands_523 (by decide) ?_
      refine x_aftR (st1 := [.int (a_boat v (nI j) (3 : Int32))]) (x_V0 (As := [.int (nI j), .int 3]) (rest := []) S mi_X11_boat qw1319 (k_boat l D A w3 α (nI j) (3 : Int32) hB) hK hP hD (hE.kept hS.2.1) (hB.recv hK hP) rfl rfl hl.1 (Nat.le_of_ble_eq_true rfl) rfl rfl ⟨(Nat.le_of_ble_eq_true rfl), (Nat.le_of_ble_eq_true rfl)⟩ ⟨(Nat.le_of_ble_eq_true rfl), (Nat.le_of_ble_eq_true rfl)⟩ dL_stands_524) hS (fun _ h => h) rfl (fun locs hS => ?_)
      refine lv_aload_n S.1 S.2.1 dL_stands_527 rfl (lv_at hl 2 rfl) ?_
      refine lv_iload S.1 S.2.1 dL_stands_528 (lv_at hl 10 rfl) ?_
      refine lv_iconst (v := 2) S.1 S.2.1 dL_stands_530 (by decide) ?_
      refine x_aftR (st1 := [.int (a_boat v (nI j) (2 : Int32)), .int (a_boat v (nI j) (3 : Int32))]) (x_V0 (As := [.int (nI j), .int 2]) (rest := [.int (a_boat v (nI j) (3 : Int32))]) S mi_X11_boat qw1319 (k_boat l D A w3 α (nI j) (2 : Int32) hB) hK hP hD (hE.kept hS.2.1) (hB.recv hK hP) rfl rfl hl.1 (Nat.le_of_ble_eq_true rfl) rfl rfl ⟨(Nat.le_of_ble_eq_true rfl), (Nat.le_of_ble_eq_true rfl)⟩ ⟨(Nat.le_of_ble_eq_true rfl), (Nat.le_of_ble_eq_true rfl)⟩ dL_stands_531) hS (fun _ h => h) rfl (fun locs hS => ?_)
      refine lv_icmp_lt (tgt := 580) S.1 S.2.1 dL_stands_534 (by decide) (fun z9 => absurd z9 (ke)) (fun _ => ?_)
      refine lv_aload_n S.1 S.2.1 dL_stands_537 rfl (lv_at hl 2 rfl) ?_
      refine lv_iload S.1 S.2.1 dL_stands_538 (lv_at hl 10 rfl) ?_
      refine lv_iconst (v := 0) S.1 S.2.1 dL_stands_540 (by decide) ?_
      refine x_aftR (st1 := [.int (a_boat v (nI j) (0 : Int32))]) (x_V0 (As := [.int (nI j), .int 0]) (rest := []) S mi_X11_boat qw1319 (k_boat l D A w3 α (nI j) (0 : Int32) hB) hK hP hD (hE.kept hS.2.1) (hB.recv hK hP) rfl rfl hl.1 (Nat.le_of_ble_eq_true rfl) rfl rfl ⟨(Nat.le_of_ble_eq_true rfl), (Nat.le_of_ble_eq_true rfl)⟩ ⟨(Nat.le_of_ble_eq_true rfl), (Nat.le_of_ble_eq_true rfl)⟩ dL_stands_541) hS (fun _ h => h) rfl (fun locs hS => ?_)
      refine lv_iconst (v := 1) S.1 S.2.1 dL_stands_544 (by decide) ?_
      refine lv_icmp_ne (tgt := 565) S.1 S.2.1 dL_stands_545 (by decide) (fun z9 => absurd (k1) z9) (fun _ => ?_)
      refine lv_aload_n S.1 S.2.1 dL_stands_548 rfl (lv_at hl 2 rfl) ?_
      refine lv_iload S.1 S.2.1 dL_stands_549 (lv_at hl 10 rfl) ?_
      refine x_aftR (st1 := [.int (a_needIfHome v (nI j))]) (x_V0 (As := [.int (nI j)]) (rest := []) S mi_X11_needIfHome qw1329 (k_needIfHome l D A w3 α (nI j) hB) hK hP hD (hE.kept hS.2.1) (hB.recv hK hP) rfl rfl hl.1 (Nat.le_of_ble_eq_true rfl) rfl rfl ⟨(Nat.le_of_ble_eq_true rfl), (Nat.le_of_ble_eq_true rfl)⟩ ⟨(Nat.le_of_ble_eq_true rfl), (Nat.le_of_ble_eq_true rfl)⟩ dL_stands_551) hS (fun _ h => h) rfl (fun locs hS => ?_)
      refine lv_aload_n S.1 S.2.1 dL_stands_554 rfl (lv_at hl 2 rfl) ?_
      refine lv_iconst (v := 0) S.1 S.2.1 dL_stands_555 (by decide) ?_
      refine x_aftR (st1 := [.int (a_needIn v (0 : Int32)), .int (a_needIfHome v (nI j))]) (x_V0 (As := [.int 0]) (rest := [.int (a_needIfHome v (nI j))]) S mi_X11_needIn qw1334 (k_needIn l D A w3 α (0 : Int32) hB) hK hP hD (hE.kept hS.2.1) (hB.recv hK hP) rfl rfl hl.1 (Nat.le_of_ble_eq_true rfl) rfl rfl ⟨(Nat.le_of_ble_eq_true rfl), (Nat.le_of_ble_eq_true rfl)⟩ ⟨(Nat.le_of_ble_eq_true rfl), (Nat.le_of_ble_eq_true rfl)⟩ dL_stands_556) hS (fun _ h => h) rfl (fun locs hS => ?_)
      refine lv_icmp_lt (tgt := 580) S.1 S.2.1 dL_stands_559 (by decide) (fun z9 => absurd z9 (k3)) (fun _ => ?_)
      refine lv_goto (tgt := 576) S.1 S.2.1 dL_stands_562 (by decide) ?_
      refine lv_iconst (v := 1) S.1 S.2.1 dL_stands_576 (by decide) ?_
      refine lv_goto (tgt := 581) S.1 S.2.1 dL_stands_577 (by decide) ?_
      refine lv_istore (lv' := [(7, .int 1), (9, .int ((sAbo v j) + (a_boat v (nI j) (2 : Int32)))), (8, .int ((sOut v j) + (a_boat v (nI j) (0 : Int32)))), (0, .ref (α 0)), (1, .int (nI P)), (2, .int (sSea v P)), (3, .int (sStr v P)), (4, .int (sTrn v P)), (5, .int (sWrg v P)), (6, .int (sSum v P)), (10, .int (nI j))]) S.1 S.2.1 dL_stands_581 hl (by decide) rfl (fun ls hl => ?_)
      refine lv_iinc (v := (nI (j + 1))) (lv' := [(10, .int (nI (j + 1))), (7, .int 1), (9, .int ((sAbo v j) + (a_boat v (nI j) (2 : Int32)))), (8, .int ((sOut v j) + (a_boat v (nI j) (0 : Int32)))), (0, .ref (α 0)), (1, .int (nI P)), (2, .int (sSea v P)), (3, .int (sStr v P)), (4, .int (sTrn v P)), (5, .int (sWrg v P)), (6, .int (sSum v P))]) S.1 S.2.1 dL_stands_583 hl (k := 10) rfl ((nI_succ j).symm) (by decide) rfl (fun ls hl => ?_)
      refine lv_goto (tgt := 421) S.1 S.2.1 dL_stands_586 (by decide) ?_
      refine ih (j := j + 1) hP hD hS hB hs0 ?_ (by omega)
      rw [eO, eA]
      exact lv_sub hl [4, 5, 6, 7, 8, 9, 10, 1, 3, 2, 0] rfl
    · refine lv_aload_n S.1 S.2.1 dL_stands_460 rfl (lv_at hl 2 rfl) ?_
      refine lv_iload S.1 S.2.1 dL_stands_461 (lv_at hl 10 rfl) ?_
      refine lv_iconst (v := 0) S.1 S.2.1 dL_stands_463 (by decide) ?_
      refine x_aftR (st1 := [.int (a_boat v (nI j) (0 : Int32))]) (x_V0 (As := [.int (nI j), .int 0]) (rest := []) S mi_X11_boat qw1319 (k_boat l D A w2 α (nI j) (0 : Int32) hB) hK hP hD (hE.kept hS.2.1) (hB.recv hK hP) rfl rfl hl.1 (Nat.le_of_ble_eq_true rfl) rfl rfl ⟨(Nat.le_of_ble_eq_true rfl), (Nat.le_of_ble_eq_true rfl)⟩ ⟨(Nat.le_of_ble_eq_true rfl), (Nat.le_of_ble_eq_true rfl)⟩ dL_stands_464) hS (fun _ h => h) rfl (fun locs hS => ?_)
      refine lv_iconst (v := 1) S.1 S.2.1 dL_stands_467 (by decide) ?_
      refine lv_icmp_ne (tgt := 475) S.1 S.2.1 dL_stands_468 (by decide) (fun _ => ?_) (fun z9 => absurd z9 (k1))
      refine lv_iconst (v := 0) S.1 S.2.1 dL_stands_475 (by decide) ?_
      refine lv_aload_n S.1 S.2.1 dL_stands_476 rfl (lv_at hl 2 rfl) ?_
      refine lv_iload S.1 S.2.1 dL_stands_477 (lv_at hl 10 rfl) ?_
      refine lv_iconst (v := 1) S.1 S.2.1 dL_stands_479 (by decide) ?_
      refine x_aftR (st1 := [.int (a_boat v (nI j) (1 : Int32)), .int 0]) (x_V0 (As := [.int (nI j), .int 1]) (rest := [.int 0]) S mi_X11_boat qw1319 (k_boat l D A w2 α (nI j) (1 : Int32) hB) hK hP hD (hE.kept hS.2.1) (hB.recv hK hP) rfl rfl hl.1 (Nat.le_of_ble_eq_true rfl) rfl rfl ⟨(Nat.le_of_ble_eq_true rfl), (Nat.le_of_ble_eq_true rfl)⟩ ⟨(Nat.le_of_ble_eq_true rfl), (Nat.le_of_ble_eq_true rfl)⟩ dL_stands_480) hS (fun _ h => h) rfl (fun locs hS => ?_)
      refine lv_aload_n S.1 S.2.1 dL_stands_483 rfl (lv_at hl 2 rfl) ?_
      refine lv_iconst (v := 0) S.1 S.2.1 dL_stands_484 (by decide) ?_
      refine x_aftQ (st1 := [.int (a_value v (0 : Int32)), .int (a_boat v (nI j) (1 : Int32)), .int 0]) (x_V0 (As := [.int 0]) (rest := [.int (a_boat v (nI j) (1 : Int32)), .int 0]) S mi_X11_value qw725 (k_value l D A w2 α hR hN (0 : Int32) hB) hK hP hD (hE.kept hS.2.1) (hB.recv hK hP) rfl rfl hl.1 (Nat.le_of_ble_eq_true rfl) rfl rfl ⟨(Nat.le_of_ble_eq_true rfl), (Nat.le_of_ble_eq_true rfl)⟩ ⟨(Nat.le_of_ble_eq_true rfl), (Nat.le_of_ble_eq_true rfl)⟩ dL_stands_485) hS (fun _ h => h) rfl (fun w3 H locs hq hP hD hz hk hS => ?_)
      obtain ⟨hB, hsm⟩ := hq
      have hs0 := hs0.trans hsm
      clear hz hk
      refine lv_icmp_le (tgt := 495) S.1 S.2.1 dL_stands_488 (by decide) (fun _ => ?_) (fun z9 => absurd (k2) z9)
      refine lv_iconst (v := 0) S.1 S.2.1 dL_stands_495 (by decide) ?_
      refine lv_icmp_ne (tgt := 580) S.1 S.2.1 dL_stands_496 (by decide) (fun z9 => absurd (by decide) z9) (fun _ => ?_)
      refine lv_aload_n S.1 S.2.1 dL_stands_499 rfl (lv_at hl 2 rfl) ?_
      refine lv_iload S.1 S.2.1 dL_stands_500 (lv_at hl 10 rfl) ?_
      refine lv_iconst (v := 0) S.1 S.2.1 dL_stands_502 (by decide) ?_
      refine x_aftR (st1 := [.int (a_boat v (nI j) (0 : Int32))]) (x_V0 (As := [.int (nI j), .int 0]) (rest := []) S mi_X11_boat qw1319 (k_boat l D A w3 α (nI j) (0 : Int32) hB) hK hP hD (hE.kept hS.2.1) (hB.recv hK hP) rfl rfl hl.1 (Nat.le_of_ble_eq_true rfl) rfl rfl ⟨(Nat.le_of_ble_eq_true rfl), (Nat.le_of_ble_eq_true rfl)⟩ ⟨(Nat.le_of_ble_eq_true rfl), (Nat.le_of_ble_eq_true rfl)⟩ dL_stands_503) hS (fun _ h => h) rfl (fun locs hS => ?_)
      refine lv_iconst (v := 1) S.1 S.2.1 dL_stands_506 (by decide) ?_
      refine lv_icmp_eq (tgt := 520) S.1 S.2.1 dL_stands_507 (by decide) (fun z9 => absurd z9 (k1)) (fun _ => ?_)
      refine lv_aload_n S.1 S.2.1 dL_stands_510 rfl (lv_at hl 2 rfl) ?_
      refine lv_iload S.1 S.2.1 dL_stands_511 (lv_at hl 10 rfl) ?_
      refine lv_iconst (v := 2) S.1 S.2.1 dL_stands_513 (by decide) ?_
      refine x_aftR (st1 := [.int (a_boat v (nI j) (2 : Int32))]) (x_V0 (As := [.int (nI j), .int 2]) (rest := []) S mi_X11_boat qw1319 (k_boat l D A w3 α (nI j) (2 : Int32) hB) hK hP hD (hE.kept hS.2.1) (hB.recv hK hP) rfl rfl hl.1 (Nat.le_of_ble_eq_true rfl) rfl rfl ⟨(Nat.le_of_ble_eq_true rfl), (Nat.le_of_ble_eq_true rfl)⟩ ⟨(Nat.le_of_ble_eq_true rfl), (Nat.le_of_ble_eq_true rfl)⟩ dL_stands_514) hS (fun _ h => h) rfl (fun locs hS => ?_)
      refine lv_if_ne (tgt := 580) S.1 S.2.1 dL_stands_517 (by decide) (fun z9 => absurd (k3) z9) (fun _ => ?_)
      refine lv_aload_n S.1 S.2.1 dL_stands_520 rfl (lv_at hl 2 rfl) ?_
      refine lv_iload S.1 S.2.1 dL_stands_521 (lv_at hl 10 rfl) ?_
      refine lv_iconst (v := 3) S.1 S.2.1 dL_stands_523 (by decide) ?_
      refine x_aftR (st1 := [.int (a_boat v (nI j) (3 : Int32))]) (x_V0 (As := [.int (nI j), .int 3]) (rest := []) S mi_X11_boat qw1319 (k_boat l D A w3 α (nI j) (3 : Int32) hB) hK hP hD (hE.kept hS.2.1) (hB.recv hK hP) rfl rfl hl.1 (Nat.le_of_ble_eq_true rfl) rfl rfl ⟨(Nat.le_of_ble_eq_true rfl), (Nat.le_of_ble_eq_true rfl)⟩ ⟨(Nat.le_of_ble_eq_true rfl), (Nat.le_of_ble_eq_true rfl)⟩ dL_stands_524) hS (fun _ h => h) rfl (fun locs hS => ?_)
      refine lv_aload_n S.1 S.2.1 dL_stands_527 rfl (lv_at hl 2 rfl) ?_
      refine lv_iload S.1 S.2.1 dL_stands_528 (lv_at hl 10 rfl) ?_
      refine lv_iconst (v := 2) S.1 S.2.1 dL_stands_530 (by decide) ?_
      refine x_aftR (st1 := [.int (a_boat v (nI j) (2 : Int32)), .int (a_boat v (nI j) (3 : Int32))]) (x_V0 (As := [.int (nI j), .int 2]) (rest := [.int (a_boat v (nI j) (3 : Int32))]) S mi_X11_boat qw1319 (k_boat l D A w3 α (nI j) (2 : Int32) hB) hK hP hD (hE.kept hS.2.1) (hB.recv hK hP) rfl rfl hl.1 (Nat.le_of_ble_eq_true rfl) rfl rfl ⟨(Nat.le_of_ble_eq_true rfl), (Nat.le_of_ble_eq_true rfl)⟩ ⟨(Nat.le_of_ble_eq_true rfl), (Nat.le_of_ble_eq_true rfl)⟩ dL_stands_531) hS (fun _ h => h) rfl (fun locs hS => ?_)
      refine lv_icmp_lt (tgt := 580) S.1 S.2.1 dL_stands_534 (by decide) (fun z9 => absurd z9 (ke)) (fun _ => ?_)
      refine lv_aload_n S.1 S.2.1 dL_stands_537 rfl (lv_at hl 2 rfl) ?_
      refine lv_iload S.1 S.2.1 dL_stands_538 (lv_at hl 10 rfl) ?_
      refine lv_iconst (v := 0) S.1 S.2.1 dL_stands_540 (by decide) ?_
      refine x_aftR (st1 := [.int (a_boat v (nI j) (0 : Int32))]) (x_V0 (As := [.int (nI j), .int 0]) (rest := []) S mi_X11_boat qw1319 (k_boat l D A w3 α (nI j) (0 : Int32) hB) hK hP hD (hE.kept hS.2.1) (hB.recv hK hP) rfl rfl hl.1 (Nat.le_of_ble_eq_true rfl) rfl rfl ⟨(Nat.le_of_ble_eq_true rfl), (Nat.le_of_ble_eq_true rfl)⟩ ⟨(Nat.le_of_ble_eq_true rfl), (Nat.le_of_ble_eq_true rfl)⟩ dL_stands_541) hS (fun _ h => h) rfl (fun locs hS => ?_)
      refine lv_iconst (v := 1) S.1 S.2.1 dL_stands_544 (by decide) ?_
      refine lv_icmp_ne (tgt := 565) S.1 S.2.1 dL_stands_545 (by decide) (fun _ => ?_) (fun z9 => absurd z9 (k1))
      refine lv_aload_n S.1 S.2.1 dL_stands_565 rfl (lv_at hl 2 rfl) ?_
      refine lv_iload S.1 S.2.1 dL_stands_566 (lv_at hl 10 rfl) ?_
      refine x_aftR (st1 := [.int (a_needIfHome v (nI j))]) (x_V0 (As := [.int (nI j)]) (rest := []) S mi_X11_needIfHome qw1329 (k_needIfHome l D A w3 α (nI j) hB) hK hP hD (hE.kept hS.2.1) (hB.recv hK hP) rfl rfl hl.1 (Nat.le_of_ble_eq_true rfl) rfl rfl ⟨(Nat.le_of_ble_eq_true rfl), (Nat.le_of_ble_eq_true rfl)⟩ ⟨(Nat.le_of_ble_eq_true rfl), (Nat.le_of_ble_eq_true rfl)⟩ dL_stands_568) hS (fun _ h => h) rfl (fun locs hS => ?_)
      refine lv_bipush (v := (-4)) S.1 S.2.1 dL_stands_571 (by decide) ?_
      refine lv_icmp_ne (tgt := 580) S.1 S.2.1 dL_stands_573 (by decide) (fun z9 => absurd (k4) z9) (fun _ => ?_)
      refine lv_iconst (v := 1) S.1 S.2.1 dL_stands_576 (by decide) ?_
      refine lv_goto (tgt := 581) S.1 S.2.1 dL_stands_577 (by decide) ?_
      refine lv_istore (lv' := [(7, .int 1), (9, .int ((sAbo v j) + (a_boat v (nI j) (2 : Int32)))), (8, .int ((sOut v j) + (a_boat v (nI j) (0 : Int32)))), (0, .ref (α 0)), (1, .int (nI P)), (2, .int (sSea v P)), (3, .int (sStr v P)), (4, .int (sTrn v P)), (5, .int (sWrg v P)), (6, .int (sSum v P)), (10, .int (nI j))]) S.1 S.2.1 dL_stands_581 hl (by decide) rfl (fun ls hl => ?_)
      refine lv_iinc (v := (nI (j + 1))) (lv' := [(10, .int (nI (j + 1))), (7, .int 1), (9, .int ((sAbo v j) + (a_boat v (nI j) (2 : Int32)))), (8, .int ((sOut v j) + (a_boat v (nI j) (0 : Int32)))), (0, .ref (α 0)), (1, .int (nI P)), (2, .int (sSea v P)), (3, .int (sStr v P)), (4, .int (sTrn v P)), (5, .int (sWrg v P)), (6, .int (sSum v P))]) S.1 S.2.1 dL_stands_583 hl (k := 10) rfl ((nI_succ j).symm) (by decide) rfl (fun ls hl => ?_)
      refine lv_goto (tgt := 421) S.1 S.2.1 dL_stands_586 (by decide) ?_
      refine ih (j := j + 1) hP hD hS hB hs0 ?_ (by omega)
      rw [eO, eA]
      exact lv_sub hl [4, 5, 6, 7, 8, 9, 10, 1, 3, 2, 0] rfl
set_option maxHeartbeats 4000000 in
set_option maxRecDepth 100000 in
theorem st_px (S : CallFix pg mi co cL_stands 12 s ar lw_all RL) (hK : va_K D vwCl (gTys D) s) (hP : va_P D vwCl w H) (hD : va_D A w) (hE : EV D A s s.heap) (hS : va_S A s.heap H locs) (hr : me.sig.returnType = some .boolean) (hlk : me.locks = false) (hB : OB D α w v) (hs0 : Same w0 w 0 234) (hR : RA N P B Q v) (hN : N ≤ 600) {j : Nat} (hPF : PF v (nI j)) {x2 x3 x4 x5 x6 : Int32} (kk : ∀ {w : va_W} {H : Heap} {locs : List Loc} {ls : Array Slot}, va_P D vwCl w H → va_D A w → va_S A s.heap H locs → OB D α w v → Same w0 w 0 234 → lv_has ls 12 [(0, .ref (α 0)), (1, .int (nI P)), (2, .int x2), (3, .int x3), (4, .int x4), (5, .int x5), (6, .int x6), (7, .int 1), (8, .int (nI (j + 1)))] → W pg l en ({ frames := 9, cells := 0, slots := 0, locals := 230 } : Room) s mi ar below me co H locs 0 0 Z (F0 mi 28 ls [])) (hl : lv_has ls 12 [(0, .ref (α 0)), (1, .int (nI P)), (2, .int x2), (3, .int x3), (4, .int x4), (5, .int x5), (6, .int x6), (7, .int 1), (8, .int (nI j)), (11, .int (a_person v (nI j) (0 : Int32)))]) : W pg l en ({ frames := 9, cells := 0, slots := 0, locals := 230 } : Room) s mi ar below me co H locs 0 0 Z (F0 mi 327 ls []) := by
  obtain ⟨-, -, -, kt, kf⟩ := hPF
  rcases kt with ⟨k1, k2⟩ | ⟨k1, k2, k3, k4⟩
  · refine lv_aload_n S.1 S.2.1 dL_stands_327 rfl (lv_at hl 0 rfl) ?_
    refine lv_iload S.1 S.2.1 dL_stands_328 (lv_at hl 8 rfl) ?_
    refine lv_iconst (v := 1) S.1 S.2.1 dL_stands_330 (by decide) ?_
    refine x_aftR (st1 := [.int (a_person v (nI j) (1 : Int32))]) (x_V0 (As := [.int (nI j), .int 1]) (rest := []) S mi_X11_person qw463 (k_person l D A w α (nI j) (1 : Int32) hB) hK hP hD (hE.kept hS.2.1) (hB.recv hK hP) rfl rfl hl.1 (Nat.le_of_ble_eq_true rfl) rfl rfl ⟨(Nat.le_of_ble_eq_true rfl), (Nat.le_of_ble_eq_true rfl)⟩ ⟨(Nat.le_of_ble_eq_true rfl), (Nat.le_of_ble_eq_true rfl)⟩ dL_stands_331) hS (fun _ h => h) rfl (fun locs hS => ?_)
    refine lv_if_ne (tgt := 355) S.1 S.2.1 dL_stands_334 (by decide) (fun z9 => absurd (k1) z9) (fun _ => ?_)
    refine lv_aload_n S.1 S.2.1 dL_stands_337 rfl (lv_at hl 0 rfl) ?_
    refine lv_iload S.1 S.2.1 dL_stands_338 (lv_at hl 8 rfl) ?_
    refine lv_iconst (v := 2) S.1 S.2.1 dL_stands_340 (by decide) ?_
    refine x_aftR (st1 := [.int (a_person v (nI j) (2 : Int32))]) (x_V0 (As := [.int (nI j), .int 2]) (rest := []) S mi_X11_person qw463 (k_person l D A w α (nI j) (2 : Int32) hB) hK hP hD (hE.kept hS.2.1) (hB.recv hK hP) rfl rfl hl.1 (Nat.le_of_ble_eq_true rfl) rfl rfl ⟨(Nat.le_of_ble_eq_true rfl), (Nat.le_of_ble_eq_true rfl)⟩ ⟨(Nat.le_of_ble_eq_true rfl), (Nat.le_of_ble_eq_true rfl)⟩ dL_stands_341) hS (fun _ h => h) rfl (fun locs hS => ?_)
    refine lv_aload_n S.1 S.2.1 dL_stands_344 rfl (lv_at hl 0 rfl) ?_
    refine lv_iconst (v := 0) S.1 S.2.1 dL_stands_345 (by decide) ?_
    refine x_aftQ (st1 := [.int (a_value v (0 : Int32)), .int (a_person v (nI j) (2 : Int32))]) (x_V0 (As := [.int 0]) (rest := [.int (a_person v (nI j) (2 : Int32))]) S mi_X11_value qw725 (k_value l D A w α hR hN (0 : Int32) hB) hK hP hD (hE.kept hS.2.1) (hB.recv hK hP) rfl rfl hl.1 (Nat.le_of_ble_eq_true rfl) rfl rfl ⟨(Nat.le_of_ble_eq_true rfl), (Nat.le_of_ble_eq_true rfl)⟩ ⟨(Nat.le_of_ble_eq_true rfl), (Nat.le_of_ble_eq_true rfl)⟩ dL_stands_346) hS (fun _ h => h) rfl (fun w21 H locs hq hP hD hz hk hS => ?_)
    obtain ⟨hB, hsm⟩ := hq
    have hs0 := hs0.trans hsm
    clear hz hk
    refine lv_icmp_ne (tgt := 403) S.1 S.2.1 dL_stands_349 (by decide) (fun z9 => absurd (k2) z9) (fun _ => ?_)
    refine lv_goto (tgt := 388) S.1 S.2.1 dL_stands_352 (by decide) ?_
    refine lv_aload_n S.1 S.2.1 dL_stands_388 rfl (lv_at hl 0 rfl) ?_
    refine lv_iload S.1 S.2.1 dL_stands_389 (lv_at hl 8 rfl) ?_
    refine lv_iconst (v := 3) S.1 S.2.1 dL_stands_391 (by decide) ?_
    refine x_aftR (st1 := [.int (a_person v (nI j) (3 : Int32))]) (x_V0 (As := [.int (nI j), .int 3]) (rest := []) S mi_X11_person qw463 (k_person l D A w21 α (nI j) (3 : Int32) hB) hK hP hD (hE.kept hS.2.1) (hB.recv hK hP) rfl rfl hl.1 (Nat.le_of_ble_eq_true rfl) rfl rfl ⟨(Nat.le_of_ble_eq_true rfl), (Nat.le_of_ble_eq_true rfl)⟩ ⟨(Nat.le_of_ble_eq_true rfl), (Nat.le_of_ble_eq_true rfl)⟩ dL_stands_392) hS (fun _ h => h) rfl (fun locs hS => ?_)
    refine lv_iconst (v := 3) S.1 S.2.1 dL_stands_395 (by decide) ?_
    refine lv_icmp_gt (tgt := 403) S.1 S.2.1 dL_stands_396 (by decide) (fun z9 => absurd z9 (fun z9 => absurd kf (Int32.not_le.mpr z9))) (fun _ => ?_)
    refine lv_iconst (v := 1) S.1 S.2.1 dL_stands_399 (by decide) ?_
    refine lv_goto (tgt := 404) S.1 S.2.1 dL_stands_400 (by decide) ?_
    refine lv_istore (lv' := [(7, .int 1), (0, .ref (α 0)), (1, .int (nI P)), (2, .int x2), (3, .int x3), (4, .int x4), (5, .int x5), (6, .int x6), (8, .int (nI j)), (11, .int (a_person v (nI j) (0 : Int32)))]) S.1 S.2.1 dL_stands_404 hl (by decide) rfl (fun ls hl => ?_)
    refine lv_iinc (v := (nI (j + 1))) (lv' := [(8, .int (nI (j + 1))), (7, .int 1), (0, .ref (α 0)), (1, .int (nI P)), (2, .int x2), (3, .int x3), (4, .int x4), (5, .int x5), (6, .int x6), (11, .int (a_person v (nI j) (0 : Int32)))]) S.1 S.2.1 dL_stands_406 hl (k := 8) rfl ((nI_succ j).symm) (by decide) rfl (fun ls hl => ?_)
    refine lv_goto (tgt := 28) S.1 S.2.1 dL_stands_409 (by decide) ?_
    exact kk hP hD hS hB hs0 (lv_sub hl [2, 3, 4, 5, 6, 7, 8, 1, 0] rfl)
  · refine lv_aload_n S.1 S.2.1 dL_stands_327 rfl (lv_at hl 0 rfl) ?_
    refine lv_iload S.1 S.2.1 dL_stands_328 (lv_at hl 8 rfl) ?_
    refine lv_iconst (v := 1) S.1 S.2.1 dL_stands_330 (by decide) ?_
    refine x_aftR (st1 := [.int (a_person v (nI j) (1 : Int32))]) (x_V0 (As := [.int (nI j), .int 1]) (rest := []) S mi_X11_person qw463 (k_person l D A w α (nI j) (1 : Int32) hB) hK hP hD (hE.kept hS.2.1) (hB.recv hK hP) rfl rfl hl.1 (Nat.le_of_ble_eq_true rfl) rfl rfl ⟨(Nat.le_of_ble_eq_true rfl), (Nat.le_of_ble_eq_true rfl)⟩ ⟨(Nat.le_of_ble_eq_true rfl), (Nat.le_of_ble_eq_true rfl)⟩ dL_stands_331) hS (fun _ h => h) rfl (fun locs hS => ?_)
    refine lv_if_ne (tgt := 355) S.1 S.2.1 dL_stands_334 (by decide) (fun _ => ?_) (fun z9 => absurd z9 (k1))
    refine lv_iload S.1 S.2.1 dL_stands_355 (lv_at hl 9 rfl) ?_
    refine lv_if_lt (tgt := 403) S.1 S.2.1 dL_stands_357 (by decide) (fun z9 => absurd z9 (k2)) (fun _ => ?_)
    refine lv_aload_n S.1 S.2.1 dL_stands_360 rfl (lv_at hl 0 rfl) ?_
    refine lv_iload S.1 S.2.1 dL_stands_361 (lv_at hl 9 rfl) ?_
    refine lv_iconst (v := 0) S.1 S.2.1 dL_stands_363 (by decide) ?_
    refine x_aftR (st1 := [.int (a_boat v (a_person v (nI j) (0 : Int32)) (0 : Int32))]) (x_V0 (As := [.int (a_person v (nI j) (0 : Int32)), .int 0]) (rest := []) S mi_X11_boat qw1319 (k_boat l D A w α (a_person v (nI j) (0 : Int32)) (0 : Int32) hB) hK hP hD (hE.kept hS.2.1) (hB.recv hK hP) rfl rfl hl.1 (Nat.le_of_ble_eq_true rfl) rfl rfl ⟨(Nat.le_of_ble_eq_true rfl), (Nat.le_of_ble_eq_true rfl)⟩ ⟨(Nat.le_of_ble_eq_true rfl), (Nat.le_of_ble_eq_true rfl)⟩ dL_stands_364) hS (fun _ h => h) rfl (fun locs hS => ?_)
    refine lv_iconst (v := 1) S.1 S.2.1 dL_stands_367 (by decide) ?_
    refine lv_icmp_ne (tgt := 403) S.1 S.2.1 dL_stands_368 (by decide) (fun z9 => absurd (k3) z9) (fun _ => ?_)
    refine lv_aload_n S.1 S.2.1 dL_stands_371 rfl (lv_at hl 0 rfl) ?_
    refine lv_iload S.1 S.2.1 dL_stands_372 (lv_at hl 8 rfl) ?_
    refine lv_iconst (v := 2) S.1 S.2.1 dL_stands_374 (by decide) ?_
    refine x_aftR (st1 := [.int (a_person v (nI j) (2 : Int32))]) (x_V0 (As := [.int (nI j), .int 2]) (rest := []) S mi_X11_person qw463 (k_person l D A w α (nI j) (2 : Int32) hB) hK hP hD (hE.kept hS.2.1) (hB.recv hK hP) rfl rfl hl.1 (Nat.le_of_ble_eq_true rfl) rfl rfl ⟨(Nat.le_of_ble_eq_true rfl), (Nat.le_of_ble_eq_true rfl)⟩ ⟨(Nat.le_of_ble_eq_true rfl), (Nat.le_of_ble_eq_true rfl)⟩ dL_stands_375) hS (fun _ h => h) rfl (fun locs hS => ?_)
    refine lv_aload_n S.1 S.2.1 dL_stands_378 rfl (lv_at hl 0 rfl) ?_
    refine lv_iload S.1 S.2.1 dL_stands_379 (lv_at hl 9 rfl) ?_
    refine lv_iconst (v := 1) S.1 S.2.1 dL_stands_381 (by decide) ?_
    refine x_aftR (st1 := [.int (a_boat v (a_person v (nI j) (0 : Int32)) (1 : Int32)), .int (a_person v (nI j) (2 : Int32))]) (x_V0 (As := [.int (a_person v (nI j) (0 : Int32)), .int 1]) (rest := [.int (a_person v (nI j) (2 : Int32))]) S mi_X11_boat qw1319 (k_boat l D A w α (a_person v (nI j) (0 : Int32)) (1 : Int32) hB) hK hP hD (hE.kept hS.2.1) (hB.recv hK hP) rfl rfl hl.1 (Nat.le_of_ble_eq_true rfl) rfl rfl ⟨(Nat.le_of_ble_eq_true rfl), (Nat.le_of_ble_eq_true rfl)⟩ ⟨(Nat.le_of_ble_eq_true rfl), (Nat.le_of_ble_eq_true rfl)⟩ dL_stands_382) hS (fun _ h => h) rfl (fun locs hS => ?_)
    refine lv_icmp_ne (tgt := 403) S.1 S.2.1 dL_stands_385 (by decide) (fun z9 => absurd (k4) z9) (fun _ => ?_)
    refine lv_aload_n S.1 S.2.1 dL_stands_388 rfl (lv_at hl 0 rfl) ?_
    refine lv_iload S.1 S.2.1 dL_stands_389 (lv_at hl 8 rfl) ?_
    refine lv_iconst (v := 3) S.1 S.2.1 dL_stands_391 (by decide) ?_
    refine x_aftR (st1 := [.int (a_person v (nI j) (3 : Int32))]) (x_V0 (As := [.int (nI j), .int 3]) (rest := []) S mi_X11_person qw463 (k_person l D A w α (nI j) (3 : Int32) hB) hK hP hD (hE.kept hS.2.1) (hB.recv hK hP) rfl rfl hl.1 (Nat.le_of_ble_eq_true rfl) rfl rfl ⟨(Nat.le_of_ble_eq_true rfl), (Nat.le_of_ble_eq_true rfl)⟩ ⟨(Nat.le_of_ble_eq_true rfl), (Nat.le_of_ble_eq_true rfl)⟩ dL_stands_392) hS (fun _ h => h) rfl (fun locs hS => ?_)
    refine lv_iconst (v := 3) S.1 S.2.1 dL_stands_395 (by decide) ?_
    refine lv_icmp_gt (tgt := 403) S.1 S.2.1 dL_stands_396 (by decide) (fun z9 => absurd z9 (fun z9 => absurd kf (Int32.not_le.mpr z9))) (fun _ => ?_)
    refine lv_iconst (v := 1) S.1 S.2.1 dL_stands_399 (by decide) ?_
    refine lv_goto (tgt := 404) S.1 S.2.1 dL_stands_400 (by decide) ?_
    refine lv_istore (lv' := [(7, .int 1), (0, .ref (α 0)), (1, .int (nI P)), (2, .int x2), (3, .int x3), (4, .int x4), (5, .int x5), (6, .int x6), (8, .int (nI j)), (11, .int (a_person v (nI j) (0 : Int32)))]) S.1 S.2.1 dL_stands_404 hl (by decide) rfl (fun ls hl => ?_)
    refine lv_iinc (v := (nI (j + 1))) (lv' := [(8, .int (nI (j + 1))), (7, .int 1), (0, .ref (α 0)), (1, .int (nI P)), (2, .int x2), (3, .int x3), (4, .int x4), (5, .int x5), (6, .int x6), (11, .int (a_person v (nI j) (0 : Int32)))]) S.1 S.2.1 dL_stands_406 hl (k := 8) rfl ((nI_succ j).symm) (by decide) rfl (fun ls hl => ?_)
    refine lv_goto (tgt := 28) S.1 S.2.1 dL_stands_409 (by decide) ?_
    exact kk hP hD hS hB hs0 (lv_sub hl [2, 3, 4, 5, 6, 7, 8, 1, 0] rfl)
set_option maxHeartbeats 4000000 in
set_option maxRecDepth 100000 in
theorem st_p (S : CallFix pg mi co cL_stands 12 s ar lw_all RL) (hK : va_K D vwCl (gTys D) s) (hP : va_P D vwCl w H) (hD : va_D A w) (hE : EV D A s s.heap) (hS : va_S A s.heap H locs) (hr : me.sig.returnType = some .boolean) (hlk : me.locks = false) (hB : OB D α w v) (hs0 : Same w0 w 0 234) (hR : RA N P B Q v) (hN : N ≤ 600) (hEnd : LEnd pg l en ({ frames := 9, cells := 0, slots := 0, locals := 230 } : Room) s mi ar below me co (stQ D A α w0 v) A Z 0 0) (hT : TF v P B) (hKF : ∀ b : Int32, b = 0 ∨ b = 1 ∨ b = 2 ∨ b = 3 → KF v b) (hBF : ∀ j, j < B → BF v (nI j)) (h3 : a_value v 3 = nI B) (hB6 : B ≤ 6) (hPF : ∀ j, j < P → PF v (nI j)) (hP20 : P ≤ 20) (r j : Nat) (hl : lv_has ls 12 [(0, .ref (α 0)), (1, .int (nI P)), (2, .int (sSea v j)), (3, .int (sStr v j)), (4, .int (sTrn v j)), (5, .int (sWrg v j)), (6, .int (sSum v j)), (7, .int 1), (8, .int (nI j))]) (hj : j + r = P) : W pg l en ({ frames := 9, cells := 0, slots := 0, locals := 230 } : Room) s mi ar below me co H locs 0 0 Z (F0 mi 28 ls []) := by
  induction r generalizing j w H locs ls with
  | zero =>
    have hj : j = P := hj
    subst hj
    refine lv_iload S.1 S.2.1 dL_stands_28 (lv_at hl 8 rfl) ?_
    refine lv_iload_n S.1 S.2.1 dL_stands_30 rfl (lv_at hl 1 rfl) ?_
    refine lv_icmp_ge (tgt := 412) S.1 S.2.1 dL_stands_31 (by decide) (fun _ => ?_) (fun z9 => absurd (Int32.le_refl _) z9)
    refine lv_iconst (v := 0) S.1 S.2.1 dL_stands_412 (by decide) ?_
    refine lv_istore (lv' := [(8, .int 0), (0, .ref (α 0)), (1, .int (nI j)), (2, .int (sSea v j)), (3, .int (sStr v j)), (4, .int (sTrn v j)), (5, .int (sWrg v j)), (6, .int (sSum v j)), (7, .int 1)]) S.1 S.2.1 dL_stands_413 hl (by decide) rfl (fun ls hl => ?_)
    refine lv_iconst (v := 0) S.1 S.2.1 dL_stands_415 (by decide) ?_
    refine lv_istore (lv' := [(9, .int 0), (8, .int 0), (0, .ref (α 0)), (1, .int (nI j)), (2, .int (sSea v j)), (3, .int (sStr v j)), (4, .int (sTrn v j)), (5, .int (sWrg v j)), (6, .int (sSum v j)), (7, .int 1)]) S.1 S.2.1 dL_stands_416 hl (by decide) rfl (fun ls hl => ?_)
    refine lv_iconst (v := 0) S.1 S.2.1 dL_stands_418 (by decide) ?_
    refine lv_istore (lv' := [(10, .int 0), (9, .int 0), (8, .int 0), (0, .ref (α 0)), (1, .int (nI j)), (2, .int (sSea v j)), (3, .int (sStr v j)), (4, .int (sTrn v j)), (5, .int (sWrg v j)), (6, .int (sSum v j)), (7, .int 1)]) S.1 S.2.1 dL_stands_419 hl (by decide) rfl (fun ls hl => ?_)
    refine st_b S hK hP hD hE hS hr hlk hB hs0 hR hN hEnd hT hKF hBF h3 hB6 B 0 ?_ (Nat.zero_add B)
    rw [show sOut v 0 = 0 from iter_z _ _, show sAbo v 0 = 0 from iter_z _ _]
    exact lv_sub hl [3, 4, 5, 6, 7, 8, 9, 10, 2, 1, 0] rfl
  | succ r ih =>
    have hjP : j < P := by omega
    have hpf := hPF j hjP
    obtain ⟨kc, kn, kb, -, -⟩ := id hpf
    have eSea : sSea v (j + 1) = sSea v j + a_person v (nI j) 1 := iter_s _ _ _
    have eSum : sSum v (j + 1) = sSum v j + a_person v (nI j) 6 := iter_s _ _ _
    have eStr : sStr v (j + 1) = sStr v j + (if a_stick v (nI j) 0 = 3 then 1 else 0) := iter_s _ _ _
    have eTrn : sTrn v (j + 1) = sTrn v j + (if a_stick v (nI j) 0 = 2 then 1 else 0) := iter_s _ _ _
    have eWrg : sWrg v (j + 1) = sWrg v j ||| (if a_stick v (nI j) 0 = 2 ∧ ¬ a_stick v (nI j) 5 ≤ 0 then ((1 : Int32) <<< (nI j &&& 31)) else 0) := iter_s _ _ _
    refine lv_iload S.1 S.2.1 dL_stands_28 (lv_at hl 8 rfl) ?_
    refine lv_iload_n S.1 S.2.1 dL_stands_30 rfl (lv_at hl 1 rfl) ?_
    refine lv_icmp_ge (tgt := 412) S.1 S.2.1 dL_stands_31 (by decide) (fun z9 => absurd z9 (fun z9 => absurd ((nI_leI (by omega) (by omega)).mp z9) (by omega))) (fun _ => ?_)
    refine lv_iload S.1 S.2.1 dL_stands_34 (lv_at hl 7 rfl) ?_
    refine lv_if_eq (tgt := 412) S.1 S.2.1 dL_stands_36 (by decide) (fun z9 => absurd z9 (by decide)) (fun _ => ?_)
    rcases kc with ⟨q0, q3, q1, q2, q5⟩ | ⟨q0, q3, q1, q4⟩ | ⟨q0, q3, q4, q1, q5⟩ | ⟨q0, q3, q4, q1, q5⟩ | ⟨q0, q3, q4, q1, q5⟩ | ⟨q0, q3, q4, q1, q5⟩
    · refine lv_aload_n S.1 S.2.1 dL_stands_39 rfl (lv_at hl 0 rfl) ?_
      refine lv_iload S.1 S.2.1 dL_stands_40 (lv_at hl 8 rfl) ?_
      refine lv_iconst (v := 0) S.1 S.2.1 dL_stands_42 (by decide) ?_
      refine x_aftR (st1 := [.int (a_stick v (nI j) (0 : Int32))]) (x_V0 (As := [.int (nI j), .int 0]) (rest := []) S mi_X11_stick qw1209 (k_stick l D A w α (nI j) (0 : Int32) hB) hK hP hD (hE.kept hS.2.1) (hB.recv hK hP) rfl rfl hl.1 (Nat.le_of_ble_eq_true rfl) rfl rfl ⟨(Nat.le_of_ble_eq_true rfl), (Nat.le_of_ble_eq_true rfl)⟩ ⟨(Nat.le_of_ble_eq_true rfl), (Nat.le_of_ble_eq_true rfl)⟩ dL_stands_43) hS (fun _ h => h) rfl (fun locs hS => ?_)
      rw [show (a_stick v (nI j) (0 : Int32)) = 0 from q0]
      refine lv_istore (lv' := [(9, .int 0), (0, .ref (α 0)), (1, .int (nI P)), (2, .int (sSea v j)), (3, .int (sStr v j)), (4, .int (sTrn v j)), (5, .int (sWrg v j)), (6, .int (sSum v j)), (7, .int 1), (8, .int (nI j))]) S.1 S.2.1 dL_stands_46 hl (by decide) rfl (fun ls hl => ?_)
      refine lv_aload_n S.1 S.2.1 dL_stands_48 rfl (lv_at hl 1 rfl) ?_
      refine lv_iload S.1 S.2.1 dL_stands_49 (lv_at hl 9 rfl) ?_
      refine lv_iconst (v := 1) S.1 S.2.1 dL_stands_51 (by decide) ?_
      refine x_aftR (st1 := [.int (a_stick v (nI j) (1 : Int32))]) (x_V0 (As := [.int (nI j), .int 1]) (rest := []) S mi_X11_stick qw1209 (k_stick l D A w α (nI j) (1 : Int32) hB) hK hP hD (hE.kept hS.2.1) (hB.recv hK hP) rfl rfl hl.1 (Nat.le_of_ble_eq_true rfl) rfl rfl ⟨(Nat.le_of_ble_eq_true rfl), (Nat.le_of_ble_eq_true rfl)⟩ ⟨(Nat.le_of_ble_eq_true rfl), (Nat.le_of_ble_eq_true rfl)⟩ dL_stands_52) hS (fun _ h => h) rfl (fun locs hS => ?_)
      rw [show (a_stick v (nI j) (1 : Int32)) = (-2) from q1]
      refine lv_istore (lv' := [(10, .int (-2)), (9, .int 0), (0, .ref (α 0)), (1, .int (nI P)), (2, .int (sSea v j)), (3, .int (sStr v j)), (4, .int (sTrn v j)), (5, .int (sWrg v j)), (6, .int (sSum v j)), (7, .int 1), (8, .int (nI j))]) S.1 S.2.1 dL_stands_55 hl (by decide) rfl (fun ls hl => ?_)
      refine lv_aload_n S.1 S.2.1 dL_stands_57 rfl (lv_at hl 2 rfl) ?_
      refine lv_iload S.1 S.2.1 dL_stands_58 (lv_at hl 10 rfl) ?_
      refine lv_iconst (v := 0) S.1 S.2.1 dL_stands_60 (by decide) ?_
      refine x_aftR (st1 := [.int (a_person v (nI j) (0 : Int32))]) (x_V0 (As := [.int (nI j), .int 0]) (rest := []) S mi_X11_person qw463 (k_person l D A w α (nI j) (0 : Int32) hB) hK hP hD (hE.kept hS.2.1) (hB.recv hK hP) rfl rfl hl.1 (Nat.le_of_ble_eq_true rfl) rfl rfl ⟨(Nat.le_of_ble_eq_true rfl), (Nat.le_of_ble_eq_true rfl)⟩ ⟨(Nat.le_of_ble_eq_true rfl), (Nat.le_of_ble_eq_true rfl)⟩ dL_stands_61) hS (fun _ h => h) rfl (fun locs hS => ?_)
      refine lv_istore (lv' := [(11, .int (a_person v (nI j) (0 : Int32))), (10, .int (-2)), (9, .int 0), (0, .ref (α 0)), (1, .int (nI P)), (2, .int (sSea v j)), (3, .int (sStr v j)), (4, .int (sTrn v j)), (5, .int (sWrg v j)), (6, .int (sSum v j)), (7, .int 1), (8, .int (nI j))]) S.1 S.2.1 dL_stands_64 hl (by decide) rfl (fun ls hl => ?_)
      refine lv_iload_n S.1 S.2.1 dL_stands_66 rfl (lv_at hl 5 rfl) ?_
      refine lv_aload_n S.1 S.2.1 dL_stands_67 rfl (lv_at hl 3 rfl) ?_
      refine lv_iload S.1 S.2.1 dL_stands_68 (lv_at hl 11 rfl) ?_
      refine lv_iconst (v := 1) S.1 S.2.1 dL_stands_70 (by decide) ?_
      refine x_aftR (st1 := [.int (a_person v (nI j) (1 : Int32)), .int (sSea v j)]) (x_V0 (As := [.int (nI j), .int 1]) (rest := [.int (sSea v j)]) S mi_X11_person qw463 (k_person l D A w α (nI j) (1 : Int32) hB) hK hP hD (hE.kept hS.2.1) (hB.recv hK hP) rfl rfl hl.1 (Nat.le_of_ble_eq_true rfl) rfl rfl ⟨(Nat.le_of_ble_eq_true rfl), (Nat.le_of_ble_eq_true rfl)⟩ ⟨(Nat.le_of_ble_eq_true rfl), (Nat.le_of_ble_eq_true rfl)⟩ dL_stands_71) hS (fun _ h => h) rfl (fun locs hS => ?_)
      refine lv_iadd S.1 S.2.1 dL_stands_74 ?_
      refine lv_istore_n (lv' := [(2, .int ((sSea v j) + (a_person v (nI j) (1 : Int32)))), (11, .int (a_person v (nI j) (0 : Int32))), (10, .int (-2)), (9, .int 0), (0, .ref (α 0)), (1, .int (nI P)), (3, .int (sStr v j)), (4, .int (sTrn v j)), (5, .int (sWrg v j)), (6, .int (sSum v j)), (7, .int 1), (8, .int (nI j))]) S.1 S.2.1 dL_stands_75 rfl hl (by decide) rfl (fun ls hl => ?_)
      refine lv_iload S.1 S.2.1 dL_stands_76 (lv_at hl 9 rfl) ?_
      refine lv_aload_n S.1 S.2.1 dL_stands_78 rfl (lv_at hl 4 rfl) ?_
      refine lv_iload S.1 S.2.1 dL_stands_79 (lv_at hl 11 rfl) ?_
      refine lv_bipush (v := 6) S.1 S.2.1 dL_stands_81 (by decide) ?_
      refine x_aftR (st1 := [.int (a_person v (nI j) (6 : Int32)), .int (sSum v j)]) (x_V0 (As := [.int (nI j), .int 6]) (rest := [.int (sSum v j)]) S mi_X11_person qw463 (k_person l D A w α (nI j) (6 : Int32) hB) hK hP hD (hE.kept hS.2.1) (hB.recv hK hP) rfl rfl hl.1 (Nat.le_of_ble_eq_true rfl) rfl rfl ⟨(Nat.le_of_ble_eq_true rfl), (Nat.le_of_ble_eq_true rfl)⟩ ⟨(Nat.le_of_ble_eq_true rfl), (Nat.le_of_ble_eq_true rfl)⟩ dL_stands_83) hS (fun _ h => h) rfl (fun locs hS => ?_)
      refine lv_iadd S.1 S.2.1 dL_stands_86 ?_
      refine lv_istore (lv' := [(6, .int ((sSum v j) + (a_person v (nI j) (6 : Int32)))), (2, .int ((sSea v j) + (a_person v (nI j) (1 : Int32)))), (11, .int (a_person v (nI j) (0 : Int32))), (10, .int (-2)), (9, .int 0), (0, .ref (α 0)), (1, .int (nI P)), (3, .int (sStr v j)), (4, .int (sTrn v j)), (5, .int (sWrg v j)), (7, .int 1), (8, .int (nI j))]) S.1 S.2.1 dL_stands_87 hl (by decide) rfl (fun ls hl => ?_)
      refine lv_iload_n S.1 S.2.1 dL_stands_89 rfl (lv_at hl 7 rfl) ?_
      refine lv_iload S.1 S.2.1 dL_stands_90 (lv_at hl 4 rfl) ?_
      refine lv_iconst (v := 3) S.1 S.2.1 dL_stands_92 (by decide) ?_
      refine lv_icmp_ne (tgt := 100) S.1 S.2.1 dL_stands_93 (by decide) (fun _ => ?_) (fun z9 => absurd z9 (by decide))
      refine lv_iconst (v := 0) S.1 S.2.1 dL_stands_100 (by decide) ?_
      refine lv_iadd S.1 S.2.1 dL_stands_101 ?_
      refine lv_istore_n (lv' := [(3, .int ((sStr v j) + 0)), (6, .int ((sSum v j) + (a_person v (nI j) (6 : Int32)))), (2, .int ((sSea v j) + (a_person v (nI j) (1 : Int32)))), (11, .int (a_person v (nI j) (0 : Int32))), (10, .int (-2)), (9, .int 0), (0, .ref (α 0)), (1, .int (nI P)), (4, .int (sTrn v j)), (5, .int (sWrg v j)), (7, .int 1), (8, .int (nI j))]) S.1 S.2.1 dL_stands_102 rfl hl (by decide) rfl (fun ls hl => ?_)
      refine lv_iload S.1 S.2.1 dL_stands_103 (lv_at hl 8 rfl) ?_
      refine lv_iload S.1 S.2.1 dL_stands_105 (lv_at hl 5 rfl) ?_
      refine lv_iconst (v := 2) S.1 S.2.1 dL_stands_107 (by decide) ?_
      refine lv_icmp_ne (tgt := 115) S.1 S.2.1 dL_stands_108 (by decide) (fun _ => ?_) (fun z9 => absurd z9 (by decide))
      refine lv_iconst (v := 0) S.1 S.2.1 dL_stands_115 (by decide) ?_
      refine lv_iadd S.1 S.2.1 dL_stands_116 ?_
      refine lv_istore (lv' := [(4, .int ((sTrn v j) + 0)), (3, .int ((sStr v j) + 0)), (6, .int ((sSum v j) + (a_person v (nI j) (6 : Int32)))), (2, .int ((sSea v j) + (a_person v (nI j) (1 : Int32)))), (11, .int (a_person v (nI j) (0 : Int32))), (10, .int (-2)), (9, .int 0), (0, .ref (α 0)), (1, .int (nI P)), (5, .int (sWrg v j)), (7, .int 1), (8, .int (nI j))]) S.1 S.2.1 dL_stands_117 hl (by decide) rfl (fun ls hl => ?_)
      refine lv_iload S.1 S.2.1 dL_stands_119 (lv_at hl 9 rfl) ?_
      refine lv_iload S.1 S.2.1 dL_stands_121 (lv_at hl 6 rfl) ?_
      refine lv_iconst (v := 2) S.1 S.2.1 dL_stands_123 (by decide) ?_
      refine lv_icmp_ne (tgt := 144) S.1 S.2.1 dL_stands_124 (by decide) (fun _ => ?_) (fun z9 => absurd z9 (by decide))
      refine lv_iconst (v := 0) S.1 S.2.1 dL_stands_144 (by decide) ?_
      refine lv_ior S.1 S.2.1 dL_stands_145 ?_
      refine lv_istore (lv' := [(5, .int ((sWrg v j) ||| 0)), (4, .int ((sTrn v j) + 0)), (3, .int ((sStr v j) + 0)), (6, .int ((sSum v j) + (a_person v (nI j) (6 : Int32)))), (2, .int ((sSea v j) + (a_person v (nI j) (1 : Int32)))), (11, .int (a_person v (nI j) (0 : Int32))), (10, .int (-2)), (9, .int 0), (0, .ref (α 0)), (1, .int (nI P)), (7, .int 1), (8, .int (nI j))]) S.1 S.2.1 dL_stands_146 hl (by decide) rfl (fun ls hl => ?_)
      refine lv_iload S.1 S.2.1 dL_stands_148 (lv_at hl 7 rfl) ?_
      refine lv_if_eq (tgt := 159) S.1 S.2.1 dL_stands_150 (by decide) (fun _ => ?_) (fun z9 => absurd (by decide) z9)
      refine lv_iconst (v := 1) S.1 S.2.1 dL_stands_159 (by decide) ?_
      refine lv_goto (tgt := 164) S.1 S.2.1 dL_stands_160 (by decide) ?_
      refine lv_aload_n S.1 S.2.1 dL_stands_164 rfl (lv_at hl 8 rfl) ?_
      refine lv_iload S.1 S.2.1 dL_stands_165 (lv_at hl 11 rfl) ?_
      refine lv_iconst (v := 3) S.1 S.2.1 dL_stands_167 (by decide) ?_
      refine x_aftR (st1 := [.int (a_stick v (nI j) (3 : Int32)), .int 1]) (x_V0 (As := [.int (nI j), .int 3]) (rest := [.int 1]) S mi_X11_stick qw1209 (k_stick l D A w α (nI j) (3 : Int32) hB) hK hP hD (hE.kept hS.2.1) (hB.recv hK hP) rfl rfl hl.1 (Nat.le_of_ble_eq_true rfl) rfl rfl ⟨(Nat.le_of_ble_eq_true rfl), (Nat.le_of_ble_eq_true rfl)⟩ ⟨(Nat.le_of_ble_eq_true rfl), (Nat.le_of_ble_eq_true rfl)⟩ dL_stands_168) hS (fun _ h => h) rfl (fun locs hS => ?_)
      rw [show (a_stick v (nI j) (3 : Int32)) = (-2) from q3]
      refine lv_bipush (v := (-2)) S.1 S.2.1 dL_stands_171 (by decide) ?_
      refine lv_icmp_ne (tgt := 180) S.1 S.2.1 dL_stands_173 (by decide) (fun z9 => absurd (by decide) z9) (fun _ => ?_)
      refine lv_iconst (v := 1) S.1 S.2.1 dL_stands_176 (by decide) ?_
      refine lv_goto (tgt := 181) S.1 S.2.1 dL_stands_177 (by decide) ?_
      refine lv_icmp_ne (tgt := 403) S.1 S.2.1 dL_stands_181 (by decide) (fun z9 => absurd (by decide) z9) (fun _ => ?_)
      refine lv_iload S.1 S.2.1 dL_stands_184 (lv_at hl 7 rfl) ?_
      refine lv_if_ne (tgt := 208) S.1 S.2.1 dL_stands_186 (by decide) (fun z9 => absurd (by decide) z9) (fun _ => ?_)
      refine lv_iload S.1 S.2.1 dL_stands_189 (lv_at hl 6 rfl) ?_
      refine lv_bipush (v := (-2)) S.1 S.2.1 dL_stands_191 (by decide) ?_
      refine lv_icmp_ne (tgt := 403) S.1 S.2.1 dL_stands_193 (by decide) (fun z9 => absurd (by decide) z9) (fun _ => ?_)
      refine lv_aload_n S.1 S.2.1 dL_stands_196 rfl (lv_at hl 8 rfl) ?_
      refine lv_iload S.1 S.2.1 dL_stands_197 (lv_at hl 11 rfl) ?_
      refine lv_iconst (v := 2) S.1 S.2.1 dL_stands_199 (by decide) ?_
      refine x_aftR (st1 := [.int (a_stick v (nI j) (2 : Int32))]) (x_V0 (As := [.int (nI j), .int 2]) (rest := []) S mi_X11_stick qw1209 (k_stick l D A w α (nI j) (2 : Int32) hB) hK hP hD (hE.kept hS.2.1) (hB.recv hK hP) rfl rfl hl.1 (Nat.le_of_ble_eq_true rfl) rfl rfl ⟨(Nat.le_of_ble_eq_true rfl), (Nat.le_of_ble_eq_true rfl)⟩ ⟨(Nat.le_of_ble_eq_true rfl), (Nat.le_of_ble_eq_true rfl)⟩ dL_stands_200) hS (fun _ h => h) rfl (fun locs hS => ?_)
      rw [show (a_stick v (nI j) (2 : Int32)) = (-2) from q2]
      refine lv_bipush (v := (-2)) S.1 S.2.1 dL_stands_203 (by decide) ?_
      refine lv_icmp_ne (tgt := 403) S.1 S.2.1 dL_stands_205 (by decide) (fun z9 => absurd (by decide) z9) (fun _ => ?_)
      refine lv_iload S.1 S.2.1 dL_stands_208 (lv_at hl 7 rfl) ?_
      refine lv_iconst (v := 1) S.1 S.2.1 dL_stands_210 (by decide) ?_
      refine lv_icmp_ne (tgt := 234) S.1 S.2.1 dL_stands_211 (by decide) (fun _ => ?_) (fun z9 => absurd z9 (by decide))
      refine lv_iload S.1 S.2.1 dL_stands_234 (lv_at hl 7 rfl) ?_
      refine lv_iconst (v := 2) S.1 S.2.1 dL_stands_236 (by decide) ?_
      refine lv_icmp_lt (tgt := 270) S.1 S.2.1 dL_stands_237 (by decide) (fun _ => ?_) (fun z9 => absurd (by decide) z9)
      refine lv_iload S.1 S.2.1 dL_stands_270 (lv_at hl 6 rfl) ?_
      refine lv_if_ge (tgt := 285) S.1 S.2.1 dL_stands_272 (by decide) (fun z9 => absurd z9 (by decide)) (fun _ => ?_)
      refine lv_aload_n S.1 S.2.1 dL_stands_275 rfl (lv_at hl 8 rfl) ?_
      refine lv_iload S.1 S.2.1 dL_stands_276 (lv_at hl 11 rfl) ?_
      refine lv_iconst (v := 5) S.1 S.2.1 dL_stands_278 (by decide) ?_
      refine x_aftR (st1 := [.int (a_stick v (nI j) (5 : Int32))]) (x_V0 (As := [.int (nI j), .int 5]) (rest := []) S mi_X11_stick qw1209 (k_stick l D A w α (nI j) (5 : Int32) hB) hK hP hD (hE.kept hS.2.1) (hB.recv hK hP) rfl rfl hl.1 (Nat.le_of_ble_eq_true rfl) rfl rfl ⟨(Nat.le_of_ble_eq_true rfl), (Nat.le_of_ble_eq_true rfl)⟩ ⟨(Nat.le_of_ble_eq_true rfl), (Nat.le_of_ble_eq_true rfl)⟩ dL_stands_279) hS (fun _ h => h) rfl (fun locs hS => ?_)
      rw [show (a_stick v (nI j) (5 : Int32)) = 0 from q5]
      refine lv_if_ne (tgt := 403) S.1 S.2.1 dL_stands_282 (by decide) (fun z9 => absurd (by decide) z9) (fun _ => ?_)
      refine lv_iload S.1 S.2.1 dL_stands_285 (lv_at hl 6 rfl) ?_
      refine lv_iload S.1 S.2.1 dL_stands_287 (lv_at hl 11 rfl) ?_
      refine lv_icmp_eq (tgt := 403) S.1 S.2.1 dL_stands_289 (by decide) (fun z9 => absurd z9 (fun z9 => kn (q1.trans z9))) (fun _ => ?_)
      refine lv_iload S.1 S.2.1 dL_stands_292 (lv_at hl 7 rfl) ?_
      refine lv_iconst (v := 3) S.1 S.2.1 dL_stands_294 (by decide) ?_
      refine lv_icmp_ne (tgt := 308) S.1 S.2.1 dL_stands_295 (by decide) (fun _ => ?_) (fun z9 => absurd z9 (by decide))
      refine lv_aload_n S.1 S.2.1 dL_stands_308 rfl (lv_at hl 8 rfl) ?_
      refine lv_iload S.1 S.2.1 dL_stands_309 (lv_at hl 11 rfl) ?_
      refine x_aftR (st1 := [.int (a_carries v (nI j))]) (x_V0 (As := [.int (nI j)]) (rest := []) S mi_X11_carries qw1309 (k_carries l D A w α (nI j) hB) hK hP hD (hE.kept hS.2.1) (hB.recv hK hP) rfl rfl hl.1 (Nat.le_of_ble_eq_true rfl) rfl rfl ⟨(Nat.le_of_ble_eq_true rfl), (Nat.le_of_ble_eq_true rfl)⟩ ⟨(Nat.le_of_ble_eq_true rfl), (Nat.le_of_ble_eq_true rfl)⟩ dL_stands_311) hS (fun _ h => h) rfl (fun locs hS => ?_)
      refine x_aftR (st1 := [.int (f_J6_bitCount_0f7a4 (a_carries v (nI j)))]) (x_St0 (As := [.int (a_carries v (nI j))]) (rest := []) S ms_J6_bitCount_0f7a4 qw1318 (c_J6_bitCount_0f7a4 l D A w α (a_carries v (nI j))) hK hP hD (hE.kept hS.2.1) rfl rfl hl.1 (Nat.le_of_ble_eq_true rfl) rfl rfl ⟨(Nat.le_of_ble_eq_true rfl), (Nat.le_of_ble_eq_true rfl)⟩ ⟨(Nat.le_of_ble_eq_true rfl), (Nat.le_of_ble_eq_true rfl)⟩ dL_stands_314) hS (fun _ h => h) rfl (fun locs hS => ?_)
      refine lv_aload_n S.1 S.2.1 dL_stands_317 rfl (lv_at hl 8 rfl) ?_
      refine lv_iload S.1 S.2.1 dL_stands_318 (lv_at hl 11 rfl) ?_
      refine lv_iconst (v := 4) S.1 S.2.1 dL_stands_320 (by decide) ?_
      refine x_aftR (st1 := [.int (a_person v (nI j) (4 : Int32)), .int (f_J6_bitCount_0f7a4 (a_carries v (nI j)))]) (x_V0 (As := [.int (nI j), .int 4]) (rest := [.int (f_J6_bitCount_0f7a4 (a_carries v (nI j)))]) S mi_X11_person qw463 (k_person l D A w α (nI j) (4 : Int32) hB) hK hP hD (hE.kept hS.2.1) (hB.recv hK hP) rfl rfl hl.1 (Nat.le_of_ble_eq_true rfl) rfl rfl ⟨(Nat.le_of_ble_eq_true rfl), (Nat.le_of_ble_eq_true rfl)⟩ ⟨(Nat.le_of_ble_eq_true rfl), (Nat.le_of_ble_eq_true rfl)⟩ dL_stands_321) hS (fun _ h => h) rfl (fun locs hS => ?_)
      refine lv_icmp_ne (tgt := 403) S.1 S.2.1 dL_stands_324 (by decide) (fun z9 => absurd (kb) z9) (fun _ => ?_)
      refine st_px S hK hP hD hE hS hr hlk hB hs0 hR hN hpf (fun {w} {H} {locs} {ls} hP hD hS hB hs0 hl => ih (j := j + 1) hP hD hS hB hs0 ?_ (by omega)) (lv_sub hl [8, 9, 4, 2, 1, 0, 3, 10, 11, 5] rfl)
      rw [eSea, eSum, eStr, eTrn, eWrg, if_neg (show ¬ a_stick v (nI j) 0 = 3 by rw [q0]; decide), if_neg (show ¬ a_stick v (nI j) 0 = 2 by rw [q0]; decide), if_neg (fun z => absurd (q0.symm.trans z.1) (by decide))]
      exact hl
    · refine lv_aload_n S.1 S.2.1 dL_stands_39 rfl (lv_at hl 0 rfl) ?_
      refine lv_iload S.1 S.2.1 dL_stands_40 (lv_at hl 8 rfl) ?_
      refine lv_iconst (v := 0) S.1 S.2.1 dL_stands_42 (by decide) ?_
      refine x_aftR (st1 := [.int (a_stick v (nI j) (0 : Int32))]) (x_V0 (As := [.int (nI j), .int 0]) (rest := []) S mi_X11_stick qw1209 (k_stick l D A w α (nI j) (0 : Int32) hB) hK hP hD (hE.kept hS.2.1) (hB.recv hK hP) rfl rfl hl.1 (Nat.le_of_ble_eq_true rfl) rfl rfl ⟨(Nat.le_of_ble_eq_true rfl), (Nat.le_of_ble_eq_true rfl)⟩ ⟨(Nat.le_of_ble_eq_true rfl), (Nat.le_of_ble_eq_true rfl)⟩ dL_stands_43) hS (fun _ h => h) rfl (fun locs hS => ?_)
      rw [show (a_stick v (nI j) (0 : Int32)) = 1 from q0]
      refine lv_istore (lv' := [(9, .int 1), (0, .ref (α 0)), (1, .int (nI P)), (2, .int (sSea v j)), (3, .int (sStr v j)), (4, .int (sTrn v j)), (5, .int (sWrg v j)), (6, .int (sSum v j)), (7, .int 1), (8, .int (nI j))]) S.1 S.2.1 dL_stands_46 hl (by decide) rfl (fun ls hl => ?_)
      refine lv_aload_n S.1 S.2.1 dL_stands_48 rfl (lv_at hl 1 rfl) ?_
      refine lv_iload S.1 S.2.1 dL_stands_49 (lv_at hl 9 rfl) ?_
      refine lv_iconst (v := 1) S.1 S.2.1 dL_stands_51 (by decide) ?_
      refine x_aftR (st1 := [.int (a_stick v (nI j) (1 : Int32))]) (x_V0 (As := [.int (nI j), .int 1]) (rest := []) S mi_X11_stick qw1209 (k_stick l D A w α (nI j) (1 : Int32) hB) hK hP hD (hE.kept hS.2.1) (hB.recv hK hP) rfl rfl hl.1 (Nat.le_of_ble_eq_true rfl) rfl rfl ⟨(Nat.le_of_ble_eq_true rfl), (Nat.le_of_ble_eq_true rfl)⟩ ⟨(Nat.le_of_ble_eq_true rfl), (Nat.le_of_ble_eq_true rfl)⟩ dL_stands_52) hS (fun _ h => h) rfl (fun locs hS => ?_)
      refine lv_istore (lv' := [(10, .int (a_stick v (nI j) (1 : Int32))), (9, .int 1), (0, .ref (α 0)), (1, .int (nI P)), (2, .int (sSea v j)), (3, .int (sStr v j)), (4, .int (sTrn v j)), (5, .int (sWrg v j)), (6, .int (sSum v j)), (7, .int 1), (8, .int (nI j))]) S.1 S.2.1 dL_stands_55 hl (by decide) rfl (fun ls hl => ?_)
      refine lv_aload_n S.1 S.2.1 dL_stands_57 rfl (lv_at hl 2 rfl) ?_
      refine lv_iload S.1 S.2.1 dL_stands_58 (lv_at hl 10 rfl) ?_
      refine lv_iconst (v := 0) S.1 S.2.1 dL_stands_60 (by decide) ?_
      refine x_aftR (st1 := [.int (a_person v (nI j) (0 : Int32))]) (x_V0 (As := [.int (nI j), .int 0]) (rest := []) S mi_X11_person qw463 (k_person l D A w α (nI j) (0 : Int32) hB) hK hP hD (hE.kept hS.2.1) (hB.recv hK hP) rfl rfl hl.1 (Nat.le_of_ble_eq_true rfl) rfl rfl ⟨(Nat.le_of_ble_eq_true rfl), (Nat.le_of_ble_eq_true rfl)⟩ ⟨(Nat.le_of_ble_eq_true rfl), (Nat.le_of_ble_eq_true rfl)⟩ dL_stands_61) hS (fun _ h => h) rfl (fun locs hS => ?_)
      refine lv_istore (lv' := [(11, .int (a_person v (nI j) (0 : Int32))), (10, .int (a_stick v (nI j) (1 : Int32))), (9, .int 1), (0, .ref (α 0)), (1, .int (nI P)), (2, .int (sSea v j)), (3, .int (sStr v j)), (4, .int (sTrn v j)), (5, .int (sWrg v j)), (6, .int (sSum v j)), (7, .int 1), (8, .int (nI j))]) S.1 S.2.1 dL_stands_64 hl (by decide) rfl (fun ls hl => ?_)
      refine lv_iload_n S.1 S.2.1 dL_stands_66 rfl (lv_at hl 5 rfl) ?_
      refine lv_aload_n S.1 S.2.1 dL_stands_67 rfl (lv_at hl 3 rfl) ?_
      refine lv_iload S.1 S.2.1 dL_stands_68 (lv_at hl 11 rfl) ?_
      refine lv_iconst (v := 1) S.1 S.2.1 dL_stands_70 (by decide) ?_
      refine x_aftR (st1 := [.int (a_person v (nI j) (1 : Int32)), .int (sSea v j)]) (x_V0 (As := [.int (nI j), .int 1]) (rest := [.int (sSea v j)]) S mi_X11_person qw463 (k_person l D A w α (nI j) (1 : Int32) hB) hK hP hD (hE.kept hS.2.1) (hB.recv hK hP) rfl rfl hl.1 (Nat.le_of_ble_eq_true rfl) rfl rfl ⟨(Nat.le_of_ble_eq_true rfl), (Nat.le_of_ble_eq_true rfl)⟩ ⟨(Nat.le_of_ble_eq_true rfl), (Nat.le_of_ble_eq_true rfl)⟩ dL_stands_71) hS (fun _ h => h) rfl (fun locs hS => ?_)
      refine lv_iadd S.1 S.2.1 dL_stands_74 ?_
      refine lv_istore_n (lv' := [(2, .int ((sSea v j) + (a_person v (nI j) (1 : Int32)))), (11, .int (a_person v (nI j) (0 : Int32))), (10, .int (a_stick v (nI j) (1 : Int32))), (9, .int 1), (0, .ref (α 0)), (1, .int (nI P)), (3, .int (sStr v j)), (4, .int (sTrn v j)), (5, .int (sWrg v j)), (6, .int (sSum v j)), (7, .int 1), (8, .int (nI j))]) S.1 S.2.1 dL_stands_75 rfl hl (by decide) rfl (fun ls hl => ?_)
      refine lv_iload S.1 S.2.1 dL_stands_76 (lv_at hl 9 rfl) ?_
      refine lv_aload_n S.1 S.2.1 dL_stands_78 rfl (lv_at hl 4 rfl) ?_
      refine lv_iload S.1 S.2.1 dL_stands_79 (lv_at hl 11 rfl) ?_
      refine lv_bipush (v := 6) S.1 S.2.1 dL_stands_81 (by decide) ?_
      refine x_aftR (st1 := [.int (a_person v (nI j) (6 : Int32)), .int (sSum v j)]) (x_V0 (As := [.int (nI j), .int 6]) (rest := [.int (sSum v j)]) S mi_X11_person qw463 (k_person l D A w α (nI j) (6 : Int32) hB) hK hP hD (hE.kept hS.2.1) (hB.recv hK hP) rfl rfl hl.1 (Nat.le_of_ble_eq_true rfl) rfl rfl ⟨(Nat.le_of_ble_eq_true rfl), (Nat.le_of_ble_eq_true rfl)⟩ ⟨(Nat.le_of_ble_eq_true rfl), (Nat.le_of_ble_eq_true rfl)⟩ dL_stands_83) hS (fun _ h => h) rfl (fun locs hS => ?_)
      refine lv_iadd S.1 S.2.1 dL_stands_86 ?_
      refine lv_istore (lv' := [(6, .int ((sSum v j) + (a_person v (nI j) (6 : Int32)))), (2, .int ((sSea v j) + (a_person v (nI j) (1 : Int32)))), (11, .int (a_person v (nI j) (0 : Int32))), (10, .int (a_stick v (nI j) (1 : Int32))), (9, .int 1), (0, .ref (α 0)), (1, .int (nI P)), (3, .int (sStr v j)), (4, .int (sTrn v j)), (5, .int (sWrg v j)), (7, .int 1), (8, .int (nI j))]) S.1 S.2.1 dL_stands_87 hl (by decide) rfl (fun ls hl => ?_)
      refine lv_iload_n S.1 S.2.1 dL_stands_89 rfl (lv_at hl 7 rfl) ?_
      refine lv_iload S.1 S.2.1 dL_stands_90 (lv_at hl 4 rfl) ?_
      refine lv_iconst (v := 3) S.1 S.2.1 dL_stands_92 (by decide) ?_
      refine lv_icmp_ne (tgt := 100) S.1 S.2.1 dL_stands_93 (by decide) (fun _ => ?_) (fun z9 => absurd z9 (by decide))
      refine lv_iconst (v := 0) S.1 S.2.1 dL_stands_100 (by decide) ?_
      refine lv_iadd S.1 S.2.1 dL_stands_101 ?_
      refine lv_istore_n (lv' := [(3, .int ((sStr v j) + 0)), (6, .int ((sSum v j) + (a_person v (nI j) (6 : Int32)))), (2, .int ((sSea v j) + (a_person v (nI j) (1 : Int32)))), (11, .int (a_person v (nI j) (0 : Int32))), (10, .int (a_stick v (nI j) (1 : Int32))), (9, .int 1), (0, .ref (α 0)), (1, .int (nI P)), (4, .int (sTrn v j)), (5, .int (sWrg v j)), (7, .int 1), (8, .int (nI j))]) S.1 S.2.1 dL_stands_102 rfl hl (by decide) rfl (fun ls hl => ?_)
      refine lv_iload S.1 S.2.1 dL_stands_103 (lv_at hl 8 rfl) ?_
      refine lv_iload S.1 S.2.1 dL_stands_105 (lv_at hl 5 rfl) ?_
      refine lv_iconst (v := 2) S.1 S.2.1 dL_stands_107 (by decide) ?_
      refine lv_icmp_ne (tgt := 115) S.1 S.2.1 dL_stands_108 (by decide) (fun _ => ?_) (fun z9 => absurd z9 (by decide))
      refine lv_iconst (v := 0) S.1 S.2.1 dL_stands_115 (by decide) ?_
      refine lv_iadd S.1 S.2.1 dL_stands_116 ?_
      refine lv_istore (lv' := [(4, .int ((sTrn v j) + 0)), (3, .int ((sStr v j) + 0)), (6, .int ((sSum v j) + (a_person v (nI j) (6 : Int32)))), (2, .int ((sSea v j) + (a_person v (nI j) (1 : Int32)))), (11, .int (a_person v (nI j) (0 : Int32))), (10, .int (a_stick v (nI j) (1 : Int32))), (9, .int 1), (0, .ref (α 0)), (1, .int (nI P)), (5, .int (sWrg v j)), (7, .int 1), (8, .int (nI j))]) S.1 S.2.1 dL_stands_117 hl (by decide) rfl (fun ls hl => ?_)
      refine lv_iload S.1 S.2.1 dL_stands_119 (lv_at hl 9 rfl) ?_
      refine lv_iload S.1 S.2.1 dL_stands_121 (lv_at hl 6 rfl) ?_
      refine lv_iconst (v := 2) S.1 S.2.1 dL_stands_123 (by decide) ?_
      refine lv_icmp_ne (tgt := 144) S.1 S.2.1 dL_stands_124 (by decide) (fun _ => ?_) (fun z9 => absurd z9 (by decide))
      refine lv_iconst (v := 0) S.1 S.2.1 dL_stands_144 (by decide) ?_
      refine lv_ior S.1 S.2.1 dL_stands_145 ?_
      refine lv_istore (lv' := [(5, .int ((sWrg v j) ||| 0)), (4, .int ((sTrn v j) + 0)), (3, .int ((sStr v j) + 0)), (6, .int ((sSum v j) + (a_person v (nI j) (6 : Int32)))), (2, .int ((sSea v j) + (a_person v (nI j) (1 : Int32)))), (11, .int (a_person v (nI j) (0 : Int32))), (10, .int (a_stick v (nI j) (1 : Int32))), (9, .int 1), (0, .ref (α 0)), (1, .int (nI P)), (7, .int 1), (8, .int (nI j))]) S.1 S.2.1 dL_stands_146 hl (by decide) rfl (fun ls hl => ?_)
      refine lv_iload S.1 S.2.1 dL_stands_148 (lv_at hl 7 rfl) ?_
      refine lv_if_eq (tgt := 159) S.1 S.2.1 dL_stands_150 (by decide) (fun z9 => absurd z9 (by decide)) (fun _ => ?_)
      refine lv_iload S.1 S.2.1 dL_stands_153 (lv_at hl 7 rfl) ?_
      refine lv_iconst (v := 1) S.1 S.2.1 dL_stands_155 (by decide) ?_
      refine lv_icmp_ne (tgt := 163) S.1 S.2.1 dL_stands_156 (by decide) (fun z9 => absurd (by decide) z9) (fun _ => ?_)
      refine lv_iconst (v := 1) S.1 S.2.1 dL_stands_159 (by decide) ?_
      refine lv_goto (tgt := 164) S.1 S.2.1 dL_stands_160 (by decide) ?_
      refine lv_aload_n S.1 S.2.1 dL_stands_164 rfl (lv_at hl 8 rfl) ?_
      refine lv_iload S.1 S.2.1 dL_stands_165 (lv_at hl 11 rfl) ?_
      refine lv_iconst (v := 3) S.1 S.2.1 dL_stands_167 (by decide) ?_
      refine x_aftR (st1 := [.int (a_stick v (nI j) (3 : Int32)), .int 1]) (x_V0 (As := [.int (nI j), .int 3]) (rest := [.int 1]) S mi_X11_stick qw1209 (k_stick l D A w α (nI j) (3 : Int32) hB) hK hP hD (hE.kept hS.2.1) (hB.recv hK hP) rfl rfl hl.1 (Nat.le_of_ble_eq_true rfl) rfl rfl ⟨(Nat.le_of_ble_eq_true rfl), (Nat.le_of_ble_eq_true rfl)⟩ ⟨(Nat.le_of_ble_eq_true rfl), (Nat.le_of_ble_eq_true rfl)⟩ dL_stands_168) hS (fun _ h => h) rfl (fun locs hS => ?_)
      rw [show (a_stick v (nI j) (3 : Int32)) = (-2) from q3]
      refine lv_bipush (v := (-2)) S.1 S.2.1 dL_stands_171 (by decide) ?_
      refine lv_icmp_ne (tgt := 180) S.1 S.2.1 dL_stands_173 (by decide) (fun z9 => absurd (by decide) z9) (fun _ => ?_)
      refine lv_iconst (v := 1) S.1 S.2.1 dL_stands_176 (by decide) ?_
      refine lv_goto (tgt := 181) S.1 S.2.1 dL_stands_177 (by decide) ?_
      refine lv_icmp_ne (tgt := 403) S.1 S.2.1 dL_stands_181 (by decide) (fun z9 => absurd (by decide) z9) (fun _ => ?_)
      refine lv_iload S.1 S.2.1 dL_stands_184 (lv_at hl 7 rfl) ?_
      refine lv_if_ne (tgt := 208) S.1 S.2.1 dL_stands_186 (by decide) (fun _ => ?_) (fun z9 => absurd z9 (by decide))
      refine lv_iload S.1 S.2.1 dL_stands_208 (lv_at hl 7 rfl) ?_
      refine lv_iconst (v := 1) S.1 S.2.1 dL_stands_210 (by decide) ?_
      refine lv_icmp_ne (tgt := 234) S.1 S.2.1 dL_stands_211 (by decide) (fun z9 => absurd (by decide) z9) (fun _ => ?_)
      refine lv_iload S.1 S.2.1 dL_stands_214 (lv_at hl 6 rfl) ?_
      refine lv_if_lt (tgt := 403) S.1 S.2.1 dL_stands_216 (by decide) (fun z9 => absurd z9 (q1)) (fun _ => ?_)
      refine lv_aload_n S.1 S.2.1 dL_stands_219 rfl (lv_at hl 8 rfl) ?_
      refine lv_iload S.1 S.2.1 dL_stands_220 (lv_at hl 6 rfl) ?_
      refine x_aftR (st1 := [.int (a_carries v (a_stick v (nI j) (1 : Int32)))]) (x_V0 (As := [.int (a_stick v (nI j) (1 : Int32))]) (rest := []) S mi_X11_carries qw1309 (k_carries l D A w α (a_stick v (nI j) (1 : Int32)) hB) hK hP hD (hE.kept hS.2.1) (hB.recv hK hP) rfl rfl hl.1 (Nat.le_of_ble_eq_true rfl) rfl rfl ⟨(Nat.le_of_ble_eq_true rfl), (Nat.le_of_ble_eq_true rfl)⟩ ⟨(Nat.le_of_ble_eq_true rfl), (Nat.le_of_ble_eq_true rfl)⟩ dL_stands_222) hS (fun _ h => h) rfl (fun locs hS => ?_)
      refine lv_iload S.1 S.2.1 dL_stands_225 (lv_at hl 11 rfl) ?_
      refine lv_ishr S.1 S.2.1 dL_stands_227 ?_
      refine lv_iconst (v := 1) S.1 S.2.1 dL_stands_228 (by decide) ?_
      refine lv_iand S.1 S.2.1 dL_stands_229 ?_
      refine lv_iconst (v := 1) S.1 S.2.1 dL_stands_230 (by decide) ?_
      refine lv_icmp_ne (tgt := 403) S.1 S.2.1 dL_stands_231 (by decide) (fun z9 => absurd (q4) z9) (fun _ => ?_)
      refine lv_iload S.1 S.2.1 dL_stands_234 (lv_at hl 7 rfl) ?_
      refine lv_iconst (v := 2) S.1 S.2.1 dL_stands_236 (by decide) ?_
      refine lv_icmp_lt (tgt := 270) S.1 S.2.1 dL_stands_237 (by decide) (fun _ => ?_) (fun z9 => absurd (by decide) z9)
      refine lv_iload S.1 S.2.1 dL_stands_270 (lv_at hl 6 rfl) ?_
      refine lv_if_ge (tgt := 285) S.1 S.2.1 dL_stands_272 (by decide) (fun _ => ?_) (fun z9 => absurd (Int32.not_lt.mp q1) z9)
      refine lv_iload S.1 S.2.1 dL_stands_285 (lv_at hl 6 rfl) ?_
      refine lv_iload S.1 S.2.1 dL_stands_287 (lv_at hl 11 rfl) ?_
      refine lv_icmp_eq (tgt := 403) S.1 S.2.1 dL_stands_289 (by decide) (fun z9 => absurd z9 (kn)) (fun _ => ?_)
      refine lv_iload S.1 S.2.1 dL_stands_292 (lv_at hl 7 rfl) ?_
      refine lv_iconst (v := 3) S.1 S.2.1 dL_stands_294 (by decide) ?_
      refine lv_icmp_ne (tgt := 308) S.1 S.2.1 dL_stands_295 (by decide) (fun _ => ?_) (fun z9 => absurd z9 (by decide))
      refine lv_aload_n S.1 S.2.1 dL_stands_308 rfl (lv_at hl 8 rfl) ?_
      refine lv_iload S.1 S.2.1 dL_stands_309 (lv_at hl 11 rfl) ?_
      refine x_aftR (st1 := [.int (a_carries v (nI j))]) (x_V0 (As := [.int (nI j)]) (rest := []) S mi_X11_carries qw1309 (k_carries l D A w α (nI j) hB) hK hP hD (hE.kept hS.2.1) (hB.recv hK hP) rfl rfl hl.1 (Nat.le_of_ble_eq_true rfl) rfl rfl ⟨(Nat.le_of_ble_eq_true rfl), (Nat.le_of_ble_eq_true rfl)⟩ ⟨(Nat.le_of_ble_eq_true rfl), (Nat.le_of_ble_eq_true rfl)⟩ dL_stands_311) hS (fun _ h => h) rfl (fun locs hS => ?_)
      refine x_aftR (st1 := [.int (f_J6_bitCount_0f7a4 (a_carries v (nI j)))]) (x_St0 (As := [.int (a_carries v (nI j))]) (rest := []) S ms_J6_bitCount_0f7a4 qw1318 (c_J6_bitCount_0f7a4 l D A w α (a_carries v (nI j))) hK hP hD (hE.kept hS.2.1) rfl rfl hl.1 (Nat.le_of_ble_eq_true rfl) rfl rfl ⟨(Nat.le_of_ble_eq_true rfl), (Nat.le_of_ble_eq_true rfl)⟩ ⟨(Nat.le_of_ble_eq_true rfl), (Nat.le_of_ble_eq_true rfl)⟩ dL_stands_314) hS (fun _ h => h) rfl (fun locs hS => ?_)
      refine lv_aload_n S.1 S.2.1 dL_stands_317 rfl (lv_at hl 8 rfl) ?_
      refine lv_iload S.1 S.2.1 dL_stands_318 (lv_at hl 11 rfl) ?_
      refine lv_iconst (v := 4) S.1 S.2.1 dL_stands_320 (by decide) ?_
      refine x_aftR (st1 := [.int (a_person v (nI j) (4 : Int32)), .int (f_J6_bitCount_0f7a4 (a_carries v (nI j)))]) (x_V0 (As := [.int (nI j), .int 4]) (rest := [.int (f_J6_bitCount_0f7a4 (a_carries v (nI j)))]) S mi_X11_person qw463 (k_person l D A w α (nI j) (4 : Int32) hB) hK hP hD (hE.kept hS.2.1) (hB.recv hK hP) rfl rfl hl.1 (Nat.le_of_ble_eq_true rfl) rfl rfl ⟨(Nat.le_of_ble_eq_true rfl), (Nat.le_of_ble_eq_true rfl)⟩ ⟨(Nat.le_of_ble_eq_true rfl), (Nat.le_of_ble_eq_true rfl)⟩ dL_stands_321) hS (fun _ h => h) rfl (fun locs hS => ?_)
      refine lv_icmp_ne (tgt := 403) S.1 S.2.1 dL_stands_324 (by decide) (fun z9 => absurd (kb) z9) (fun _ => ?_)
      refine st_px S hK hP hD hE hS hr hlk hB hs0 hR hN hpf (fun {w} {H} {locs} {ls} hP hD hS hB hs0 hl => ih (j := j + 1) hP hD hS hB hs0 ?_ (by omega)) (lv_sub hl [8, 9, 4, 2, 1, 0, 3, 10, 11, 5] rfl)
      rw [eSea, eSum, eStr, eTrn, eWrg, if_neg (show ¬ a_stick v (nI j) 0 = 3 by rw [q0]; decide), if_neg (show ¬ a_stick v (nI j) 0 = 2 by rw [q0]; decide), if_neg (fun z => absurd (q0.symm.trans z.1) (by decide))]
      exact hl
    · refine lv_aload_n S.1 S.2.1 dL_stands_39 rfl (lv_at hl 0 rfl) ?_
      refine lv_iload S.1 S.2.1 dL_stands_40 (lv_at hl 8 rfl) ?_
      refine lv_iconst (v := 0) S.1 S.2.1 dL_stands_42 (by decide) ?_
      refine x_aftR (st1 := [.int (a_stick v (nI j) (0 : Int32))]) (x_V0 (As := [.int (nI j), .int 0]) (rest := []) S mi_X11_stick qw1209 (k_stick l D A w α (nI j) (0 : Int32) hB) hK hP hD (hE.kept hS.2.1) (hB.recv hK hP) rfl rfl hl.1 (Nat.le_of_ble_eq_true rfl) rfl rfl ⟨(Nat.le_of_ble_eq_true rfl), (Nat.le_of_ble_eq_true rfl)⟩ ⟨(Nat.le_of_ble_eq_true rfl), (Nat.le_of_ble_eq_true rfl)⟩ dL_stands_43) hS (fun _ h => h) rfl (fun locs hS => ?_)
      rw [show (a_stick v (nI j) (0 : Int32)) = 2 from q0]
      refine lv_istore (lv' := [(9, .int 2), (0, .ref (α 0)), (1, .int (nI P)), (2, .int (sSea v j)), (3, .int (sStr v j)), (4, .int (sTrn v j)), (5, .int (sWrg v j)), (6, .int (sSum v j)), (7, .int 1), (8, .int (nI j))]) S.1 S.2.1 dL_stands_46 hl (by decide) rfl (fun ls hl => ?_)
      refine lv_aload_n S.1 S.2.1 dL_stands_48 rfl (lv_at hl 1 rfl) ?_
      refine lv_iload S.1 S.2.1 dL_stands_49 (lv_at hl 9 rfl) ?_
      refine lv_iconst (v := 1) S.1 S.2.1 dL_stands_51 (by decide) ?_
      refine x_aftR (st1 := [.int (a_stick v (nI j) (1 : Int32))]) (x_V0 (As := [.int (nI j), .int 1]) (rest := []) S mi_X11_stick qw1209 (k_stick l D A w α (nI j) (1 : Int32) hB) hK hP hD (hE.kept hS.2.1) (hB.recv hK hP) rfl rfl hl.1 (Nat.le_of_ble_eq_true rfl) rfl rfl ⟨(Nat.le_of_ble_eq_true rfl), (Nat.le_of_ble_eq_true rfl)⟩ ⟨(Nat.le_of_ble_eq_true rfl), (Nat.le_of_ble_eq_true rfl)⟩ dL_stands_52) hS (fun _ h => h) rfl (fun locs hS => ?_)
      rw [show (a_stick v (nI j) (1 : Int32)) = (-2) from q1]
      refine lv_istore (lv' := [(10, .int (-2)), (9, .int 2), (0, .ref (α 0)), (1, .int (nI P)), (2, .int (sSea v j)), (3, .int (sStr v j)), (4, .int (sTrn v j)), (5, .int (sWrg v j)), (6, .int (sSum v j)), (7, .int 1), (8, .int (nI j))]) S.1 S.2.1 dL_stands_55 hl (by decide) rfl (fun ls hl => ?_)
      refine lv_aload_n S.1 S.2.1 dL_stands_57 rfl (lv_at hl 2 rfl) ?_
      refine lv_iload S.1 S.2.1 dL_stands_58 (lv_at hl 10 rfl) ?_
      refine lv_iconst (v := 0) S.1 S.2.1 dL_stands_60 (by decide) ?_
      refine x_aftR (st1 := [.int (a_person v (nI j) (0 : Int32))]) (x_V0 (As := [.int (nI j), .int 0]) (rest := []) S mi_X11_person qw463 (k_person l D A w α (nI j) (0 : Int32) hB) hK hP hD (hE.kept hS.2.1) (hB.recv hK hP) rfl rfl hl.1 (Nat.le_of_ble_eq_true rfl) rfl rfl ⟨(Nat.le_of_ble_eq_true rfl), (Nat.le_of_ble_eq_true rfl)⟩ ⟨(Nat.le_of_ble_eq_true rfl), (Nat.le_of_ble_eq_true rfl)⟩ dL_stands_61) hS (fun _ h => h) rfl (fun locs hS => ?_)
      refine lv_istore (lv' := [(11, .int (a_person v (nI j) (0 : Int32))), (10, .int (-2)), (9, .int 2), (0, .ref (α 0)), (1, .int (nI P)), (2, .int (sSea v j)), (3, .int (sStr v j)), (4, .int (sTrn v j)), (5, .int (sWrg v j)), (6, .int (sSum v j)), (7, .int 1), (8, .int (nI j))]) S.1 S.2.1 dL_stands_64 hl (by decide) rfl (fun ls hl => ?_)
      refine lv_iload_n S.1 S.2.1 dL_stands_66 rfl (lv_at hl 5 rfl) ?_
      refine lv_aload_n S.1 S.2.1 dL_stands_67 rfl (lv_at hl 3 rfl) ?_
      refine lv_iload S.1 S.2.1 dL_stands_68 (lv_at hl 11 rfl) ?_
      refine lv_iconst (v := 1) S.1 S.2.1 dL_stands_70 (by decide) ?_
      refine x_aftR (st1 := [.int (a_person v (nI j) (1 : Int32)), .int (sSea v j)]) (x_V0 (As := [.int (nI j), .int 1]) (rest := [.int (sSea v j)]) S mi_X11_person qw463 (k_person l D A w α (nI j) (1 : Int32) hB) hK hP hD (hE.kept hS.2.1) (hB.recv hK hP) rfl rfl hl.1 (Nat.le_of_ble_eq_true rfl) rfl rfl ⟨(Nat.le_of_ble_eq_true rfl), (Nat.le_of_ble_eq_true rfl)⟩ ⟨(Nat.le_of_ble_eq_true rfl), (Nat.le_of_ble_eq_true rfl)⟩ dL_stands_71) hS (fun _ h => h) rfl (fun locs hS => ?_)
      refine lv_iadd S.1 S.2.1 dL_stands_74 ?_
      refine lv_istore_n (lv' := [(2, .int ((sSea v j) + (a_person v (nI j) (1 : Int32)))), (11, .int (a_person v (nI j) (0 : Int32))), (10, .int (-2)), (9, .int 2), (0, .ref (α 0)), (1, .int (nI P)), (3, .int (sStr v j)), (4, .int (sTrn v j)), (5, .int (sWrg v j)), (6, .int (sSum v j)), (7, .int 1), (8, .int (nI j))]) S.1 S.2.1 dL_stands_75 rfl hl (by decide) rfl (fun ls hl => ?_)
      refine lv_iload S.1 S.2.1 dL_stands_76 (lv_at hl 9 rfl) ?_
      refine lv_aload_n S.1 S.2.1 dL_stands_78 rfl (lv_at hl 4 rfl) ?_
      refine lv_iload S.1 S.2.1 dL_stands_79 (lv_at hl 11 rfl) ?_
      refine lv_bipush (v := 6) S.1 S.2.1 dL_stands_81 (by decide) ?_
      refine x_aftR (st1 := [.int (a_person v (nI j) (6 : Int32)), .int (sSum v j)]) (x_V0 (As := [.int (nI j), .int 6]) (rest := [.int (sSum v j)]) S mi_X11_person qw463 (k_person l D A w α (nI j) (6 : Int32) hB) hK hP hD (hE.kept hS.2.1) (hB.recv hK hP) rfl rfl hl.1 (Nat.le_of_ble_eq_true rfl) rfl rfl ⟨(Nat.le_of_ble_eq_true rfl), (Nat.le_of_ble_eq_true rfl)⟩ ⟨(Nat.le_of_ble_eq_true rfl), (Nat.le_of_ble_eq_true rfl)⟩ dL_stands_83) hS (fun _ h => h) rfl (fun locs hS => ?_)
      refine lv_iadd S.1 S.2.1 dL_stands_86 ?_
      refine lv_istore (lv' := [(6, .int ((sSum v j) + (a_person v (nI j) (6 : Int32)))), (2, .int ((sSea v j) + (a_person v (nI j) (1 : Int32)))), (11, .int (a_person v (nI j) (0 : Int32))), (10, .int (-2)), (9, .int 2), (0, .ref (α 0)), (1, .int (nI P)), (3, .int (sStr v j)), (4, .int (sTrn v j)), (5, .int (sWrg v j)), (7, .int 1), (8, .int (nI j))]) S.1 S.2.1 dL_stands_87 hl (by decide) rfl (fun ls hl => ?_)
      refine lv_iload_n S.1 S.2.1 dL_stands_89 rfl (lv_at hl 7 rfl) ?_
      refine lv_iload S.1 S.2.1 dL_stands_90 (lv_at hl 4 rfl) ?_
      refine lv_iconst (v := 3) S.1 S.2.1 dL_stands_92 (by decide) ?_
      refine lv_icmp_ne (tgt := 100) S.1 S.2.1 dL_stands_93 (by decide) (fun _ => ?_) (fun z9 => absurd z9 (by decide))
      refine lv_iconst (v := 0) S.1 S.2.1 dL_stands_100 (by decide) ?_
      refine lv_iadd S.1 S.2.1 dL_stands_101 ?_
      refine lv_istore_n (lv' := [(3, .int ((sStr v j) + 0)), (6, .int ((sSum v j) + (a_person v (nI j) (6 : Int32)))), (2, .int ((sSea v j) + (a_person v (nI j) (1 : Int32)))), (11, .int (a_person v (nI j) (0 : Int32))), (10, .int (-2)), (9, .int 2), (0, .ref (α 0)), (1, .int (nI P)), (4, .int (sTrn v j)), (5, .int (sWrg v j)), (7, .int 1), (8, .int (nI j))]) S.1 S.2.1 dL_stands_102 rfl hl (by decide) rfl (fun ls hl => ?_)
      refine lv_iload S.1 S.2.1 dL_stands_103 (lv_at hl 8 rfl) ?_
      refine lv_iload S.1 S.2.1 dL_stands_105 (lv_at hl 5 rfl) ?_
      refine lv_iconst (v := 2) S.1 S.2.1 dL_stands_107 (by decide) ?_
      refine lv_icmp_ne (tgt := 115) S.1 S.2.1 dL_stands_108 (by decide) (fun z9 => absurd (by decide) z9) (fun _ => ?_)
      refine lv_iconst (v := 1) S.1 S.2.1 dL_stands_111 (by decide) ?_
      refine lv_goto (tgt := 116) S.1 S.2.1 dL_stands_112 (by decide) ?_
      refine lv_iadd S.1 S.2.1 dL_stands_116 ?_
      refine lv_istore (lv' := [(4, .int ((sTrn v j) + 1)), (3, .int ((sStr v j) + 0)), (6, .int ((sSum v j) + (a_person v (nI j) (6 : Int32)))), (2, .int ((sSea v j) + (a_person v (nI j) (1 : Int32)))), (11, .int (a_person v (nI j) (0 : Int32))), (10, .int (-2)), (9, .int 2), (0, .ref (α 0)), (1, .int (nI P)), (5, .int (sWrg v j)), (7, .int 1), (8, .int (nI j))]) S.1 S.2.1 dL_stands_117 hl (by decide) rfl (fun ls hl => ?_)
      refine lv_iload S.1 S.2.1 dL_stands_119 (lv_at hl 9 rfl) ?_
      refine lv_iload S.1 S.2.1 dL_stands_121 (lv_at hl 6 rfl) ?_
      refine lv_iconst (v := 2) S.1 S.2.1 dL_stands_123 (by decide) ?_
      refine lv_icmp_ne (tgt := 144) S.1 S.2.1 dL_stands_124 (by decide) (fun z9 => absurd (by decide) z9) (fun _ => ?_)
      refine lv_aload_n S.1 S.2.1 dL_stands_127 rfl (lv_at hl 7 rfl) ?_
      refine lv_iload S.1 S.2.1 dL_stands_128 (lv_at hl 11 rfl) ?_
      refine lv_iconst (v := 5) S.1 S.2.1 dL_stands_130 (by decide) ?_
      refine x_aftR (st1 := [.int (a_stick v (nI j) (5 : Int32)), .int (sWrg v j)]) (x_V0 (As := [.int (nI j), .int 5]) (rest := [.int (sWrg v j)]) S mi_X11_stick qw1209 (k_stick l D A w α (nI j) (5 : Int32) hB) hK hP hD (hE.kept hS.2.1) (hB.recv hK hP) rfl rfl hl.1 (Nat.le_of_ble_eq_true rfl) rfl rfl ⟨(Nat.le_of_ble_eq_true rfl), (Nat.le_of_ble_eq_true rfl)⟩ ⟨(Nat.le_of_ble_eq_true rfl), (Nat.le_of_ble_eq_true rfl)⟩ dL_stands_131) hS (fun _ h => h) rfl (fun locs hS => ?_)
      rw [show (a_stick v (nI j) (5 : Int32)) = 0 from q5]
      refine lv_if_le (tgt := 144) S.1 S.2.1 dL_stands_134 (by decide) (fun _ => ?_) (fun z9 => absurd (by decide) z9)
      refine lv_iconst (v := 0) S.1 S.2.1 dL_stands_144 (by decide) ?_
      refine lv_ior S.1 S.2.1 dL_stands_145 ?_
      refine lv_istore (lv' := [(5, .int ((sWrg v j) ||| 0)), (4, .int ((sTrn v j) + 1)), (3, .int ((sStr v j) + 0)), (6, .int ((sSum v j) + (a_person v (nI j) (6 : Int32)))), (2, .int ((sSea v j) + (a_person v (nI j) (1 : Int32)))), (11, .int (a_person v (nI j) (0 : Int32))), (10, .int (-2)), (9, .int 2), (0, .ref (α 0)), (1, .int (nI P)), (7, .int 1), (8, .int (nI j))]) S.1 S.2.1 dL_stands_146 hl (by decide) rfl (fun ls hl => ?_)
      refine lv_iload S.1 S.2.1 dL_stands_148 (lv_at hl 7 rfl) ?_
      refine lv_if_eq (tgt := 159) S.1 S.2.1 dL_stands_150 (by decide) (fun z9 => absurd z9 (by decide)) (fun _ => ?_)
      refine lv_iload S.1 S.2.1 dL_stands_153 (lv_at hl 7 rfl) ?_
      refine lv_iconst (v := 1) S.1 S.2.1 dL_stands_155 (by decide) ?_
      refine lv_icmp_ne (tgt := 163) S.1 S.2.1 dL_stands_156 (by decide) (fun _ => ?_) (fun z9 => absurd z9 (by decide))
      refine lv_iconst (v := 0) S.1 S.2.1 dL_stands_163 (by decide) ?_
      refine lv_aload_n S.1 S.2.1 dL_stands_164 rfl (lv_at hl 8 rfl) ?_
      refine lv_iload S.1 S.2.1 dL_stands_165 (lv_at hl 11 rfl) ?_
      refine lv_iconst (v := 3) S.1 S.2.1 dL_stands_167 (by decide) ?_
      refine x_aftR (st1 := [.int (a_stick v (nI j) (3 : Int32)), .int 0]) (x_V0 (As := [.int (nI j), .int 3]) (rest := [.int 0]) S mi_X11_stick qw1209 (k_stick l D A w α (nI j) (3 : Int32) hB) hK hP hD (hE.kept hS.2.1) (hB.recv hK hP) rfl rfl hl.1 (Nat.le_of_ble_eq_true rfl) rfl rfl ⟨(Nat.le_of_ble_eq_true rfl), (Nat.le_of_ble_eq_true rfl)⟩ ⟨(Nat.le_of_ble_eq_true rfl), (Nat.le_of_ble_eq_true rfl)⟩ dL_stands_168) hS (fun _ h => h) rfl (fun locs hS => ?_)
      refine lv_bipush (v := (-2)) S.1 S.2.1 dL_stands_171 (by decide) ?_
      refine lv_icmp_ne (tgt := 180) S.1 S.2.1 dL_stands_173 (by decide) (fun _ => ?_) (fun z9 => absurd z9 (q3))
      refine lv_iconst (v := 0) S.1 S.2.1 dL_stands_180 (by decide) ?_
      refine lv_icmp_ne (tgt := 403) S.1 S.2.1 dL_stands_181 (by decide) (fun z9 => absurd (by decide) z9) (fun _ => ?_)
      refine lv_iload S.1 S.2.1 dL_stands_184 (lv_at hl 7 rfl) ?_
      refine lv_if_ne (tgt := 208) S.1 S.2.1 dL_stands_186 (by decide) (fun _ => ?_) (fun z9 => absurd z9 (by decide))
      refine lv_iload S.1 S.2.1 dL_stands_208 (lv_at hl 7 rfl) ?_
      refine lv_iconst (v := 1) S.1 S.2.1 dL_stands_210 (by decide) ?_
      refine lv_icmp_ne (tgt := 234) S.1 S.2.1 dL_stands_211 (by decide) (fun _ => ?_) (fun z9 => absurd z9 (by decide))
      refine lv_iload S.1 S.2.1 dL_stands_234 (lv_at hl 7 rfl) ?_
      refine lv_iconst (v := 2) S.1 S.2.1 dL_stands_236 (by decide) ?_
      refine lv_icmp_lt (tgt := 270) S.1 S.2.1 dL_stands_237 (by decide) (fun z9 => absurd z9 (by decide)) (fun _ => ?_)
      refine lv_aload_n S.1 S.2.1 dL_stands_240 rfl (lv_at hl 8 rfl) ?_
      refine lv_aload_n S.1 S.2.1 dL_stands_241 rfl (lv_at hl 8 rfl) ?_
      refine lv_iload S.1 S.2.1 dL_stands_242 (lv_at hl 11 rfl) ?_
      refine lv_iconst (v := 3) S.1 S.2.1 dL_stands_244 (by decide) ?_
      refine x_aftR (st1 := [.int (a_stick v (nI j) (3 : Int32)), .ref (α 0)]) (x_V0 (As := [.int (nI j), .int 3]) (rest := [.ref (α 0)]) S mi_X11_stick qw1209 (k_stick l D A w α (nI j) (3 : Int32) hB) hK hP hD (hE.kept hS.2.1) (hB.recv hK hP) rfl rfl hl.1 (Nat.le_of_ble_eq_true rfl) rfl rfl ⟨(Nat.le_of_ble_eq_true rfl), (Nat.le_of_ble_eq_true rfl)⟩ ⟨(Nat.le_of_ble_eq_true rfl), (Nat.le_of_ble_eq_true rfl)⟩ dL_stands_245) hS (fun _ h => h) rfl (fun locs hS => ?_)
      refine x_aftR (st1 := [.int (a_owners v (a_stick v (nI j) (3 : Int32)))]) (x_V0 (As := [.int (a_stick v (nI j) (3 : Int32))]) (rest := []) S mi_X11_owners qw1313 (k_owners l D A w α (a_stick v (nI j) (3 : Int32)) hB) hK hP hD (hE.kept hS.2.1) (hB.recv hK hP) rfl rfl hl.1 (Nat.le_of_ble_eq_true rfl) rfl rfl ⟨(Nat.le_of_ble_eq_true rfl), (Nat.le_of_ble_eq_true rfl)⟩ ⟨(Nat.le_of_ble_eq_true rfl), (Nat.le_of_ble_eq_true rfl)⟩ dL_stands_248) hS (fun _ h => h) rfl (fun locs hS => ?_)
      refine lv_iload S.1 S.2.1 dL_stands_251 (lv_at hl 11 rfl) ?_
      refine lv_ishr S.1 S.2.1 dL_stands_253 ?_
      refine lv_iconst (v := 1) S.1 S.2.1 dL_stands_254 (by decide) ?_
      refine lv_iand S.1 S.2.1 dL_stands_255 ?_
      refine lv_iload S.1 S.2.1 dL_stands_256 (lv_at hl 7 rfl) ?_
      refine lv_iconst (v := 2) S.1 S.2.1 dL_stands_258 (by decide) ?_
      refine lv_icmp_ne (tgt := 266) S.1 S.2.1 dL_stands_259 (by decide) (fun z9 => absurd (by decide) z9) (fun _ => ?_)
      refine lv_iconst (v := 1) S.1 S.2.1 dL_stands_262 (by decide) ?_
      refine lv_goto (tgt := 267) S.1 S.2.1 dL_stands_263 (by decide) ?_
      refine lv_icmp_ne (tgt := 403) S.1 S.2.1 dL_stands_267 (by decide) (fun z9 => absurd (q4) z9) (fun _ => ?_)
      refine lv_iload S.1 S.2.1 dL_stands_270 (lv_at hl 6 rfl) ?_
      refine lv_if_ge (tgt := 285) S.1 S.2.1 dL_stands_272 (by decide) (fun z9 => absurd z9 (by decide)) (fun _ => ?_)
      refine lv_aload_n S.1 S.2.1 dL_stands_275 rfl (lv_at hl 8 rfl) ?_
      refine lv_iload S.1 S.2.1 dL_stands_276 (lv_at hl 11 rfl) ?_
      refine lv_iconst (v := 5) S.1 S.2.1 dL_stands_278 (by decide) ?_
      refine x_aftR (st1 := [.int (a_stick v (nI j) (5 : Int32))]) (x_V0 (As := [.int (nI j), .int 5]) (rest := []) S mi_X11_stick qw1209 (k_stick l D A w α (nI j) (5 : Int32) hB) hK hP hD (hE.kept hS.2.1) (hB.recv hK hP) rfl rfl hl.1 (Nat.le_of_ble_eq_true rfl) rfl rfl ⟨(Nat.le_of_ble_eq_true rfl), (Nat.le_of_ble_eq_true rfl)⟩ ⟨(Nat.le_of_ble_eq_true rfl), (Nat.le_of_ble_eq_true rfl)⟩ dL_stands_279) hS (fun _ h => h) rfl (fun locs hS => ?_)
      rw [show (a_stick v (nI j) (5 : Int32)) = 0 from q5]
      refine lv_if_ne (tgt := 403) S.1 S.2.1 dL_stands_282 (by decide) (fun z9 => absurd (by decide) z9) (fun _ => ?_)
      refine lv_iload S.1 S.2.1 dL_stands_285 (lv_at hl 6 rfl) ?_
      refine lv_iload S.1 S.2.1 dL_stands_287 (lv_at hl 11 rfl) ?_
      refine lv_icmp_eq (tgt := 403) S.1 S.2.1 dL_stands_289 (by decide) (fun z9 => absurd z9 (fun z9 => kn (q1.trans z9))) (fun _ => ?_)
      refine lv_iload S.1 S.2.1 dL_stands_292 (lv_at hl 7 rfl) ?_
      refine lv_iconst (v := 3) S.1 S.2.1 dL_stands_294 (by decide) ?_
      refine lv_icmp_ne (tgt := 308) S.1 S.2.1 dL_stands_295 (by decide) (fun _ => ?_) (fun z9 => absurd z9 (by decide))
      refine lv_aload_n S.1 S.2.1 dL_stands_308 rfl (lv_at hl 8 rfl) ?_
      refine lv_iload S.1 S.2.1 dL_stands_309 (lv_at hl 11 rfl) ?_
      refine x_aftR (st1 := [.int (a_carries v (nI j))]) (x_V0 (As := [.int (nI j)]) (rest := []) S mi_X11_carries qw1309 (k_carries l D A w α (nI j) hB) hK hP hD (hE.kept hS.2.1) (hB.recv hK hP) rfl rfl hl.1 (Nat.le_of_ble_eq_true rfl) rfl rfl ⟨(Nat.le_of_ble_eq_true rfl), (Nat.le_of_ble_eq_true rfl)⟩ ⟨(Nat.le_of_ble_eq_true rfl), (Nat.le_of_ble_eq_true rfl)⟩ dL_stands_311) hS (fun _ h => h) rfl (fun locs hS => ?_)
      refine x_aftR (st1 := [.int (f_J6_bitCount_0f7a4 (a_carries v (nI j)))]) (x_St0 (As := [.int (a_carries v (nI j))]) (rest := []) S ms_J6_bitCount_0f7a4 qw1318 (c_J6_bitCount_0f7a4 l D A w α (a_carries v (nI j))) hK hP hD (hE.kept hS.2.1) rfl rfl hl.1 (Nat.le_of_ble_eq_true rfl) rfl rfl ⟨(Nat.le_of_ble_eq_true rfl), (Nat.le_of_ble_eq_true rfl)⟩ ⟨(Nat.le_of_ble_eq_true rfl), (Nat.le_of_ble_eq_true rfl)⟩ dL_stands_314) hS (fun _ h => h) rfl (fun locs hS => ?_)
      refine lv_aload_n S.1 S.2.1 dL_stands_317 rfl (lv_at hl 8 rfl) ?_
      refine lv_iload S.1 S.2.1 dL_stands_318 (lv_at hl 11 rfl) ?_
      refine lv_iconst (v := 4) S.1 S.2.1 dL_stands_320 (by decide) ?_
      refine x_aftR (st1 := [.int (a_person v (nI j) (4 : Int32)), .int (f_J6_bitCount_0f7a4 (a_carries v (nI j)))]) (x_V0 (As := [.int (nI j), .int 4]) (rest := [.int (f_J6_bitCount_0f7a4 (a_carries v (nI j)))]) S mi_X11_person qw463 (k_person l D A w α (nI j) (4 : Int32) hB) hK hP hD (hE.kept hS.2.1) (hB.recv hK hP) rfl rfl hl.1 (Nat.le_of_ble_eq_true rfl) rfl rfl ⟨(Nat.le_of_ble_eq_true rfl), (Nat.le_of_ble_eq_true rfl)⟩ ⟨(Nat.le_of_ble_eq_true rfl), (Nat.le_of_ble_eq_true rfl)⟩ dL_stands_321) hS (fun _ h => h) rfl (fun locs hS => ?_)
      refine lv_icmp_ne (tgt := 403) S.1 S.2.1 dL_stands_324 (by decide) (fun z9 => absurd (kb) z9) (fun _ => ?_)
      refine st_px S hK hP hD hE hS hr hlk hB hs0 hR hN hpf (fun {w} {H} {locs} {ls} hP hD hS hB hs0 hl => ih (j := j + 1) hP hD hS hB hs0 ?_ (by omega)) (lv_sub hl [8, 9, 4, 2, 1, 0, 3, 10, 11, 5] rfl)
      rw [eSea, eSum, eStr, eTrn, eWrg, if_neg (show ¬ a_stick v (nI j) 0 = 3 by rw [q0]; decide), if_pos q0, if_neg (fun z => z.2 (by rw [q5]; decide))]
      exact hl
    · refine lv_aload_n S.1 S.2.1 dL_stands_39 rfl (lv_at hl 0 rfl) ?_
      refine lv_iload S.1 S.2.1 dL_stands_40 (lv_at hl 8 rfl) ?_
      refine lv_iconst (v := 0) S.1 S.2.1 dL_stands_42 (by decide) ?_
      refine x_aftR (st1 := [.int (a_stick v (nI j) (0 : Int32))]) (x_V0 (As := [.int (nI j), .int 0]) (rest := []) S mi_X11_stick qw1209 (k_stick l D A w α (nI j) (0 : Int32) hB) hK hP hD (hE.kept hS.2.1) (hB.recv hK hP) rfl rfl hl.1 (Nat.le_of_ble_eq_true rfl) rfl rfl ⟨(Nat.le_of_ble_eq_true rfl), (Nat.le_of_ble_eq_true rfl)⟩ ⟨(Nat.le_of_ble_eq_true rfl), (Nat.le_of_ble_eq_true rfl)⟩ dL_stands_43) hS (fun _ h => h) rfl (fun locs hS => ?_)
      rw [show (a_stick v (nI j) (0 : Int32)) = 2 from q0]
      refine lv_istore (lv' := [(9, .int 2), (0, .ref (α 0)), (1, .int (nI P)), (2, .int (sSea v j)), (3, .int (sStr v j)), (4, .int (sTrn v j)), (5, .int (sWrg v j)), (6, .int (sSum v j)), (7, .int 1), (8, .int (nI j))]) S.1 S.2.1 dL_stands_46 hl (by decide) rfl (fun ls hl => ?_)
      refine lv_aload_n S.1 S.2.1 dL_stands_48 rfl (lv_at hl 1 rfl) ?_
      refine lv_iload S.1 S.2.1 dL_stands_49 (lv_at hl 9 rfl) ?_
      refine lv_iconst (v := 1) S.1 S.2.1 dL_stands_51 (by decide) ?_
      refine x_aftR (st1 := [.int (a_stick v (nI j) (1 : Int32))]) (x_V0 (As := [.int (nI j), .int 1]) (rest := []) S mi_X11_stick qw1209 (k_stick l D A w α (nI j) (1 : Int32) hB) hK hP hD (hE.kept hS.2.1) (hB.recv hK hP) rfl rfl hl.1 (Nat.le_of_ble_eq_true rfl) rfl rfl ⟨(Nat.le_of_ble_eq_true rfl), (Nat.le_of_ble_eq_true rfl)⟩ ⟨(Nat.le_of_ble_eq_true rfl), (Nat.le_of_ble_eq_true rfl)⟩ dL_stands_52) hS (fun _ h => h) rfl (fun locs hS => ?_)
      refine lv_istore (lv' := [(10, .int (a_stick v (nI j) (1 : Int32))), (9, .int 2), (0, .ref (α 0)), (1, .int (nI P)), (2, .int (sSea v j)), (3, .int (sStr v j)), (4, .int (sTrn v j)), (5, .int (sWrg v j)), (6, .int (sSum v j)), (7, .int 1), (8, .int (nI j))]) S.1 S.2.1 dL_stands_55 hl (by decide) rfl (fun ls hl => ?_)
      refine lv_aload_n S.1 S.2.1 dL_stands_57 rfl (lv_at hl 2 rfl) ?_
      refine lv_iload S.1 S.2.1 dL_stands_58 (lv_at hl 10 rfl) ?_
      refine lv_iconst (v := 0) S.1 S.2.1 dL_stands_60 (by decide) ?_
      refine x_aftR (st1 := [.int (a_person v (nI j) (0 : Int32))]) (x_V0 (As := [.int (nI j), .int 0]) (rest := []) S mi_X11_person qw463 (k_person l D A w α (nI j) (0 : Int32) hB) hK hP hD (hE.kept hS.2.1) (hB.recv hK hP) rfl rfl hl.1 (Nat.le_of_ble_eq_true rfl) rfl rfl ⟨(Nat.le_of_ble_eq_true rfl), (Nat.le_of_ble_eq_true rfl)⟩ ⟨(Nat.le_of_ble_eq_true rfl), (Nat.le_of_ble_eq_true rfl)⟩ dL_stands_61) hS (fun _ h => h) rfl (fun locs hS => ?_)
      refine lv_istore (lv' := [(11, .int (a_person v (nI j) (0 : Int32))), (10, .int (a_stick v (nI j) (1 : Int32))), (9, .int 2), (0, .ref (α 0)), (1, .int (nI P)), (2, .int (sSea v j)), (3, .int (sStr v j)), (4, .int (sTrn v j)), (5, .int (sWrg v j)), (6, .int (sSum v j)), (7, .int 1), (8, .int (nI j))]) S.1 S.2.1 dL_stands_64 hl (by decide) rfl (fun ls hl => ?_)
      refine lv_iload_n S.1 S.2.1 dL_stands_66 rfl (lv_at hl 5 rfl) ?_
      refine lv_aload_n S.1 S.2.1 dL_stands_67 rfl (lv_at hl 3 rfl) ?_
      refine lv_iload S.1 S.2.1 dL_stands_68 (lv_at hl 11 rfl) ?_
      refine lv_iconst (v := 1) S.1 S.2.1 dL_stands_70 (by decide) ?_
      refine x_aftR (st1 := [.int (a_person v (nI j) (1 : Int32)), .int (sSea v j)]) (x_V0 (As := [.int (nI j), .int 1]) (rest := [.int (sSea v j)]) S mi_X11_person qw463 (k_person l D A w α (nI j) (1 : Int32) hB) hK hP hD (hE.kept hS.2.1) (hB.recv hK hP) rfl rfl hl.1 (Nat.le_of_ble_eq_true rfl) rfl rfl ⟨(Nat.le_of_ble_eq_true rfl), (Nat.le_of_ble_eq_true rfl)⟩ ⟨(Nat.le_of_ble_eq_true rfl), (Nat.le_of_ble_eq_true rfl)⟩ dL_stands_71) hS (fun _ h => h) rfl (fun locs hS => ?_)
      refine lv_iadd S.1 S.2.1 dL_stands_74 ?_
      refine lv_istore_n (lv' := [(2, .int ((sSea v j) + (a_person v (nI j) (1 : Int32)))), (11, .int (a_person v (nI j) (0 : Int32))), (10, .int (a_stick v (nI j) (1 : Int32))), (9, .int 2), (0, .ref (α 0)), (1, .int (nI P)), (3, .int (sStr v j)), (4, .int (sTrn v j)), (5, .int (sWrg v j)), (6, .int (sSum v j)), (7, .int 1), (8, .int (nI j))]) S.1 S.2.1 dL_stands_75 rfl hl (by decide) rfl (fun ls hl => ?_)
      refine lv_iload S.1 S.2.1 dL_stands_76 (lv_at hl 9 rfl) ?_
      refine lv_aload_n S.1 S.2.1 dL_stands_78 rfl (lv_at hl 4 rfl) ?_
      refine lv_iload S.1 S.2.1 dL_stands_79 (lv_at hl 11 rfl) ?_
      refine lv_bipush (v := 6) S.1 S.2.1 dL_stands_81 (by decide) ?_
      refine x_aftR (st1 := [.int (a_person v (nI j) (6 : Int32)), .int (sSum v j)]) (x_V0 (As := [.int (nI j), .int 6]) (rest := [.int (sSum v j)]) S mi_X11_person qw463 (k_person l D A w α (nI j) (6 : Int32) hB) hK hP hD (hE.kept hS.2.1) (hB.recv hK hP) rfl rfl hl.1 (Nat.le_of_ble_eq_true rfl) rfl rfl ⟨(Nat.le_of_ble_eq_true rfl), (Nat.le_of_ble_eq_true rfl)⟩ ⟨(Nat.le_of_ble_eq_true rfl), (Nat.le_of_ble_eq_true rfl)⟩ dL_stands_83) hS (fun _ h => h) rfl (fun locs hS => ?_)
      refine lv_iadd S.1 S.2.1 dL_stands_86 ?_
      refine lv_istore (lv' := [(6, .int ((sSum v j) + (a_person v (nI j) (6 : Int32)))), (2, .int ((sSea v j) + (a_person v (nI j) (1 : Int32)))), (11, .int (a_person v (nI j) (0 : Int32))), (10, .int (a_stick v (nI j) (1 : Int32))), (9, .int 2), (0, .ref (α 0)), (1, .int (nI P)), (3, .int (sStr v j)), (4, .int (sTrn v j)), (5, .int (sWrg v j)), (7, .int 1), (8, .int (nI j))]) S.1 S.2.1 dL_stands_87 hl (by decide) rfl (fun ls hl => ?_)
      refine lv_iload_n S.1 S.2.1 dL_stands_89 rfl (lv_at hl 7 rfl) ?_
      refine lv_iload S.1 S.2.1 dL_stands_90 (lv_at hl 4 rfl) ?_
      refine lv_iconst (v := 3) S.1 S.2.1 dL_stands_92 (by decide) ?_
      refine lv_icmp_ne (tgt := 100) S.1 S.2.1 dL_stands_93 (by decide) (fun _ => ?_) (fun z9 => absurd z9 (by decide))
      refine lv_iconst (v := 0) S.1 S.2.1 dL_stands_100 (by decide) ?_
      refine lv_iadd S.1 S.2.1 dL_stands_101 ?_
      refine lv_istore_n (lv' := [(3, .int ((sStr v j) + 0)), (6, .int ((sSum v j) + (a_person v (nI j) (6 : Int32)))), (2, .int ((sSea v j) + (a_person v (nI j) (1 : Int32)))), (11, .int (a_person v (nI j) (0 : Int32))), (10, .int (a_stick v (nI j) (1 : Int32))), (9, .int 2), (0, .ref (α 0)), (1, .int (nI P)), (4, .int (sTrn v j)), (5, .int (sWrg v j)), (7, .int 1), (8, .int (nI j))]) S.1 S.2.1 dL_stands_102 rfl hl (by decide) rfl (fun ls hl => ?_)
      refine lv_iload S.1 S.2.1 dL_stands_103 (lv_at hl 8 rfl) ?_
      refine lv_iload S.1 S.2.1 dL_stands_105 (lv_at hl 5 rfl) ?_
      refine lv_iconst (v := 2) S.1 S.2.1 dL_stands_107 (by decide) ?_
      refine lv_icmp_ne (tgt := 115) S.1 S.2.1 dL_stands_108 (by decide) (fun z9 => absurd (by decide) z9) (fun _ => ?_)
      refine lv_iconst (v := 1) S.1 S.2.1 dL_stands_111 (by decide) ?_
      refine lv_goto (tgt := 116) S.1 S.2.1 dL_stands_112 (by decide) ?_
      refine lv_iadd S.1 S.2.1 dL_stands_116 ?_
      refine lv_istore (lv' := [(4, .int ((sTrn v j) + 1)), (3, .int ((sStr v j) + 0)), (6, .int ((sSum v j) + (a_person v (nI j) (6 : Int32)))), (2, .int ((sSea v j) + (a_person v (nI j) (1 : Int32)))), (11, .int (a_person v (nI j) (0 : Int32))), (10, .int (a_stick v (nI j) (1 : Int32))), (9, .int 2), (0, .ref (α 0)), (1, .int (nI P)), (5, .int (sWrg v j)), (7, .int 1), (8, .int (nI j))]) S.1 S.2.1 dL_stands_117 hl (by decide) rfl (fun ls hl => ?_)
      refine lv_iload S.1 S.2.1 dL_stands_119 (lv_at hl 9 rfl) ?_
      refine lv_iload S.1 S.2.1 dL_stands_121 (lv_at hl 6 rfl) ?_
      refine lv_iconst (v := 2) S.1 S.2.1 dL_stands_123 (by decide) ?_
      refine lv_icmp_ne (tgt := 144) S.1 S.2.1 dL_stands_124 (by decide) (fun z9 => absurd (by decide) z9) (fun _ => ?_)
      refine lv_aload_n S.1 S.2.1 dL_stands_127 rfl (lv_at hl 7 rfl) ?_
      refine lv_iload S.1 S.2.1 dL_stands_128 (lv_at hl 11 rfl) ?_
      refine lv_iconst (v := 5) S.1 S.2.1 dL_stands_130 (by decide) ?_
      refine x_aftR (st1 := [.int (a_stick v (nI j) (5 : Int32)), .int (sWrg v j)]) (x_V0 (As := [.int (nI j), .int 5]) (rest := [.int (sWrg v j)]) S mi_X11_stick qw1209 (k_stick l D A w α (nI j) (5 : Int32) hB) hK hP hD (hE.kept hS.2.1) (hB.recv hK hP) rfl rfl hl.1 (Nat.le_of_ble_eq_true rfl) rfl rfl ⟨(Nat.le_of_ble_eq_true rfl), (Nat.le_of_ble_eq_true rfl)⟩ ⟨(Nat.le_of_ble_eq_true rfl), (Nat.le_of_ble_eq_true rfl)⟩ dL_stands_131) hS (fun _ h => h) rfl (fun locs hS => ?_)
      rw [show (a_stick v (nI j) (5 : Int32)) = 0 from q5]
      refine lv_if_le (tgt := 144) S.1 S.2.1 dL_stands_134 (by decide) (fun _ => ?_) (fun z9 => absurd (by decide) z9)
      refine lv_iconst (v := 0) S.1 S.2.1 dL_stands_144 (by decide) ?_
      refine lv_ior S.1 S.2.1 dL_stands_145 ?_
      refine lv_istore (lv' := [(5, .int ((sWrg v j) ||| 0)), (4, .int ((sTrn v j) + 1)), (3, .int ((sStr v j) + 0)), (6, .int ((sSum v j) + (a_person v (nI j) (6 : Int32)))), (2, .int ((sSea v j) + (a_person v (nI j) (1 : Int32)))), (11, .int (a_person v (nI j) (0 : Int32))), (10, .int (a_stick v (nI j) (1 : Int32))), (9, .int 2), (0, .ref (α 0)), (1, .int (nI P)), (7, .int 1), (8, .int (nI j))]) S.1 S.2.1 dL_stands_146 hl (by decide) rfl (fun ls hl => ?_)
      refine lv_iload S.1 S.2.1 dL_stands_148 (lv_at hl 7 rfl) ?_
      refine lv_if_eq (tgt := 159) S.1 S.2.1 dL_stands_150 (by decide) (fun z9 => absurd z9 (by decide)) (fun _ => ?_)
      refine lv_iload S.1 S.2.1 dL_stands_153 (lv_at hl 7 rfl) ?_
      refine lv_iconst (v := 1) S.1 S.2.1 dL_stands_155 (by decide) ?_
      refine lv_icmp_ne (tgt := 163) S.1 S.2.1 dL_stands_156 (by decide) (fun _ => ?_) (fun z9 => absurd z9 (by decide))
      refine lv_iconst (v := 0) S.1 S.2.1 dL_stands_163 (by decide) ?_
      refine lv_aload_n S.1 S.2.1 dL_stands_164 rfl (lv_at hl 8 rfl) ?_
      refine lv_iload S.1 S.2.1 dL_stands_165 (lv_at hl 11 rfl) ?_
      refine lv_iconst (v := 3) S.1 S.2.1 dL_stands_167 (by decide) ?_
      refine x_aftR (st1 := [.int (a_stick v (nI j) (3 : Int32)), .int 0]) (x_V0 (As := [.int (nI j), .int 3]) (rest := [.int 0]) S mi_X11_stick qw1209 (k_stick l D A w α (nI j) (3 : Int32) hB) hK hP hD (hE.kept hS.2.1) (hB.recv hK hP) rfl rfl hl.1 (Nat.le_of_ble_eq_true rfl) rfl rfl ⟨(Nat.le_of_ble_eq_true rfl), (Nat.le_of_ble_eq_true rfl)⟩ ⟨(Nat.le_of_ble_eq_true rfl), (Nat.le_of_ble_eq_true rfl)⟩ dL_stands_168) hS (fun _ h => h) rfl (fun locs hS => ?_)
      refine lv_bipush (v := (-2)) S.1 S.2.1 dL_stands_171 (by decide) ?_
      refine lv_icmp_ne (tgt := 180) S.1 S.2.1 dL_stands_173 (by decide) (fun _ => ?_) (fun z9 => absurd z9 (q3))
      refine lv_iconst (v := 0) S.1 S.2.1 dL_stands_180 (by decide) ?_
      refine lv_icmp_ne (tgt := 403) S.1 S.2.1 dL_stands_181 (by decide) (fun z9 => absurd (by decide) z9) (fun _ => ?_)
      refine lv_iload S.1 S.2.1 dL_stands_184 (lv_at hl 7 rfl) ?_
      refine lv_if_ne (tgt := 208) S.1 S.2.1 dL_stands_186 (by decide) (fun _ => ?_) (fun z9 => absurd z9 (by decide))
      refine lv_iload S.1 S.2.1 dL_stands_208 (lv_at hl 7 rfl) ?_
      refine lv_iconst (v := 1) S.1 S.2.1 dL_stands_210 (by decide) ?_
      refine lv_icmp_ne (tgt := 234) S.1 S.2.1 dL_stands_211 (by decide) (fun _ => ?_) (fun z9 => absurd z9 (by decide))
      refine lv_iload S.1 S.2.1 dL_stands_234 (lv_at hl 7 rfl) ?_
      refine lv_iconst (v := 2) S.1 S.2.1 dL_stands_236 (by decide) ?_
      refine lv_icmp_lt (tgt := 270) S.1 S.2.1 dL_stands_237 (by decide) (fun z9 => absurd z9 (by decide)) (fun _ => ?_)
      refine lv_aload_n S.1 S.2.1 dL_stands_240 rfl (lv_at hl 8 rfl) ?_
      refine lv_aload_n S.1 S.2.1 dL_stands_241 rfl (lv_at hl 8 rfl) ?_
      refine lv_iload S.1 S.2.1 dL_stands_242 (lv_at hl 11 rfl) ?_
      refine lv_iconst (v := 3) S.1 S.2.1 dL_stands_244 (by decide) ?_
      refine x_aftR (st1 := [.int (a_stick v (nI j) (3 : Int32)), .ref (α 0)]) (x_V0 (As := [.int (nI j), .int 3]) (rest := [.ref (α 0)]) S mi_X11_stick qw1209 (k_stick l D A w α (nI j) (3 : Int32) hB) hK hP hD (hE.kept hS.2.1) (hB.recv hK hP) rfl rfl hl.1 (Nat.le_of_ble_eq_true rfl) rfl rfl ⟨(Nat.le_of_ble_eq_true rfl), (Nat.le_of_ble_eq_true rfl)⟩ ⟨(Nat.le_of_ble_eq_true rfl), (Nat.le_of_ble_eq_true rfl)⟩ dL_stands_245) hS (fun _ h => h) rfl (fun locs hS => ?_)
      refine x_aftR (st1 := [.int (a_owners v (a_stick v (nI j) (3 : Int32)))]) (x_V0 (As := [.int (a_stick v (nI j) (3 : Int32))]) (rest := []) S mi_X11_owners qw1313 (k_owners l D A w α (a_stick v (nI j) (3 : Int32)) hB) hK hP hD (hE.kept hS.2.1) (hB.recv hK hP) rfl rfl hl.1 (Nat.le_of_ble_eq_true rfl) rfl rfl ⟨(Nat.le_of_ble_eq_true rfl), (Nat.le_of_ble_eq_true rfl)⟩ ⟨(Nat.le_of_ble_eq_true rfl), (Nat.le_of_ble_eq_true rfl)⟩ dL_stands_248) hS (fun _ h => h) rfl (fun locs hS => ?_)
      refine lv_iload S.1 S.2.1 dL_stands_251 (lv_at hl 11 rfl) ?_
      refine lv_ishr S.1 S.2.1 dL_stands_253 ?_
      refine lv_iconst (v := 1) S.1 S.2.1 dL_stands_254 (by decide) ?_
      refine lv_iand S.1 S.2.1 dL_stands_255 ?_
      refine lv_iload S.1 S.2.1 dL_stands_256 (lv_at hl 7 rfl) ?_
      refine lv_iconst (v := 2) S.1 S.2.1 dL_stands_258 (by decide) ?_
      refine lv_icmp_ne (tgt := 266) S.1 S.2.1 dL_stands_259 (by decide) (fun z9 => absurd (by decide) z9) (fun _ => ?_)
      refine lv_iconst (v := 1) S.1 S.2.1 dL_stands_262 (by decide) ?_
      refine lv_goto (tgt := 267) S.1 S.2.1 dL_stands_263 (by decide) ?_
      refine lv_icmp_ne (tgt := 403) S.1 S.2.1 dL_stands_267 (by decide) (fun z9 => absurd (q4) z9) (fun _ => ?_)
      refine lv_iload S.1 S.2.1 dL_stands_270 (lv_at hl 6 rfl) ?_
      refine lv_if_ge (tgt := 285) S.1 S.2.1 dL_stands_272 (by decide) (fun _ => ?_) (fun z9 => absurd (Int32.not_lt.mp q1) z9)
      refine lv_iload S.1 S.2.1 dL_stands_285 (lv_at hl 6 rfl) ?_
      refine lv_iload S.1 S.2.1 dL_stands_287 (lv_at hl 11 rfl) ?_
      refine lv_icmp_eq (tgt := 403) S.1 S.2.1 dL_stands_289 (by decide) (fun z9 => absurd z9 (kn)) (fun _ => ?_)
      refine lv_iload S.1 S.2.1 dL_stands_292 (lv_at hl 7 rfl) ?_
      refine lv_iconst (v := 3) S.1 S.2.1 dL_stands_294 (by decide) ?_
      refine lv_icmp_ne (tgt := 308) S.1 S.2.1 dL_stands_295 (by decide) (fun _ => ?_) (fun z9 => absurd z9 (by decide))
      refine lv_aload_n S.1 S.2.1 dL_stands_308 rfl (lv_at hl 8 rfl) ?_
      refine lv_iload S.1 S.2.1 dL_stands_309 (lv_at hl 11 rfl) ?_
      refine x_aftR (st1 := [.int (a_carries v (nI j))]) (x_V0 (As := [.int (nI j)]) (rest := []) S mi_X11_carries qw1309 (k_carries l D A w α (nI j) hB) hK hP hD (hE.kept hS.2.1) (hB.recv hK hP) rfl rfl hl.1 (Nat.le_of_ble_eq_true rfl) rfl rfl ⟨(Nat.le_of_ble_eq_true rfl), (Nat.le_of_ble_eq_true rfl)⟩ ⟨(Nat.le_of_ble_eq_true rfl), (Nat.le_of_ble_eq_true rfl)⟩ dL_stands_311) hS (fun _ h => h) rfl (fun locs hS => ?_)
      refine x_aftR (st1 := [.int (f_J6_bitCount_0f7a4 (a_carries v (nI j)))]) (x_St0 (As := [.int (a_carries v (nI j))]) (rest := []) S ms_J6_bitCount_0f7a4 qw1318 (c_J6_bitCount_0f7a4 l D A w α (a_carries v (nI j))) hK hP hD (hE.kept hS.2.1) rfl rfl hl.1 (Nat.le_of_ble_eq_true rfl) rfl rfl ⟨(Nat.le_of_ble_eq_true rfl), (Nat.le_of_ble_eq_true rfl)⟩ ⟨(Nat.le_of_ble_eq_true rfl), (Nat.le_of_ble_eq_true rfl)⟩ dL_stands_314) hS (fun _ h => h) rfl (fun locs hS => ?_)
      refine lv_aload_n S.1 S.2.1 dL_stands_317 rfl (lv_at hl 8 rfl) ?_
      refine lv_iload S.1 S.2.1 dL_stands_318 (lv_at hl 11 rfl) ?_
      refine lv_iconst (v := 4) S.1 S.2.1 dL_stands_320 (by decide) ?_
      refine x_aftR (st1 := [.int (a_person v (nI j) (4 : Int32)), .int (f_J6_bitCount_0f7a4 (a_carries v (nI j)))]) (x_V0 (As := [.int (nI j), .int 4]) (rest := [.int (f_J6_bitCount_0f7a4 (a_carries v (nI j)))]) S mi_X11_person qw463 (k_person l D A w α (nI j) (4 : Int32) hB) hK hP hD (hE.kept hS.2.1) (hB.recv hK hP) rfl rfl hl.1 (Nat.le_of_ble_eq_true rfl) rfl rfl ⟨(Nat.le_of_ble_eq_true rfl), (Nat.le_of_ble_eq_true rfl)⟩ ⟨(Nat.le_of_ble_eq_true rfl), (Nat.le_of_ble_eq_true rfl)⟩ dL_stands_321) hS (fun _ h => h) rfl (fun locs hS => ?_)
      refine lv_icmp_ne (tgt := 403) S.1 S.2.1 dL_stands_324 (by decide) (fun z9 => absurd (kb) z9) (fun _ => ?_)
      refine st_px S hK hP hD hE hS hr hlk hB hs0 hR hN hpf (fun {w} {H} {locs} {ls} hP hD hS hB hs0 hl => ih (j := j + 1) hP hD hS hB hs0 ?_ (by omega)) (lv_sub hl [8, 9, 4, 2, 1, 0, 3, 10, 11, 5] rfl)
      rw [eSea, eSum, eStr, eTrn, eWrg, if_neg (show ¬ a_stick v (nI j) 0 = 3 by rw [q0]; decide), if_pos q0, if_neg (fun z => z.2 (by rw [q5]; decide))]
      exact hl
    · refine lv_aload_n S.1 S.2.1 dL_stands_39 rfl (lv_at hl 0 rfl) ?_
      refine lv_iload S.1 S.2.1 dL_stands_40 (lv_at hl 8 rfl) ?_
      refine lv_iconst (v := 0) S.1 S.2.1 dL_stands_42 (by decide) ?_
      refine x_aftR (st1 := [.int (a_stick v (nI j) (0 : Int32))]) (x_V0 (As := [.int (nI j), .int 0]) (rest := []) S mi_X11_stick qw1209 (k_stick l D A w α (nI j) (0 : Int32) hB) hK hP hD (hE.kept hS.2.1) (hB.recv hK hP) rfl rfl hl.1 (Nat.le_of_ble_eq_true rfl) rfl rfl ⟨(Nat.le_of_ble_eq_true rfl), (Nat.le_of_ble_eq_true rfl)⟩ ⟨(Nat.le_of_ble_eq_true rfl), (Nat.le_of_ble_eq_true rfl)⟩ dL_stands_43) hS (fun _ h => h) rfl (fun locs hS => ?_)
      rw [show (a_stick v (nI j) (0 : Int32)) = 2 from q0]
      refine lv_istore (lv' := [(9, .int 2), (0, .ref (α 0)), (1, .int (nI P)), (2, .int (sSea v j)), (3, .int (sStr v j)), (4, .int (sTrn v j)), (5, .int (sWrg v j)), (6, .int (sSum v j)), (7, .int 1), (8, .int (nI j))]) S.1 S.2.1 dL_stands_46 hl (by decide) rfl (fun ls hl => ?_)
      refine lv_aload_n S.1 S.2.1 dL_stands_48 rfl (lv_at hl 1 rfl) ?_
      refine lv_iload S.1 S.2.1 dL_stands_49 (lv_at hl 9 rfl) ?_
      refine lv_iconst (v := 1) S.1 S.2.1 dL_stands_51 (by decide) ?_
      refine x_aftR (st1 := [.int (a_stick v (nI j) (1 : Int32))]) (x_V0 (As := [.int (nI j), .int 1]) (rest := []) S mi_X11_stick qw1209 (k_stick l D A w α (nI j) (1 : Int32) hB) hK hP hD (hE.kept hS.2.1) (hB.recv hK hP) rfl rfl hl.1 (Nat.le_of_ble_eq_true rfl) rfl rfl ⟨(Nat.le_of_ble_eq_true rfl), (Nat.le_of_ble_eq_true rfl)⟩ ⟨(Nat.le_of_ble_eq_true rfl), (Nat.le_of_ble_eq_true rfl)⟩ dL_stands_52) hS (fun _ h => h) rfl (fun locs hS => ?_)
      refine lv_istore (lv' := [(10, .int (a_stick v (nI j) (1 : Int32))), (9, .int 2), (0, .ref (α 0)), (1, .int (nI P)), (2, .int (sSea v j)), (3, .int (sStr v j)), (4, .int (sTrn v j)), (5, .int (sWrg v j)), (6, .int (sSum v j)), (7, .int 1), (8, .int (nI j))]) S.1 S.2.1 dL_stands_55 hl (by decide) rfl (fun ls hl => ?_)
      refine lv_aload_n S.1 S.2.1 dL_stands_57 rfl (lv_at hl 2 rfl) ?_
      refine lv_iload S.1 S.2.1 dL_stands_58 (lv_at hl 10 rfl) ?_
      refine lv_iconst (v := 0) S.1 S.2.1 dL_stands_60 (by decide) ?_
      refine x_aftR (st1 := [.int (a_person v (nI j) (0 : Int32))]) (x_V0 (As := [.int (nI j), .int 0]) (rest := []) S mi_X11_person qw463 (k_person l D A w α (nI j) (0 : Int32) hB) hK hP hD (hE.kept hS.2.1) (hB.recv hK hP) rfl rfl hl.1 (Nat.le_of_ble_eq_true rfl) rfl rfl ⟨(Nat.le_of_ble_eq_true rfl), (Nat.le_of_ble_eq_true rfl)⟩ ⟨(Nat.le_of_ble_eq_true rfl), (Nat.le_of_ble_eq_true rfl)⟩ dL_stands_61) hS (fun _ h => h) rfl (fun locs hS => ?_)
      refine lv_istore (lv' := [(11, .int (a_person v (nI j) (0 : Int32))), (10, .int (a_stick v (nI j) (1 : Int32))), (9, .int 2), (0, .ref (α 0)), (1, .int (nI P)), (2, .int (sSea v j)), (3, .int (sStr v j)), (4, .int (sTrn v j)), (5, .int (sWrg v j)), (6, .int (sSum v j)), (7, .int 1), (8, .int (nI j))]) S.1 S.2.1 dL_stands_64 hl (by decide) rfl (fun ls hl => ?_)
      refine lv_iload_n S.1 S.2.1 dL_stands_66 rfl (lv_at hl 5 rfl) ?_
      refine lv_aload_n S.1 S.2.1 dL_stands_67 rfl (lv_at hl 3 rfl) ?_
      refine lv_iload S.1 S.2.1 dL_stands_68 (lv_at hl 11 rfl) ?_
      refine lv_iconst (v := 1) S.1 S.2.1 dL_stands_70 (by decide) ?_
      refine x_aftR (st1 := [.int (a_person v (nI j) (1 : Int32)), .int (sSea v j)]) (x_V0 (As := [.int (nI j), .int 1]) (rest := [.int (sSea v j)]) S mi_X11_person qw463 (k_person l D A w α (nI j) (1 : Int32) hB) hK hP hD (hE.kept hS.2.1) (hB.recv hK hP) rfl rfl hl.1 (Nat.le_of_ble_eq_true rfl) rfl rfl ⟨(Nat.le_of_ble_eq_true rfl), (Nat.le_of_ble_eq_true rfl)⟩ ⟨(Nat.le_of_ble_eq_true rfl), (Nat.le_of_ble_eq_true rfl)⟩ dL_stands_71) hS (fun _ h => h) rfl (fun locs hS => ?_)
      refine lv_iadd S.1 S.2.1 dL_stands_74 ?_
      refine lv_istore_n (lv' := [(2, .int ((sSea v j) + (a_person v (nI j) (1 : Int32)))), (11, .int (a_person v (nI j) (0 : Int32))), (10, .int (a_stick v (nI j) (1 : Int32))), (9, .int 2), (0, .ref (α 0)), (1, .int (nI P)), (3, .int (sStr v j)), (4, .int (sTrn v j)), (5, .int (sWrg v j)), (6, .int (sSum v j)), (7, .int 1), (8, .int (nI j))]) S.1 S.2.1 dL_stands_75 rfl hl (by decide) rfl (fun ls hl => ?_)
      refine lv_iload S.1 S.2.1 dL_stands_76 (lv_at hl 9 rfl) ?_
      refine lv_aload_n S.1 S.2.1 dL_stands_78 rfl (lv_at hl 4 rfl) ?_
      refine lv_iload S.1 S.2.1 dL_stands_79 (lv_at hl 11 rfl) ?_
      refine lv_bipush (v := 6) S.1 S.2.1 dL_stands_81 (by decide) ?_
      refine x_aftR (st1 := [.int (a_person v (nI j) (6 : Int32)), .int (sSum v j)]) (x_V0 (As := [.int (nI j), .int 6]) (rest := [.int (sSum v j)]) S mi_X11_person qw463 (k_person l D A w α (nI j) (6 : Int32) hB) hK hP hD (hE.kept hS.2.1) (hB.recv hK hP) rfl rfl hl.1 (Nat.le_of_ble_eq_true rfl) rfl rfl ⟨(Nat.le_of_ble_eq_true rfl), (Nat.le_of_ble_eq_true rfl)⟩ ⟨(Nat.le_of_ble_eq_true rfl), (Nat.le_of_ble_eq_true rfl)⟩ dL_stands_83) hS (fun _ h => h) rfl (fun locs hS => ?_)
      refine lv_iadd S.1 S.2.1 dL_stands_86 ?_
      refine lv_istore (lv' := [(6, .int ((sSum v j) + (a_person v (nI j) (6 : Int32)))), (2, .int ((sSea v j) + (a_person v (nI j) (1 : Int32)))), (11, .int (a_person v (nI j) (0 : Int32))), (10, .int (a_stick v (nI j) (1 : Int32))), (9, .int 2), (0, .ref (α 0)), (1, .int (nI P)), (3, .int (sStr v j)), (4, .int (sTrn v j)), (5, .int (sWrg v j)), (7, .int 1), (8, .int (nI j))]) S.1 S.2.1 dL_stands_87 hl (by decide) rfl (fun ls hl => ?_)
      refine lv_iload_n S.1 S.2.1 dL_stands_89 rfl (lv_at hl 7 rfl) ?_
      refine lv_iload S.1 S.2.1 dL_stands_90 (lv_at hl 4 rfl) ?_
      refine lv_iconst (v := 3) S.1 S.2.1 dL_stands_92 (by decide) ?_
      refine lv_icmp_ne (tgt := 100) S.1 S.2.1 dL_stands_93 (by decide) (fun _ => ?_) (fun z9 => absurd z9 (by decide))
      refine lv_iconst (v := 0) S.1 S.2.1 dL_stands_100 (by decide) ?_
      refine lv_iadd S.1 S.2.1 dL_stands_101 ?_
      refine lv_istore_n (lv' := [(3, .int ((sStr v j) + 0)), (6, .int ((sSum v j) + (a_person v (nI j) (6 : Int32)))), (2, .int ((sSea v j) + (a_person v (nI j) (1 : Int32)))), (11, .int (a_person v (nI j) (0 : Int32))), (10, .int (a_stick v (nI j) (1 : Int32))), (9, .int 2), (0, .ref (α 0)), (1, .int (nI P)), (4, .int (sTrn v j)), (5, .int (sWrg v j)), (7, .int 1), (8, .int (nI j))]) S.1 S.2.1 dL_stands_102 rfl hl (by decide) rfl (fun ls hl => ?_)
      refine lv_iload S.1 S.2.1 dL_stands_103 (lv_at hl 8 rfl) ?_
      refine lv_iload S.1 S.2.1 dL_stands_105 (lv_at hl 5 rfl) ?_
      refine lv_iconst (v := 2) S.1 S.2.1 dL_stands_107 (by decide) ?_
      refine lv_icmp_ne (tgt := 115) S.1 S.2.1 dL_stands_108 (by decide) (fun z9 => absurd (by decide) z9) (fun _ => ?_)
      refine lv_iconst (v := 1) S.1 S.2.1 dL_stands_111 (by decide) ?_
      refine lv_goto (tgt := 116) S.1 S.2.1 dL_stands_112 (by decide) ?_
      refine lv_iadd S.1 S.2.1 dL_stands_116 ?_
      refine lv_istore (lv' := [(4, .int ((sTrn v j) + 1)), (3, .int ((sStr v j) + 0)), (6, .int ((sSum v j) + (a_person v (nI j) (6 : Int32)))), (2, .int ((sSea v j) + (a_person v (nI j) (1 : Int32)))), (11, .int (a_person v (nI j) (0 : Int32))), (10, .int (a_stick v (nI j) (1 : Int32))), (9, .int 2), (0, .ref (α 0)), (1, .int (nI P)), (5, .int (sWrg v j)), (7, .int 1), (8, .int (nI j))]) S.1 S.2.1 dL_stands_117 hl (by decide) rfl (fun ls hl => ?_)
      refine lv_iload S.1 S.2.1 dL_stands_119 (lv_at hl 9 rfl) ?_
      refine lv_iload S.1 S.2.1 dL_stands_121 (lv_at hl 6 rfl) ?_
      refine lv_iconst (v := 2) S.1 S.2.1 dL_stands_123 (by decide) ?_
      refine lv_icmp_ne (tgt := 144) S.1 S.2.1 dL_stands_124 (by decide) (fun z9 => absurd (by decide) z9) (fun _ => ?_)
      refine lv_aload_n S.1 S.2.1 dL_stands_127 rfl (lv_at hl 7 rfl) ?_
      refine lv_iload S.1 S.2.1 dL_stands_128 (lv_at hl 11 rfl) ?_
      refine lv_iconst (v := 5) S.1 S.2.1 dL_stands_130 (by decide) ?_
      refine x_aftR (st1 := [.int (a_stick v (nI j) (5 : Int32)), .int (sWrg v j)]) (x_V0 (As := [.int (nI j), .int 5]) (rest := [.int (sWrg v j)]) S mi_X11_stick qw1209 (k_stick l D A w α (nI j) (5 : Int32) hB) hK hP hD (hE.kept hS.2.1) (hB.recv hK hP) rfl rfl hl.1 (Nat.le_of_ble_eq_true rfl) rfl rfl ⟨(Nat.le_of_ble_eq_true rfl), (Nat.le_of_ble_eq_true rfl)⟩ ⟨(Nat.le_of_ble_eq_true rfl), (Nat.le_of_ble_eq_true rfl)⟩ dL_stands_131) hS (fun _ h => h) rfl (fun locs hS => ?_)
      refine lv_if_le (tgt := 144) S.1 S.2.1 dL_stands_134 (by decide) (fun z9 => absurd z9 (q5)) (fun _ => ?_)
      refine lv_iconst (v := 1) S.1 S.2.1 dL_stands_137 (by decide) ?_
      refine lv_iload S.1 S.2.1 dL_stands_138 (lv_at hl 11 rfl) ?_
      refine lv_ishl S.1 S.2.1 dL_stands_140 ?_
      refine lv_goto (tgt := 145) S.1 S.2.1 dL_stands_141 (by decide) ?_
      refine lv_ior S.1 S.2.1 dL_stands_145 ?_
      refine lv_istore (lv' := [(5, .int ((sWrg v j) ||| ((1 : Int32) <<< ((nI j) &&& 31)))), (4, .int ((sTrn v j) + 1)), (3, .int ((sStr v j) + 0)), (6, .int ((sSum v j) + (a_person v (nI j) (6 : Int32)))), (2, .int ((sSea v j) + (a_person v (nI j) (1 : Int32)))), (11, .int (a_person v (nI j) (0 : Int32))), (10, .int (a_stick v (nI j) (1 : Int32))), (9, .int 2), (0, .ref (α 0)), (1, .int (nI P)), (7, .int 1), (8, .int (nI j))]) S.1 S.2.1 dL_stands_146 hl (by decide) rfl (fun ls hl => ?_)
      refine lv_iload S.1 S.2.1 dL_stands_148 (lv_at hl 7 rfl) ?_
      refine lv_if_eq (tgt := 159) S.1 S.2.1 dL_stands_150 (by decide) (fun z9 => absurd z9 (by decide)) (fun _ => ?_)
      refine lv_iload S.1 S.2.1 dL_stands_153 (lv_at hl 7 rfl) ?_
      refine lv_iconst (v := 1) S.1 S.2.1 dL_stands_155 (by decide) ?_
      refine lv_icmp_ne (tgt := 163) S.1 S.2.1 dL_stands_156 (by decide) (fun _ => ?_) (fun z9 => absurd z9 (by decide))
      refine lv_iconst (v := 0) S.1 S.2.1 dL_stands_163 (by decide) ?_
      refine lv_aload_n S.1 S.2.1 dL_stands_164 rfl (lv_at hl 8 rfl) ?_
      refine lv_iload S.1 S.2.1 dL_stands_165 (lv_at hl 11 rfl) ?_
      refine lv_iconst (v := 3) S.1 S.2.1 dL_stands_167 (by decide) ?_
      refine x_aftR (st1 := [.int (a_stick v (nI j) (3 : Int32)), .int 0]) (x_V0 (As := [.int (nI j), .int 3]) (rest := [.int 0]) S mi_X11_stick qw1209 (k_stick l D A w α (nI j) (3 : Int32) hB) hK hP hD (hE.kept hS.2.1) (hB.recv hK hP) rfl rfl hl.1 (Nat.le_of_ble_eq_true rfl) rfl rfl ⟨(Nat.le_of_ble_eq_true rfl), (Nat.le_of_ble_eq_true rfl)⟩ ⟨(Nat.le_of_ble_eq_true rfl), (Nat.le_of_ble_eq_true rfl)⟩ dL_stands_168) hS (fun _ h => h) rfl (fun locs hS => ?_)
      refine lv_bipush (v := (-2)) S.1 S.2.1 dL_stands_171 (by decide) ?_
      refine lv_icmp_ne (tgt := 180) S.1 S.2.1 dL_stands_173 (by decide) (fun _ => ?_) (fun z9 => absurd z9 (q3))
      refine lv_iconst (v := 0) S.1 S.2.1 dL_stands_180 (by decide) ?_
      refine lv_icmp_ne (tgt := 403) S.1 S.2.1 dL_stands_181 (by decide) (fun z9 => absurd (by decide) z9) (fun _ => ?_)
      refine lv_iload S.1 S.2.1 dL_stands_184 (lv_at hl 7 rfl) ?_
      refine lv_if_ne (tgt := 208) S.1 S.2.1 dL_stands_186 (by decide) (fun _ => ?_) (fun z9 => absurd z9 (by decide))
      refine lv_iload S.1 S.2.1 dL_stands_208 (lv_at hl 7 rfl) ?_
      refine lv_iconst (v := 1) S.1 S.2.1 dL_stands_210 (by decide) ?_
      refine lv_icmp_ne (tgt := 234) S.1 S.2.1 dL_stands_211 (by decide) (fun _ => ?_) (fun z9 => absurd z9 (by decide))
      refine lv_iload S.1 S.2.1 dL_stands_234 (lv_at hl 7 rfl) ?_
      refine lv_iconst (v := 2) S.1 S.2.1 dL_stands_236 (by decide) ?_
      refine lv_icmp_lt (tgt := 270) S.1 S.2.1 dL_stands_237 (by decide) (fun z9 => absurd z9 (by decide)) (fun _ => ?_)
      refine lv_aload_n S.1 S.2.1 dL_stands_240 rfl (lv_at hl 8 rfl) ?_
      refine lv_aload_n S.1 S.2.1 dL_stands_241 rfl (lv_at hl 8 rfl) ?_
      refine lv_iload S.1 S.2.1 dL_stands_242 (lv_at hl 11 rfl) ?_
      refine lv_iconst (v := 3) S.1 S.2.1 dL_stands_244 (by decide) ?_
      refine x_aftR (st1 := [.int (a_stick v (nI j) (3 : Int32)), .ref (α 0)]) (x_V0 (As := [.int (nI j), .int 3]) (rest := [.ref (α 0)]) S mi_X11_stick qw1209 (k_stick l D A w α (nI j) (3 : Int32) hB) hK hP hD (hE.kept hS.2.1) (hB.recv hK hP) rfl rfl hl.1 (Nat.le_of_ble_eq_true rfl) rfl rfl ⟨(Nat.le_of_ble_eq_true rfl), (Nat.le_of_ble_eq_true rfl)⟩ ⟨(Nat.le_of_ble_eq_true rfl), (Nat.le_of_ble_eq_true rfl)⟩ dL_stands_245) hS (fun _ h => h) rfl (fun locs hS => ?_)
      refine x_aftR (st1 := [.int (a_owners v (a_stick v (nI j) (3 : Int32)))]) (x_V0 (As := [.int (a_stick v (nI j) (3 : Int32))]) (rest := []) S mi_X11_owners qw1313 (k_owners l D A w α (a_stick v (nI j) (3 : Int32)) hB) hK hP hD (hE.kept hS.2.1) (hB.recv hK hP) rfl rfl hl.1 (Nat.le_of_ble_eq_true rfl) rfl rfl ⟨(Nat.le_of_ble_eq_true rfl), (Nat.le_of_ble_eq_true rfl)⟩ ⟨(Nat.le_of_ble_eq_true rfl), (Nat.le_of_ble_eq_true rfl)⟩ dL_stands_248) hS (fun _ h => h) rfl (fun locs hS => ?_)
      refine lv_iload S.1 S.2.1 dL_stands_251 (lv_at hl 11 rfl) ?_
      refine lv_ishr S.1 S.2.1 dL_stands_253 ?_
      refine lv_iconst (v := 1) S.1 S.2.1 dL_stands_254 (by decide) ?_
      refine lv_iand S.1 S.2.1 dL_stands_255 ?_
      refine lv_iload S.1 S.2.1 dL_stands_256 (lv_at hl 7 rfl) ?_
      refine lv_iconst (v := 2) S.1 S.2.1 dL_stands_258 (by decide) ?_
      refine lv_icmp_ne (tgt := 266) S.1 S.2.1 dL_stands_259 (by decide) (fun z9 => absurd (by decide) z9) (fun _ => ?_)
      refine lv_iconst (v := 1) S.1 S.2.1 dL_stands_262 (by decide) ?_
      refine lv_goto (tgt := 267) S.1 S.2.1 dL_stands_263 (by decide) ?_
      refine lv_icmp_ne (tgt := 403) S.1 S.2.1 dL_stands_267 (by decide) (fun z9 => absurd (q4) z9) (fun _ => ?_)
      refine lv_iload S.1 S.2.1 dL_stands_270 (lv_at hl 6 rfl) ?_
      refine lv_if_ge (tgt := 285) S.1 S.2.1 dL_stands_272 (by decide) (fun _ => ?_) (fun z9 => absurd (Int32.not_lt.mp q1) z9)
      refine lv_iload S.1 S.2.1 dL_stands_285 (lv_at hl 6 rfl) ?_
      refine lv_iload S.1 S.2.1 dL_stands_287 (lv_at hl 11 rfl) ?_
      refine lv_icmp_eq (tgt := 403) S.1 S.2.1 dL_stands_289 (by decide) (fun z9 => absurd z9 (kn)) (fun _ => ?_)
      refine lv_iload S.1 S.2.1 dL_stands_292 (lv_at hl 7 rfl) ?_
      refine lv_iconst (v := 3) S.1 S.2.1 dL_stands_294 (by decide) ?_
      refine lv_icmp_ne (tgt := 308) S.1 S.2.1 dL_stands_295 (by decide) (fun _ => ?_) (fun z9 => absurd z9 (by decide))
      refine lv_aload_n S.1 S.2.1 dL_stands_308 rfl (lv_at hl 8 rfl) ?_
      refine lv_iload S.1 S.2.1 dL_stands_309 (lv_at hl 11 rfl) ?_
      refine x_aftR (st1 := [.int (a_carries v (nI j))]) (x_V0 (As := [.int (nI j)]) (rest := []) S mi_X11_carries qw1309 (k_carries l D A w α (nI j) hB) hK hP hD (hE.kept hS.2.1) (hB.recv hK hP) rfl rfl hl.1 (Nat.le_of_ble_eq_true rfl) rfl rfl ⟨(Nat.le_of_ble_eq_true rfl), (Nat.le_of_ble_eq_true rfl)⟩ ⟨(Nat.le_of_ble_eq_true rfl), (Nat.le_of_ble_eq_true rfl)⟩ dL_stands_311) hS (fun _ h => h) rfl (fun locs hS => ?_)
      refine x_aftR (st1 := [.int (f_J6_bitCount_0f7a4 (a_carries v (nI j)))]) (x_St0 (As := [.int (a_carries v (nI j))]) (rest := []) S ms_J6_bitCount_0f7a4 qw1318 (c_J6_bitCount_0f7a4 l D A w α (a_carries v (nI j))) hK hP hD (hE.kept hS.2.1) rfl rfl hl.1 (Nat.le_of_ble_eq_true rfl) rfl rfl ⟨(Nat.le_of_ble_eq_true rfl), (Nat.le_of_ble_eq_true rfl)⟩ ⟨(Nat.le_of_ble_eq_true rfl), (Nat.le_of_ble_eq_true rfl)⟩ dL_stands_314) hS (fun _ h => h) rfl (fun locs hS => ?_)
      refine lv_aload_n S.1 S.2.1 dL_stands_317 rfl (lv_at hl 8 rfl) ?_
      refine lv_iload S.1 S.2.1 dL_stands_318 (lv_at hl 11 rfl) ?_
      refine lv_iconst (v := 4) S.1 S.2.1 dL_stands_320 (by decide) ?_
      refine x_aftR (st1 := [.int (a_person v (nI j) (4 : Int32)), .int (f_J6_bitCount_0f7a4 (a_carries v (nI j)))]) (x_V0 (As := [.int (nI j), .int 4]) (rest := [.int (f_J6_bitCount_0f7a4 (a_carries v (nI j)))]) S mi_X11_person qw463 (k_person l D A w α (nI j) (4 : Int32) hB) hK hP hD (hE.kept hS.2.1) (hB.recv hK hP) rfl rfl hl.1 (Nat.le_of_ble_eq_true rfl) rfl rfl ⟨(Nat.le_of_ble_eq_true rfl), (Nat.le_of_ble_eq_true rfl)⟩ ⟨(Nat.le_of_ble_eq_true rfl), (Nat.le_of_ble_eq_true rfl)⟩ dL_stands_321) hS (fun _ h => h) rfl (fun locs hS => ?_)
      refine lv_icmp_ne (tgt := 403) S.1 S.2.1 dL_stands_324 (by decide) (fun z9 => absurd (kb) z9) (fun _ => ?_)
      refine st_px S hK hP hD hE hS hr hlk hB hs0 hR hN hpf (fun {w} {H} {locs} {ls} hP hD hS hB hs0 hl => ih (j := j + 1) hP hD hS hB hs0 ?_ (by omega)) (lv_sub hl [8, 9, 4, 2, 1, 0, 3, 10, 11, 5] rfl)
      rw [eSea, eSum, eStr, eTrn, eWrg, if_neg (show ¬ a_stick v (nI j) 0 = 3 by rw [q0]; decide), if_pos q0, if_pos ⟨q0, q5⟩]
      exact hl
    · refine lv_aload_n S.1 S.2.1 dL_stands_39 rfl (lv_at hl 0 rfl) ?_
      refine lv_iload S.1 S.2.1 dL_stands_40 (lv_at hl 8 rfl) ?_
      refine lv_iconst (v := 0) S.1 S.2.1 dL_stands_42 (by decide) ?_
      refine x_aftR (st1 := [.int (a_stick v (nI j) (0 : Int32))]) (x_V0 (As := [.int (nI j), .int 0]) (rest := []) S mi_X11_stick qw1209 (k_stick l D A w α (nI j) (0 : Int32) hB) hK hP hD (hE.kept hS.2.1) (hB.recv hK hP) rfl rfl hl.1 (Nat.le_of_ble_eq_true rfl) rfl rfl ⟨(Nat.le_of_ble_eq_true rfl), (Nat.le_of_ble_eq_true rfl)⟩ ⟨(Nat.le_of_ble_eq_true rfl), (Nat.le_of_ble_eq_true rfl)⟩ dL_stands_43) hS (fun _ h => h) rfl (fun locs hS => ?_)
      rw [show (a_stick v (nI j) (0 : Int32)) = 3 from q0]
      refine lv_istore (lv' := [(9, .int 3), (0, .ref (α 0)), (1, .int (nI P)), (2, .int (sSea v j)), (3, .int (sStr v j)), (4, .int (sTrn v j)), (5, .int (sWrg v j)), (6, .int (sSum v j)), (7, .int 1), (8, .int (nI j))]) S.1 S.2.1 dL_stands_46 hl (by decide) rfl (fun ls hl => ?_)
      refine lv_aload_n S.1 S.2.1 dL_stands_48 rfl (lv_at hl 1 rfl) ?_
      refine lv_iload S.1 S.2.1 dL_stands_49 (lv_at hl 9 rfl) ?_
      refine lv_iconst (v := 1) S.1 S.2.1 dL_stands_51 (by decide) ?_
      refine x_aftR (st1 := [.int (a_stick v (nI j) (1 : Int32))]) (x_V0 (As := [.int (nI j), .int 1]) (rest := []) S mi_X11_stick qw1209 (k_stick l D A w α (nI j) (1 : Int32) hB) hK hP hD (hE.kept hS.2.1) (hB.recv hK hP) rfl rfl hl.1 (Nat.le_of_ble_eq_true rfl) rfl rfl ⟨(Nat.le_of_ble_eq_true rfl), (Nat.le_of_ble_eq_true rfl)⟩ ⟨(Nat.le_of_ble_eq_true rfl), (Nat.le_of_ble_eq_true rfl)⟩ dL_stands_52) hS (fun _ h => h) rfl (fun locs hS => ?_)
      refine lv_istore (lv' := [(10, .int (a_stick v (nI j) (1 : Int32))), (9, .int 3), (0, .ref (α 0)), (1, .int (nI P)), (2, .int (sSea v j)), (3, .int (sStr v j)), (4, .int (sTrn v j)), (5, .int (sWrg v j)), (6, .int (sSum v j)), (7, .int 1), (8, .int (nI j))]) S.1 S.2.1 dL_stands_55 hl (by decide) rfl (fun ls hl => ?_)
      refine lv_aload_n S.1 S.2.1 dL_stands_57 rfl (lv_at hl 2 rfl) ?_
      refine lv_iload S.1 S.2.1 dL_stands_58 (lv_at hl 10 rfl) ?_
      refine lv_iconst (v := 0) S.1 S.2.1 dL_stands_60 (by decide) ?_
      refine x_aftR (st1 := [.int (a_person v (nI j) (0 : Int32))]) (x_V0 (As := [.int (nI j), .int 0]) (rest := []) S mi_X11_person qw463 (k_person l D A w α (nI j) (0 : Int32) hB) hK hP hD (hE.kept hS.2.1) (hB.recv hK hP) rfl rfl hl.1 (Nat.le_of_ble_eq_true rfl) rfl rfl ⟨(Nat.le_of_ble_eq_true rfl), (Nat.le_of_ble_eq_true rfl)⟩ ⟨(Nat.le_of_ble_eq_true rfl), (Nat.le_of_ble_eq_true rfl)⟩ dL_stands_61) hS (fun _ h => h) rfl (fun locs hS => ?_)
      refine lv_istore (lv' := [(11, .int (a_person v (nI j) (0 : Int32))), (10, .int (a_stick v (nI j) (1 : Int32))), (9, .int 3), (0, .ref (α 0)), (1, .int (nI P)), (2, .int (sSea v j)), (3, .int (sStr v j)), (4, .int (sTrn v j)), (5, .int (sWrg v j)), (6, .int (sSum v j)), (7, .int 1), (8, .int (nI j))]) S.1 S.2.1 dL_stands_64 hl (by decide) rfl (fun ls hl => ?_)
      refine lv_iload_n S.1 S.2.1 dL_stands_66 rfl (lv_at hl 5 rfl) ?_
      refine lv_aload_n S.1 S.2.1 dL_stands_67 rfl (lv_at hl 3 rfl) ?_
      refine lv_iload S.1 S.2.1 dL_stands_68 (lv_at hl 11 rfl) ?_
      refine lv_iconst (v := 1) S.1 S.2.1 dL_stands_70 (by decide) ?_
      refine x_aftR (st1 := [.int (a_person v (nI j) (1 : Int32)), .int (sSea v j)]) (x_V0 (As := [.int (nI j), .int 1]) (rest := [.int (sSea v j)]) S mi_X11_person qw463 (k_person l D A w α (nI j) (1 : Int32) hB) hK hP hD (hE.kept hS.2.1) (hB.recv hK hP) rfl rfl hl.1 (Nat.le_of_ble_eq_true rfl) rfl rfl ⟨(Nat.le_of_ble_eq_true rfl), (Nat.le_of_ble_eq_true rfl)⟩ ⟨(Nat.le_of_ble_eq_true rfl), (Nat.le_of_ble_eq_true rfl)⟩ dL_stands_71) hS (fun _ h => h) rfl (fun locs hS => ?_)
      refine lv_iadd S.1 S.2.1 dL_stands_74 ?_
      refine lv_istore_n (lv' := [(2, .int ((sSea v j) + (a_person v (nI j) (1 : Int32)))), (11, .int (a_person v (nI j) (0 : Int32))), (10, .int (a_stick v (nI j) (1 : Int32))), (9, .int 3), (0, .ref (α 0)), (1, .int (nI P)), (3, .int (sStr v j)), (4, .int (sTrn v j)), (5, .int (sWrg v j)), (6, .int (sSum v j)), (7, .int 1), (8, .int (nI j))]) S.1 S.2.1 dL_stands_75 rfl hl (by decide) rfl (fun ls hl => ?_)
      refine lv_iload S.1 S.2.1 dL_stands_76 (lv_at hl 9 rfl) ?_
      refine lv_aload_n S.1 S.2.1 dL_stands_78 rfl (lv_at hl 4 rfl) ?_
      refine lv_iload S.1 S.2.1 dL_stands_79 (lv_at hl 11 rfl) ?_
      refine lv_bipush (v := 6) S.1 S.2.1 dL_stands_81 (by decide) ?_
      refine x_aftR (st1 := [.int (a_person v (nI j) (6 : Int32)), .int (sSum v j)]) (x_V0 (As := [.int (nI j), .int 6]) (rest := [.int (sSum v j)]) S mi_X11_person qw463 (k_person l D A w α (nI j) (6 : Int32) hB) hK hP hD (hE.kept hS.2.1) (hB.recv hK hP) rfl rfl hl.1 (Nat.le_of_ble_eq_true rfl) rfl rfl ⟨(Nat.le_of_ble_eq_true rfl), (Nat.le_of_ble_eq_true rfl)⟩ ⟨(Nat.le_of_ble_eq_true rfl), (Nat.le_of_ble_eq_true rfl)⟩ dL_stands_83) hS (fun _ h => h) rfl (fun locs hS => ?_)
      refine lv_iadd S.1 S.2.1 dL_stands_86 ?_
      refine lv_istore (lv' := [(6, .int ((sSum v j) + (a_person v (nI j) (6 : Int32)))), (2, .int ((sSea v j) + (a_person v (nI j) (1 : Int32)))), (11, .int (a_person v (nI j) (0 : Int32))), (10, .int (a_stick v (nI j) (1 : Int32))), (9, .int 3), (0, .ref (α 0)), (1, .int (nI P)), (3, .int (sStr v j)), (4, .int (sTrn v j)), (5, .int (sWrg v j)), (7, .int 1), (8, .int (nI j))]) S.1 S.2.1 dL_stands_87 hl (by decide) rfl (fun ls hl => ?_)
      refine lv_iload_n S.1 S.2.1 dL_stands_89 rfl (lv_at hl 7 rfl) ?_
      refine lv_iload S.1 S.2.1 dL_stands_90 (lv_at hl 4 rfl) ?_
      refine lv_iconst (v := 3) S.1 S.2.1 dL_stands_92 (by decide) ?_
      refine lv_icmp_ne (tgt := 100) S.1 S.2.1 dL_stands_93 (by decide) (fun z9 => absurd (by decide) z9) (fun _ => ?_)
      refine lv_iconst (v := 1) S.1 S.2.1 dL_stands_96 (by decide) ?_
      refine lv_goto (tgt := 101) S.1 S.2.1 dL_stands_97 (by decide) ?_
      refine lv_iadd S.1 S.2.1 dL_stands_101 ?_
      refine lv_istore_n (lv' := [(3, .int ((sStr v j) + 1)), (6, .int ((sSum v j) + (a_person v (nI j) (6 : Int32)))), (2, .int ((sSea v j) + (a_person v (nI j) (1 : Int32)))), (11, .int (a_person v (nI j) (0 : Int32))), (10, .int (a_stick v (nI j) (1 : Int32))), (9, .int 3), (0, .ref (α 0)), (1, .int (nI P)), (4, .int (sTrn v j)), (5, .int (sWrg v j)), (7, .int 1), (8, .int (nI j))]) S.1 S.2.1 dL_stands_102 rfl hl (by decide) rfl (fun ls hl => ?_)
      refine lv_iload S.1 S.2.1 dL_stands_103 (lv_at hl 8 rfl) ?_
      refine lv_iload S.1 S.2.1 dL_stands_105 (lv_at hl 5 rfl) ?_
      refine lv_iconst (v := 2) S.1 S.2.1 dL_stands_107 (by decide) ?_
      refine lv_icmp_ne (tgt := 115) S.1 S.2.1 dL_stands_108 (by decide) (fun _ => ?_) (fun z9 => absurd z9 (by decide))
      refine lv_iconst (v := 0) S.1 S.2.1 dL_stands_115 (by decide) ?_
      refine lv_iadd S.1 S.2.1 dL_stands_116 ?_
      refine lv_istore (lv' := [(4, .int ((sTrn v j) + 0)), (3, .int ((sStr v j) + 1)), (6, .int ((sSum v j) + (a_person v (nI j) (6 : Int32)))), (2, .int ((sSea v j) + (a_person v (nI j) (1 : Int32)))), (11, .int (a_person v (nI j) (0 : Int32))), (10, .int (a_stick v (nI j) (1 : Int32))), (9, .int 3), (0, .ref (α 0)), (1, .int (nI P)), (5, .int (sWrg v j)), (7, .int 1), (8, .int (nI j))]) S.1 S.2.1 dL_stands_117 hl (by decide) rfl (fun ls hl => ?_)
      refine lv_iload S.1 S.2.1 dL_stands_119 (lv_at hl 9 rfl) ?_
      refine lv_iload S.1 S.2.1 dL_stands_121 (lv_at hl 6 rfl) ?_
      refine lv_iconst (v := 2) S.1 S.2.1 dL_stands_123 (by decide) ?_
      refine lv_icmp_ne (tgt := 144) S.1 S.2.1 dL_stands_124 (by decide) (fun _ => ?_) (fun z9 => absurd z9 (by decide))
      refine lv_iconst (v := 0) S.1 S.2.1 dL_stands_144 (by decide) ?_
      refine lv_ior S.1 S.2.1 dL_stands_145 ?_
      refine lv_istore (lv' := [(5, .int ((sWrg v j) ||| 0)), (4, .int ((sTrn v j) + 0)), (3, .int ((sStr v j) + 1)), (6, .int ((sSum v j) + (a_person v (nI j) (6 : Int32)))), (2, .int ((sSea v j) + (a_person v (nI j) (1 : Int32)))), (11, .int (a_person v (nI j) (0 : Int32))), (10, .int (a_stick v (nI j) (1 : Int32))), (9, .int 3), (0, .ref (α 0)), (1, .int (nI P)), (7, .int 1), (8, .int (nI j))]) S.1 S.2.1 dL_stands_146 hl (by decide) rfl (fun ls hl => ?_)
      refine lv_iload S.1 S.2.1 dL_stands_148 (lv_at hl 7 rfl) ?_
      refine lv_if_eq (tgt := 159) S.1 S.2.1 dL_stands_150 (by decide) (fun z9 => absurd z9 (by decide)) (fun _ => ?_)
      refine lv_iload S.1 S.2.1 dL_stands_153 (lv_at hl 7 rfl) ?_
      refine lv_iconst (v := 1) S.1 S.2.1 dL_stands_155 (by decide) ?_
      refine lv_icmp_ne (tgt := 163) S.1 S.2.1 dL_stands_156 (by decide) (fun _ => ?_) (fun z9 => absurd z9 (by decide))
      refine lv_iconst (v := 0) S.1 S.2.1 dL_stands_163 (by decide) ?_
      refine lv_aload_n S.1 S.2.1 dL_stands_164 rfl (lv_at hl 8 rfl) ?_
      refine lv_iload S.1 S.2.1 dL_stands_165 (lv_at hl 11 rfl) ?_
      refine lv_iconst (v := 3) S.1 S.2.1 dL_stands_167 (by decide) ?_
      refine x_aftR (st1 := [.int (a_stick v (nI j) (3 : Int32)), .int 0]) (x_V0 (As := [.int (nI j), .int 3]) (rest := [.int 0]) S mi_X11_stick qw1209 (k_stick l D A w α (nI j) (3 : Int32) hB) hK hP hD (hE.kept hS.2.1) (hB.recv hK hP) rfl rfl hl.1 (Nat.le_of_ble_eq_true rfl) rfl rfl ⟨(Nat.le_of_ble_eq_true rfl), (Nat.le_of_ble_eq_true rfl)⟩ ⟨(Nat.le_of_ble_eq_true rfl), (Nat.le_of_ble_eq_true rfl)⟩ dL_stands_168) hS (fun _ h => h) rfl (fun locs hS => ?_)
      refine lv_bipush (v := (-2)) S.1 S.2.1 dL_stands_171 (by decide) ?_
      refine lv_icmp_ne (tgt := 180) S.1 S.2.1 dL_stands_173 (by decide) (fun _ => ?_) (fun z9 => absurd z9 (q3))
      refine lv_iconst (v := 0) S.1 S.2.1 dL_stands_180 (by decide) ?_
      refine lv_icmp_ne (tgt := 403) S.1 S.2.1 dL_stands_181 (by decide) (fun z9 => absurd (by decide) z9) (fun _ => ?_)
      refine lv_iload S.1 S.2.1 dL_stands_184 (lv_at hl 7 rfl) ?_
      refine lv_if_ne (tgt := 208) S.1 S.2.1 dL_stands_186 (by decide) (fun _ => ?_) (fun z9 => absurd z9 (by decide))
      refine lv_iload S.1 S.2.1 dL_stands_208 (lv_at hl 7 rfl) ?_
      refine lv_iconst (v := 1) S.1 S.2.1 dL_stands_210 (by decide) ?_
      refine lv_icmp_ne (tgt := 234) S.1 S.2.1 dL_stands_211 (by decide) (fun _ => ?_) (fun z9 => absurd z9 (by decide))
      refine lv_iload S.1 S.2.1 dL_stands_234 (lv_at hl 7 rfl) ?_
      refine lv_iconst (v := 2) S.1 S.2.1 dL_stands_236 (by decide) ?_
      refine lv_icmp_lt (tgt := 270) S.1 S.2.1 dL_stands_237 (by decide) (fun z9 => absurd z9 (by decide)) (fun _ => ?_)
      refine lv_aload_n S.1 S.2.1 dL_stands_240 rfl (lv_at hl 8 rfl) ?_
      refine lv_aload_n S.1 S.2.1 dL_stands_241 rfl (lv_at hl 8 rfl) ?_
      refine lv_iload S.1 S.2.1 dL_stands_242 (lv_at hl 11 rfl) ?_
      refine lv_iconst (v := 3) S.1 S.2.1 dL_stands_244 (by decide) ?_
      refine x_aftR (st1 := [.int (a_stick v (nI j) (3 : Int32)), .ref (α 0)]) (x_V0 (As := [.int (nI j), .int 3]) (rest := [.ref (α 0)]) S mi_X11_stick qw1209 (k_stick l D A w α (nI j) (3 : Int32) hB) hK hP hD (hE.kept hS.2.1) (hB.recv hK hP) rfl rfl hl.1 (Nat.le_of_ble_eq_true rfl) rfl rfl ⟨(Nat.le_of_ble_eq_true rfl), (Nat.le_of_ble_eq_true rfl)⟩ ⟨(Nat.le_of_ble_eq_true rfl), (Nat.le_of_ble_eq_true rfl)⟩ dL_stands_245) hS (fun _ h => h) rfl (fun locs hS => ?_)
      refine x_aftR (st1 := [.int (a_owners v (a_stick v (nI j) (3 : Int32)))]) (x_V0 (As := [.int (a_stick v (nI j) (3 : Int32))]) (rest := []) S mi_X11_owners qw1313 (k_owners l D A w α (a_stick v (nI j) (3 : Int32)) hB) hK hP hD (hE.kept hS.2.1) (hB.recv hK hP) rfl rfl hl.1 (Nat.le_of_ble_eq_true rfl) rfl rfl ⟨(Nat.le_of_ble_eq_true rfl), (Nat.le_of_ble_eq_true rfl)⟩ ⟨(Nat.le_of_ble_eq_true rfl), (Nat.le_of_ble_eq_true rfl)⟩ dL_stands_248) hS (fun _ h => h) rfl (fun locs hS => ?_)
      refine lv_iload S.1 S.2.1 dL_stands_251 (lv_at hl 11 rfl) ?_
      refine lv_ishr S.1 S.2.1 dL_stands_253 ?_
      refine lv_iconst (v := 1) S.1 S.2.1 dL_stands_254 (by decide) ?_
      refine lv_iand S.1 S.2.1 dL_stands_255 ?_
      refine lv_iload S.1 S.2.1 dL_stands_256 (lv_at hl 7 rfl) ?_
      refine lv_iconst (v := 2) S.1 S.2.1 dL_stands_258 (by decide) ?_
      refine lv_icmp_ne (tgt := 266) S.1 S.2.1 dL_stands_259 (by decide) (fun _ => ?_) (fun z9 => absurd z9 (by decide))
      refine lv_iconst (v := 0) S.1 S.2.1 dL_stands_266 (by decide) ?_
      refine lv_icmp_ne (tgt := 403) S.1 S.2.1 dL_stands_267 (by decide) (fun z9 => absurd (q4) z9) (fun _ => ?_)
      refine lv_iload S.1 S.2.1 dL_stands_270 (lv_at hl 6 rfl) ?_
      refine lv_if_ge (tgt := 285) S.1 S.2.1 dL_stands_272 (by decide) (fun _ => ?_) (fun z9 => absurd (Int32.not_lt.mp q1) z9)
      refine lv_iload S.1 S.2.1 dL_stands_285 (lv_at hl 6 rfl) ?_
      refine lv_iload S.1 S.2.1 dL_stands_287 (lv_at hl 11 rfl) ?_
      refine lv_icmp_eq (tgt := 403) S.1 S.2.1 dL_stands_289 (by decide) (fun z9 => absurd z9 (kn)) (fun _ => ?_)
      refine lv_iload S.1 S.2.1 dL_stands_292 (lv_at hl 7 rfl) ?_
      refine lv_iconst (v := 3) S.1 S.2.1 dL_stands_294 (by decide) ?_
      refine lv_icmp_ne (tgt := 308) S.1 S.2.1 dL_stands_295 (by decide) (fun z9 => absurd (by decide) z9) (fun _ => ?_)
      refine lv_aload_n S.1 S.2.1 dL_stands_298 rfl (lv_at hl 8 rfl) ?_
      refine lv_iload S.1 S.2.1 dL_stands_299 (lv_at hl 11 rfl) ?_
      refine lv_iconst (v := 5) S.1 S.2.1 dL_stands_301 (by decide) ?_
      refine x_aftR (st1 := [.int (a_stick v (nI j) (5 : Int32))]) (x_V0 (As := [.int (nI j), .int 5]) (rest := []) S mi_X11_stick qw1209 (k_stick l D A w α (nI j) (5 : Int32) hB) hK hP hD (hE.kept hS.2.1) (hB.recv hK hP) rfl rfl hl.1 (Nat.le_of_ble_eq_true rfl) rfl rfl ⟨(Nat.le_of_ble_eq_true rfl), (Nat.le_of_ble_eq_true rfl)⟩ ⟨(Nat.le_of_ble_eq_true rfl), (Nat.le_of_ble_eq_true rfl)⟩ dL_stands_302) hS (fun _ h => h) rfl (fun locs hS => ?_)
      refine lv_if_le (tgt := 403) S.1 S.2.1 dL_stands_305 (by decide) (fun z9 => absurd z9 (q5)) (fun _ => ?_)
      refine lv_aload_n S.1 S.2.1 dL_stands_308 rfl (lv_at hl 8 rfl) ?_
      refine lv_iload S.1 S.2.1 dL_stands_309 (lv_at hl 11 rfl) ?_
      refine x_aftR (st1 := [.int (a_carries v (nI j))]) (x_V0 (As := [.int (nI j)]) (rest := []) S mi_X11_carries qw1309 (k_carries l D A w α (nI j) hB) hK hP hD (hE.kept hS.2.1) (hB.recv hK hP) rfl rfl hl.1 (Nat.le_of_ble_eq_true rfl) rfl rfl ⟨(Nat.le_of_ble_eq_true rfl), (Nat.le_of_ble_eq_true rfl)⟩ ⟨(Nat.le_of_ble_eq_true rfl), (Nat.le_of_ble_eq_true rfl)⟩ dL_stands_311) hS (fun _ h => h) rfl (fun locs hS => ?_)
      refine x_aftR (st1 := [.int (f_J6_bitCount_0f7a4 (a_carries v (nI j)))]) (x_St0 (As := [.int (a_carries v (nI j))]) (rest := []) S ms_J6_bitCount_0f7a4 qw1318 (c_J6_bitCount_0f7a4 l D A w α (a_carries v (nI j))) hK hP hD (hE.kept hS.2.1) rfl rfl hl.1 (Nat.le_of_ble_eq_true rfl) rfl rfl ⟨(Nat.le_of_ble_eq_true rfl), (Nat.le_of_ble_eq_true rfl)⟩ ⟨(Nat.le_of_ble_eq_true rfl), (Nat.le_of_ble_eq_true rfl)⟩ dL_stands_314) hS (fun _ h => h) rfl (fun locs hS => ?_)
      refine lv_aload_n S.1 S.2.1 dL_stands_317 rfl (lv_at hl 8 rfl) ?_
      refine lv_iload S.1 S.2.1 dL_stands_318 (lv_at hl 11 rfl) ?_
      refine lv_iconst (v := 4) S.1 S.2.1 dL_stands_320 (by decide) ?_
      refine x_aftR (st1 := [.int (a_person v (nI j) (4 : Int32)), .int (f_J6_bitCount_0f7a4 (a_carries v (nI j)))]) (x_V0 (As := [.int (nI j), .int 4]) (rest := [.int (f_J6_bitCount_0f7a4 (a_carries v (nI j)))]) S mi_X11_person qw463 (k_person l D A w α (nI j) (4 : Int32) hB) hK hP hD (hE.kept hS.2.1) (hB.recv hK hP) rfl rfl hl.1 (Nat.le_of_ble_eq_true rfl) rfl rfl ⟨(Nat.le_of_ble_eq_true rfl), (Nat.le_of_ble_eq_true rfl)⟩ ⟨(Nat.le_of_ble_eq_true rfl), (Nat.le_of_ble_eq_true rfl)⟩ dL_stands_321) hS (fun _ h => h) rfl (fun locs hS => ?_)
      refine lv_icmp_ne (tgt := 403) S.1 S.2.1 dL_stands_324 (by decide) (fun z9 => absurd (kb) z9) (fun _ => ?_)
      refine st_px S hK hP hD hE hS hr hlk hB hs0 hR hN hpf (fun {w} {H} {locs} {ls} hP hD hS hB hs0 hl => ih (j := j + 1) hP hD hS hB hs0 ?_ (by omega)) (lv_sub hl [8, 9, 4, 2, 1, 0, 3, 10, 11, 5] rfl)
      rw [eSea, eSum, eStr, eTrn, eWrg, if_pos q0, if_neg (show ¬ a_stick v (nI j) 0 = 2 by rw [q0]; decide), if_neg (fun z => absurd (q0.symm.trans z.1) (by decide))]
      exact hl
end ST
/-- what stands asks for -/
def STF (v : VT) (P B : Nat) : Prop := TF v P B ∧ (∀ b : Int32, b = 0 ∨ b = 1 ∨ b = 2 ∨ b = 3 → KF v b) ∧ (∀ j, j < B → BF v (nI j)) ∧ a_value v 3 = nI B ∧ B ≤ 6 ∧ (∀ j, j < P → PF v (nI j)) ∧ P ≤ 20 ∧ a_value v 2 = nI P ∧ a_agrees v = 1
set_option maxHeartbeats 4000000 in
set_option maxRecDepth 100000 in
theorem l_stands (l : Launch) (D : va_G) (A : Nat → Prop) (w : va_W) (α : Nat → Nat) {N P B Q : Nat} {v : VT} (hR : RA N P B Q v) (hN : N ≤ 600) (hF : STF v P B) (hB : OB D α w v) : MetD lw_cs l yL_stands (ws_ yL_stands cL_stands 12 (Option.some Jvm.ClassFile.FieldType.boolean)) ({ frames := 9, cells := 0, slots := 0, locals := 230 } : Room) (gPre D A [.ref (α 0)] w) (stQ D A α w v) 0 0 A := by
  refine g_metD [(0, .ref (α 0))] (by decide +kernel) (Nat.le_of_ble_eq_true rfl) rfl (fun pg en s mi ar below me co ls Z hEnd S hK hP hD hE hS hr hlk hnm hl => ?_)
  obtain ⟨hT, hKF, hBF, h3, hB6, hPF, hP20, h2, hag⟩ := hF
  have hs0 : Same w w 0 234 := Same.rf
  refine lv_aload_n S.1 S.2.1 dL_stands_0 rfl (lv_at hl 0 rfl) ?_
  refine lv_iconst (v := 2) S.1 S.2.1 dL_stands_1 (by decide) ?_
  refine x_aftQ (st1 := [.int (a_value v (2 : Int32))]) (x_V0 (As := [.int 2]) (rest := []) S mi_X11_value qw725 (k_value l D A w α hR hN (2 : Int32) hB) hK hP hD (hE.kept hS.2.1) (hB.recv hK hP) rfl rfl hl.1 (Nat.le_of_ble_eq_true rfl) rfl rfl ⟨(Nat.le_of_ble_eq_true rfl), (Nat.le_of_ble_eq_true rfl)⟩ ⟨(Nat.le_of_ble_eq_true rfl), (Nat.le_of_ble_eq_true rfl)⟩ dL_stands_2) hS (fun _ h => h) rfl (fun w1 H locs hq hP hD hz hk hS => ?_)
  obtain ⟨hB, hsm⟩ := hq
  have hs0 := hs0.trans hsm
  clear hz hk
  rw [show (a_value v (2 : Int32)) = (nI P) from h2]
  refine lv_istore_n (lv' := [(1, .int (nI P)), (0, .ref (α 0))]) S.1 S.2.1 dL_stands_5 rfl hl (by decide) rfl (fun ls hl => ?_)
  refine lv_iconst (v := 0) S.1 S.2.1 dL_stands_6 (by decide) ?_
  refine lv_istore_n (lv' := [(2, .int 0), (1, .int (nI P)), (0, .ref (α 0))]) S.1 S.2.1 dL_stands_7 rfl hl (by decide) rfl (fun ls hl => ?_)
  refine lv_iconst (v := 0) S.1 S.2.1 dL_stands_8 (by decide) ?_
  refine lv_istore_n (lv' := [(3, .int 0), (2, .int 0), (1, .int (nI P)), (0, .ref (α 0))]) S.1 S.2.1 dL_stands_9 rfl hl (by decide) rfl (fun ls hl => ?_)
  refine lv_iconst (v := 0) S.1 S.2.1 dL_stands_10 (by decide) ?_
  refine lv_istore (lv' := [(4, .int 0), (3, .int 0), (2, .int 0), (1, .int (nI P)), (0, .ref (α 0))]) S.1 S.2.1 dL_stands_11 hl (by decide) rfl (fun ls hl => ?_)
  refine lv_iconst (v := 0) S.1 S.2.1 dL_stands_13 (by decide) ?_
  refine lv_istore (lv' := [(5, .int 0), (4, .int 0), (3, .int 0), (2, .int 0), (1, .int (nI P)), (0, .ref (α 0))]) S.1 S.2.1 dL_stands_14 hl (by decide) rfl (fun ls hl => ?_)
  refine lv_iconst (v := 0) S.1 S.2.1 dL_stands_16 (by decide) ?_
  refine lv_istore (lv' := [(6, .int 0), (5, .int 0), (4, .int 0), (3, .int 0), (2, .int 0), (1, .int (nI P)), (0, .ref (α 0))]) S.1 S.2.1 dL_stands_17 hl (by decide) rfl (fun ls hl => ?_)
  refine lv_aload_n S.1 S.2.1 dL_stands_19 rfl (lv_at hl 6 rfl) ?_
  refine x_aftR (st1 := [.int (a_agrees v)]) (x_V0 (As := []) (rest := []) S mi_X11_agrees qw1305 (k_agrees l D A w1 α  hB) hK hP hD (hE.kept hS.2.1) (hB.recv hK hP) rfl rfl hl.1 (Nat.le_of_ble_eq_true rfl) rfl rfl ⟨(Nat.le_of_ble_eq_true rfl), (Nat.le_of_ble_eq_true rfl)⟩ ⟨(Nat.le_of_ble_eq_true rfl), (Nat.le_of_ble_eq_true rfl)⟩ dL_stands_20) hS (fun _ h => h) rfl (fun locs hS => ?_)
  rw [show (a_agrees v) = 1 from hag]
  refine lv_istore (lv' := [(7, .int 1), (6, .int 0), (5, .int 0), (4, .int 0), (3, .int 0), (2, .int 0), (1, .int (nI P)), (0, .ref (α 0))]) S.1 S.2.1 dL_stands_23 hl (by decide) rfl (fun ls hl => ?_)
  refine lv_iconst (v := 0) S.1 S.2.1 dL_stands_25 (by decide) ?_
  refine lv_istore (lv' := [(8, .int 0), (7, .int 1), (6, .int 0), (5, .int 0), (4, .int 0), (3, .int 0), (2, .int 0), (1, .int (nI P)), (0, .ref (α 0))]) S.1 S.2.1 dL_stands_26 hl (by decide) rfl (fun ls hl => ?_)
  refine st_p S hK hP hD hE hS hr hlk hB hs0 hR hN hEnd hT hKF hBF h3 hB6 hPF hP20 P 0 ?_ (Nat.zero_add P)
  rw [show sSea v 0 = 0 from iter_z _ _, show sStr v 0 = 0 from iter_z _ _, show sTrn v 0 = 0 from iter_z _ _, show sWrg v 0 = 0 from iter_z _ _, show sSum v 0 = 0 from iter_z _ _]
  exact lv_sub hl [8, 7, 6, 5, 4, 3, 2, 1, 0] rfl
