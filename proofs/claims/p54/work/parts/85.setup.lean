def NLx (mNum : Nat → Int32) : List Nat := [115, 101, 97, 115, 111, 110] ++ ((32 :: numL (mNum 0)) ++ ([32, 115, 104, 97, 114, 101, 115] ++ ((32 :: numL (mNum 1)) ++ ((32 :: numL (mNum 2)) ++ ((32 :: numL (mNum 3)) ++ ((32 :: numL (mNum 4)) ++ ([32, 108, 101, 115, 115] ++ ((32 :: numL (mNum 5)) ++ ([32, 108, 101, 97, 115, 116] ++ ((32 :: numL (mNum 6)) ++ ([32, 99, 97, 114, 114, 121] ++ ((32 :: numL (mNum 7)) ++ ([32, 97, 112, 112, 101, 97, 108] ++ ((32 :: numL (mNum 8)) ++ ([32, 114, 101, 99, 111, 117, 110, 116, 115] ++ ((32 :: numL (mNum 9)) ++ ([59])))))))))))))))))
theorem spair (c : Int64) {L : List Nat} (hc : ∀ o w f : Int32, f_X12_saysWord o w f c = sL w (f, o) L) {v : Int32} (hv : lgOk v) (b : Nat) (i : Int32) (u : Int32 × Int32) : f_X12_saysPair u.2 i u.1 c v (nI b) = sL i u (L ++ ([32] ++ (numL v ++ [b]))) := by
  unfold f_X12_saysPair S_X12_saysPair_19 S_X12_saysPair_13 S_X12_saysPair_8 S_X12_saysPair_2
  rw [hc, show ((u.1, u.2) : Int32 × Int32) = u from rfl, show ∀ u : Int32 × Int32, f_X12_says u.2 i u.1 32 = sL i u [32] from fun u => sL_1 i u 32, snum hv, show ∀ u : Int32 × Int32, f_X12_says u.2 i u.1 (nI b) = sL i u [b] from fun u => sL_1 i u b, sL_app, sL_app, sL_app]
section TX3
variable {N P B Q : Nat} {day votes isOpen baskets lays recs fneed clos pastN logN : Int32} {boatO seaO faultO daysO backB sailB plc car bnd bsk dyL rsn pastF logF mW : Nat → Int32}
variable {nums bNames pNames fBoats : Nat → Int32} {nB nP mPpl mBts : Int32} {mNum mNam mFst mBnm : Nat → Int32}
variable {tx : Nat → Int32} {txl i : Int32}
theorem num_ok (hs : RSu P B Q nums bNames pNames fBoats nB nP mPpl mBts mNum mNam mFst mBnm) : ∀ k, k < 10 → lgOk (mNum k) := by
  obtain ⟨-, -, -, -, -, -, -, ⟨h0, -⟩, h1, h5, ⟨h6, -⟩, h7, h8, ⟨h9, -⟩, -⟩ := hs
  intro k hk
  match k, hk with
  | 0, _ => exact lgV h0
  | 1, _ => exact lgV (h1 0 (by decide))
  | 2, _ => exact lgV (h1 1 (by decide))
  | 3, _ => exact lgV (h1 2 (by decide))
  | 4, _ => exact lgV (h1 3 (by decide))
  | 5, _ => exact lgV h5
  | 6, _ => exact lgV h6
  | 7, _ => exact lgV h7
  | 8, _ => exact lgV h8
  | 9, _ => exact lgV h9
theorem x_numbers (hs : RSu P B Q nums bNames pNames fBoats nB nP mPpl mBts mNum mNam mFst mBnm) (s : (Nat → Int32) × Int32) : f_X6_writeNumbers s.1 s.2 nums = aL s (NLx mNum) := by
  have o := num_ok hs
  have e0 : f_X7_numberOf nums 0 = mNum 0 := su_num hs (i := 0) (by decide)
  have e1 : f_X7_numberOf nums ((1 : Int32) + 0) = mNum 1 := by
    rw [show (1 : Int32) + 0 = nI 1 by decide]
    exact su_num hs (by decide)
  have e2 : f_X7_numberOf nums ((1 : Int32) + 1) = mNum 2 := by
    rw [show (1 : Int32) + 1 = nI 2 by decide]
    exact su_num hs (by decide)
  have e3 : f_X7_numberOf nums ((1 : Int32) + 2) = mNum 3 := by
    rw [show (1 : Int32) + 2 = nI 3 by decide]
    exact su_num hs (by decide)
  have e4 : f_X7_numberOf nums ((1 : Int32) + 3) = mNum 4 := by
    rw [show (1 : Int32) + 3 = nI 4 by decide]
    exact su_num hs (by decide)
  have e5 : f_X7_numberOf nums 5 = mNum 5 := su_num hs (i := 5) (by decide)
  have e6 : f_X7_numberOf nums 6 = mNum 6 := su_num hs (i := 6) (by decide)
  have e7 : f_X7_numberOf nums 7 = mNum 7 := su_num hs (i := 7) (by decide)
  have e8 : f_X7_numberOf nums 8 = mNum 8 := su_num hs (i := 8) (by decide)
  have e9 : f_X7_numberOf nums 9 = mNum 9 := su_num hs (i := 9) (by decide)
  have s6 : S_X6_writeNumbers_6 s.1 s.2 = aL s [115, 101, 97, 115, 111, 110] := at_0 s
  have s15 : S_X6_writeNumbers_15 s.1 s.2 nums = aL s ([115, 101, 97, 115, 111, 110] ++ (32 :: numL (mNum 0))) := by
    unfold S_X6_writeNumbers_15
    rw [s6, e0, wnum (o 0 (by decide)), aL_app]
  have s24 : S_X6_writeNumbers_24 s.1 s.2 nums = aL s (([115, 101, 97, 115, 111, 110] ++ (32 :: numL (mNum 0))) ++ [32, 115, 104, 97, 114, 101, 115]) := by
    unfold S_X6_writeNumbers_24
    rw [s15, at_21, aL_app]
  have s42 : S_X6_writeNumbers_42 s.1 s.2 nums = aL s ((([115, 101, 97, 115, 111, 110] ++ (32 :: numL (mNum 0))) ++ [32, 115, 104, 97, 114, 101, 115]) ++ (32 :: numL (mNum 1))) := by
    unfold S_X6_writeNumbers_42
    rw [s24, e1, wnum (o 1 (by decide)), aL_app]
  have s42a : S_X6_writeNumbers_42a s.1 s.2 nums = aL s (((([115, 101, 97, 115, 111, 110] ++ (32 :: numL (mNum 0))) ++ [32, 115, 104, 97, 114, 101, 115]) ++ (32 :: numL (mNum 1))) ++ (32 :: numL (mNum 2))) := by
    unfold S_X6_writeNumbers_42a
    rw [s42, e2, wnum (o 2 (by decide)), aL_app]
  have s42b : S_X6_writeNumbers_42b s.1 s.2 nums = aL s ((((([115, 101, 97, 115, 111, 110] ++ (32 :: numL (mNum 0))) ++ [32, 115, 104, 97, 114, 101, 115]) ++ (32 :: numL (mNum 1))) ++ (32 :: numL (mNum 2))) ++ (32 :: numL (mNum 3))) := by
    unfold S_X6_writeNumbers_42b
    rw [s42a, e3, wnum (o 3 (by decide)), aL_app]
  have s42c : S_X6_writeNumbers_42c s.1 s.2 nums = aL s (((((([115, 101, 97, 115, 111, 110] ++ (32 :: numL (mNum 0))) ++ [32, 115, 104, 97, 114, 101, 115]) ++ (32 :: numL (mNum 1))) ++ (32 :: numL (mNum 2))) ++ (32 :: numL (mNum 3))) ++ (32 :: numL (mNum 4))) := by
    unfold S_X6_writeNumbers_42c
    rw [s42b, e4, wnum (o 4 (by decide)), aL_app]
  have s57 : S_X6_writeNumbers_57 s.1 s.2 nums = aL s ((((((([115, 101, 97, 115, 111, 110] ++ (32 :: numL (mNum 0))) ++ [32, 115, 104, 97, 114, 101, 115]) ++ (32 :: numL (mNum 1))) ++ (32 :: numL (mNum 2))) ++ (32 :: numL (mNum 3))) ++ (32 :: numL (mNum 4))) ++ [32, 108, 101, 115, 115]) := by
    unfold S_X6_writeNumbers_57
    rw [s42c, at_22, aL_app]
  have s66 : S_X6_writeNumbers_66 s.1 s.2 nums = aL s (((((((([115, 101, 97, 115, 111, 110] ++ (32 :: numL (mNum 0))) ++ [32, 115, 104, 97, 114, 101, 115]) ++ (32 :: numL (mNum 1))) ++ (32 :: numL (mNum 2))) ++ (32 :: numL (mNum 3))) ++ (32 :: numL (mNum 4))) ++ [32, 108, 101, 115, 115]) ++ (32 :: numL (mNum 5))) := by
    unfold S_X6_writeNumbers_66
    rw [s57, e5, wnum (o 5 (by decide)), aL_app]
  have s75 : S_X6_writeNumbers_75 s.1 s.2 nums = aL s ((((((((([115, 101, 97, 115, 111, 110] ++ (32 :: numL (mNum 0))) ++ [32, 115, 104, 97, 114, 101, 115]) ++ (32 :: numL (mNum 1))) ++ (32 :: numL (mNum 2))) ++ (32 :: numL (mNum 3))) ++ (32 :: numL (mNum 4))) ++ [32, 108, 101, 115, 115]) ++ (32 :: numL (mNum 5))) ++ [32, 108, 101, 97, 115, 116]) := by
    unfold S_X6_writeNumbers_75
    rw [s66, at_23, aL_app]
  have s85 : S_X6_writeNumbers_85 s.1 s.2 nums = aL s (((((((((([115, 101, 97, 115, 111, 110] ++ (32 :: numL (mNum 0))) ++ [32, 115, 104, 97, 114, 101, 115]) ++ (32 :: numL (mNum 1))) ++ (32 :: numL (mNum 2))) ++ (32 :: numL (mNum 3))) ++ (32 :: numL (mNum 4))) ++ [32, 108, 101, 115, 115]) ++ (32 :: numL (mNum 5))) ++ [32, 108, 101, 97, 115, 116]) ++ (32 :: numL (mNum 6))) := by
    unfold S_X6_writeNumbers_85
    rw [s75, e6, wnum (o 6 (by decide)), aL_app]
  have s94 : S_X6_writeNumbers_94 s.1 s.2 nums = aL s ((((((((((([115, 101, 97, 115, 111, 110] ++ (32 :: numL (mNum 0))) ++ [32, 115, 104, 97, 114, 101, 115]) ++ (32 :: numL (mNum 1))) ++ (32 :: numL (mNum 2))) ++ (32 :: numL (mNum 3))) ++ (32 :: numL (mNum 4))) ++ [32, 108, 101, 115, 115]) ++ (32 :: numL (mNum 5))) ++ [32, 108, 101, 97, 115, 116]) ++ (32 :: numL (mNum 6))) ++ [32, 99, 97, 114, 114, 121]) := by
    unfold S_X6_writeNumbers_94
    rw [s85, at_24, aL_app]
  have s104 : S_X6_writeNumbers_104 s.1 s.2 nums = aL s (((((((((((([115, 101, 97, 115, 111, 110] ++ (32 :: numL (mNum 0))) ++ [32, 115, 104, 97, 114, 101, 115]) ++ (32 :: numL (mNum 1))) ++ (32 :: numL (mNum 2))) ++ (32 :: numL (mNum 3))) ++ (32 :: numL (mNum 4))) ++ [32, 108, 101, 115, 115]) ++ (32 :: numL (mNum 5))) ++ [32, 108, 101, 97, 115, 116]) ++ (32 :: numL (mNum 6))) ++ [32, 99, 97, 114, 114, 121]) ++ (32 :: numL (mNum 7))) := by
    unfold S_X6_writeNumbers_104
    rw [s94, e7, wnum (o 7 (by decide)), aL_app]
  have s113 : S_X6_writeNumbers_113 s.1 s.2 nums = aL s ((((((((((((([115, 101, 97, 115, 111, 110] ++ (32 :: numL (mNum 0))) ++ [32, 115, 104, 97, 114, 101, 115]) ++ (32 :: numL (mNum 1))) ++ (32 :: numL (mNum 2))) ++ (32 :: numL (mNum 3))) ++ (32 :: numL (mNum 4))) ++ [32, 108, 101, 115, 115]) ++ (32 :: numL (mNum 5))) ++ [32, 108, 101, 97, 115, 116]) ++ (32 :: numL (mNum 6))) ++ [32, 99, 97, 114, 114, 121]) ++ (32 :: numL (mNum 7))) ++ [32, 97, 112, 112, 101, 97, 108]) := by
    unfold S_X6_writeNumbers_113
    rw [s104, at_25, aL_app]
  have s123 : S_X6_writeNumbers_123 s.1 s.2 nums = aL s (((((((((((((([115, 101, 97, 115, 111, 110] ++ (32 :: numL (mNum 0))) ++ [32, 115, 104, 97, 114, 101, 115]) ++ (32 :: numL (mNum 1))) ++ (32 :: numL (mNum 2))) ++ (32 :: numL (mNum 3))) ++ (32 :: numL (mNum 4))) ++ [32, 108, 101, 115, 115]) ++ (32 :: numL (mNum 5))) ++ [32, 108, 101, 97, 115, 116]) ++ (32 :: numL (mNum 6))) ++ [32, 99, 97, 114, 114, 121]) ++ (32 :: numL (mNum 7))) ++ [32, 97, 112, 112, 101, 97, 108]) ++ (32 :: numL (mNum 8))) := by
    unfold S_X6_writeNumbers_123
    rw [s113, e8, wnum (o 8 (by decide)), aL_app]
  have s132 : S_X6_writeNumbers_132 s.1 s.2 nums = aL s ((((((((((((((([115, 101, 97, 115, 111, 110] ++ (32 :: numL (mNum 0))) ++ [32, 115, 104, 97, 114, 101, 115]) ++ (32 :: numL (mNum 1))) ++ (32 :: numL (mNum 2))) ++ (32 :: numL (mNum 3))) ++ (32 :: numL (mNum 4))) ++ [32, 108, 101, 115, 115]) ++ (32 :: numL (mNum 5))) ++ [32, 108, 101, 97, 115, 116]) ++ (32 :: numL (mNum 6))) ++ [32, 99, 97, 114, 114, 121]) ++ (32 :: numL (mNum 7))) ++ [32, 97, 112, 112, 101, 97, 108]) ++ (32 :: numL (mNum 8))) ++ [32, 114, 101, 99, 111, 117, 110, 116, 115]) := by
    unfold S_X6_writeNumbers_132
    rw [s123, at_26, aL_app]
  have s142 : S_X6_writeNumbers_142 s.1 s.2 nums = aL s (((((((((((((((([115, 101, 97, 115, 111, 110] ++ (32 :: numL (mNum 0))) ++ [32, 115, 104, 97, 114, 101, 115]) ++ (32 :: numL (mNum 1))) ++ (32 :: numL (mNum 2))) ++ (32 :: numL (mNum 3))) ++ (32 :: numL (mNum 4))) ++ [32, 108, 101, 115, 115]) ++ (32 :: numL (mNum 5))) ++ [32, 108, 101, 97, 115, 116]) ++ (32 :: numL (mNum 6))) ++ [32, 99, 97, 114, 114, 121]) ++ (32 :: numL (mNum 7))) ++ [32, 97, 112, 112, 101, 97, 108]) ++ (32 :: numL (mNum 8))) ++ [32, 114, 101, 99, 111, 117, 110, 116, 115]) ++ (32 :: numL (mNum 9))) := by
    unfold S_X6_writeNumbers_142
    rw [s132, e9, wnum (o 9 (by decide)), aL_app]
  have s151 : S_X6_writeNumbers_151 s.1 s.2 nums = aL s ((((((((((((((((([115, 101, 97, 115, 111, 110] ++ (32 :: numL (mNum 0))) ++ [32, 115, 104, 97, 114, 101, 115]) ++ (32 :: numL (mNum 1))) ++ (32 :: numL (mNum 2))) ++ (32 :: numL (mNum 3))) ++ (32 :: numL (mNum 4))) ++ [32, 108, 101, 115, 115]) ++ (32 :: numL (mNum 5))) ++ [32, 108, 101, 97, 115, 116]) ++ (32 :: numL (mNum 6))) ++ [32, 99, 97, 114, 114, 121]) ++ (32 :: numL (mNum 7))) ++ [32, 97, 112, 112, 101, 97, 108]) ++ (32 :: numL (mNum 8))) ++ [32, 114, 101, 99, 111, 117, 110, 116, 115]) ++ (32 :: numL (mNum 9))) ++ [59]) := by
    unfold S_X6_writeNumbers_151
    rw [s142, show ∀ u : (Nat → Int32) × Int32, f_X1_add 2048 u.1 u.2 59 = aL u [59] from fun u => aL_1 u 59, aL_app]
  have hL : ((((((((((((((((([115, 101, 97, 115, 111, 110] ++ (32 :: numL (mNum 0))) ++ [32, 115, 104, 97, 114, 101, 115]) ++ (32 :: numL (mNum 1))) ++ (32 :: numL (mNum 2))) ++ (32 :: numL (mNum 3))) ++ (32 :: numL (mNum 4))) ++ [32, 108, 101, 115, 115]) ++ (32 :: numL (mNum 5))) ++ [32, 108, 101, 97, 115, 116]) ++ (32 :: numL (mNum 6))) ++ [32, 99, 97, 114, 114, 121]) ++ (32 :: numL (mNum 7))) ++ [32, 97, 112, 112, 101, 97, 108]) ++ (32 :: numL (mNum 8))) ++ [32, 114, 101, 99, 111, 117, 110, 116, 115]) ++ (32 :: numL (mNum 9))) ++ [59]) = NLx mNum := by
    unfold NLx
    simp only [List.append_assoc]
  unfold f_X6_writeNumbers
  rw [s151, hL]
theorem m_numbers (hs : RSu P B Q nums bNames pNames fBoats nB nP mPpl mBts mNum mNam mFst mBnm) (u : Int32 × Int32) : f_X12_saysNumbers u.2 i u.1 mNum = sL i u (NLx mNum) := by
  have o := num_ok hs
  have l24 : ∀ n, n ≤ 4 → L_X12_saysNumbers_24 u.2 i u.1 mNum n = sL i (S_X12_saysNumbers_19 u.2 i u.1 mNum) (flat (fun k => 32 :: numL (mNum (1 + k))) n) := iter_sL (N := 4) (fun n s hn => by
    unfold G_X12_saysNumbers_24 S_X12_saysNumbers_44 S_X12_saysNumbers_32
    rw [show (1 : Int32) = nI 1 from rfl, nI_add, nI_clamp (by omega), show ∀ u : Int32 × Int32, f_X12_says u.2 i u.1 32 = sL i u [32] from fun u => sL_1 i u 32, snum (o (1 + n) (by omega)), sL_app]
    rfl)
  have p12 := spair 642829806 kw_season (o 0 (by decide)) 32 i u
  have s12 : S_X12_saysNumbers_12 u.2 i u.1 mNum = sL i u ([115, 101, 97, 115, 111, 110] ++ ([32] ++ (numL (mNum 0) ++ [32]))) := p12
  have s19 : S_X12_saysNumbers_19 u.2 i u.1 mNum = sL i u (([115, 101, 97, 115, 111, 110] ++ ([32] ++ (numL (mNum 0) ++ [32]))) ++ [115, 104, 97, 114, 101, 115]) := by
    unfold S_X12_saysNumbers_19
    rw [s12, show ∀ u : Int32 × Int32, f_X12_saysWord u.2 i u.1 645974195 = sL i u [115, 104, 97, 114, 101, 115] from fun u => kw_shares u.2 i u.1, sL_app]
  have f4 : flat (fun k => 32 :: numL (mNum (1 + k))) 4 = (((32 :: numL (mNum 1)) ++ (32 :: numL (mNum 2))) ++ (32 :: numL (mNum 3))) ++ (32 :: numL (mNum 4)) := rfl
  unfold f_X12_saysNumbers S_X12_saysNumbers_135 S_X12_saysNumbers_119 S_X12_saysNumbers_103 S_X12_saysNumbers_87 S_X12_saysNumbers_71 S_X12_saysNumbers_56
  rw [l24 4 (Nat.le_refl _), s19, f4, show ∀ u : Int32 × Int32, f_X12_says u.2 i u.1 32 = sL i u [32] from fun u => sL_1 i u 32]
  rw [show ∀ u : Int32 × Int32, f_X12_saysPair u.2 i u.1 398963 (mNum 5) 32 = _ from fun u => spair 398963 kw_less (o 5 (by decide)) 32 i u]
  rw [show ∀ u : Int32 × Int32, f_X12_saysPair u.2 i u.1 12748404 (mNum 6) 32 = _ from fun u => spair 12748404 kw_least (o 6 (by decide)) 32 i u]
  rw [show ∀ u : Int32 × Int32, f_X12_saysPair u.2 i u.1 3197529 (mNum 7) 32 = _ from fun u => spair 3197529 kw_carry (o 7 (by decide)) 32 i u]
  rw [show ∀ u : Int32 × Int32, f_X12_saysPair u.2 i u.1 50861100 (mNum 8) 32 = _ from fun u => spair 50861100 kw_appeal (o 8 (by decide)) 32 i u]
  rw [show ∀ u : Int32 × Int32, f_X12_saysPair u.2 i u.1 623961094803 (mNum 9) 59 = _ from fun u => spair 623961094803 kw_recounts (o 9 (by decide)) 59 i u]
  rw [sL_app, sL_app, sL_app, sL_app, sL_app, sL_app, sL_app]
  refine (show ∀ p : Int32 × Int32, (p.1, p.2) = p from fun _ => rfl) _ |>.trans ?_
  refine congrArg (sL i u) ?_
  unfold NLx
  simp only [List.append_assoc, List.cons_append, List.nil_append]
def boL (mBnm : Nat → Int32) (n : Nat) : List Nat := [98, 111, 97, 116, 32] ++ (nmL (mBnm n).toNatClampNeg ++ [59])
def ofL (mBnm : Nat → Int32) (b : Int32) : List Nat := if b = -2 then [] else [32, 111, 102, 32] ++ nmL (mBnm b.toNatClampNeg).toNatClampNeg
def peL (mNam mBnm boatO : Nat → Int32) (n : Nat) : List Nat := [112, 101, 114, 115, 111, 110, 32] ++ (nmL (mNam n).toNatClampNeg ++ (ofL mBnm (boatO n) ++ [59]))
def suL (P B : Nat) (mNum mNam mBnm boatO : Nat → Int32) : List Nat := NLx mNum ++ (flat (boL mBnm) B ++ flat (peL mNam mBnm boatO) P)
theorem suL_ok (hP : P ≤ 20) (hB : B ≤ 6) : (suL P B mNum mNam mBnm boatO).length ≤ 2048 ∧ ∀ c, c ∈ suL P B mNum mNam mBnm boatO → c < 128 := by
  have b1 : ∀ n, (boL mBnm n).length ≤ 12 := fun n => by
    have := nmL_len (mBnm n).toNatClampNeg
    unfold boL
    simp only [List.length_append, List.length_cons, List.length_nil]
    omega
  have b2 : ∀ n c, c ∈ boL mBnm n → c < 128 := fun n c hc => by
    unfold boL at hc
    rcases List.mem_append.mp hc with z | z
    · exact (by decide : ∀ c, c ∈ [98, 111, 97, 116, 32] → c < 128) c z
    · rcases List.mem_append.mp z with y | y
      · exact nmL_in _ c y
      · exact (by decide : ∀ c, c ∈ [59] → c < 128) c y
  have o1 : ∀ b, (ofL mBnm b).length ≤ 10 := fun b => by
    have := nmL_len (mBnm b.toNatClampNeg).toNatClampNeg
    unfold ofL
    split
    · exact Nat.zero_le _
    · rw [List.length_append]
      simp only [List.length_cons, List.length_nil]
      omega
  have o2 : ∀ b c, c ∈ ofL mBnm b → c < 128 := fun b c hc => by
    unfold ofL at hc
    split at hc
    · simp at hc
    · rcases List.mem_append.mp hc with z | z
      · exact (by decide : ∀ c, c ∈ [32, 111, 102, 32] → c < 128) c z
      · exact nmL_in _ c z
  have p1 : ∀ n, (peL mNam mBnm boatO n).length ≤ 24 := fun n => by
    have h1 := nmL_len (mNam n).toNatClampNeg
    have h2 := o1 (boatO n)
    unfold peL
    simp only [List.length_append, List.length_cons, List.length_nil]
    omega
  have p2 : ∀ n c, c ∈ peL mNam mBnm boatO n → c < 128 := fun n c hc => by
    unfold peL at hc
    rcases List.mem_append.mp hc with z | z
    · exact (by decide : ∀ c, c ∈ [112, 101, 114, 115, 111, 110, 32] → c < 128) c z
    · rcases List.mem_append.mp z with y | y
      · exact nmL_in _ c y
      · rcases List.mem_append.mp y with x | x
        · exact o2 _ c x
        · exact (by decide : ∀ c, c ∈ [59] → c < 128) c x
  have n1 : (NLx mNum).length ≤ 500 := by
    have al : ∀ (L M : List Nat) (a b : Nat), L.length ≤ a → M.length ≤ b → (L ++ M).length ≤ a + b := fun L M a b h1 h2 => by
      rw [List.length_append]
      exact Nat.add_le_add h1 h2
    have cn : ∀ v, (32 :: numL v).length ≤ 12 := fun v => Nat.succ_le_succ (numL_len v)
    unfold NLx
    exact Nat.le_trans (al _ _ 6 _ (Nat.le_refl _) (al _ _ 12 _ (cn _) (al _ _ 7 _ (Nat.le_refl _) (al _ _ 12 _ (cn _) (al _ _ 12 _ (cn _) (al _ _ 12 _ (cn _) (al _ _ 12 _ (cn _) (al _ _ 5 _ (Nat.le_refl _) (al _ _ 12 _ (cn _) (al _ _ 6 _ (Nat.le_refl _) (al _ _ 12 _ (cn _) (al _ _ 6 _ (Nat.le_refl _) (al _ _ 12 _ (cn _) (al _ _ 7 _ (Nat.le_refl _) (al _ _ 12 _ (cn _) (al _ _ 9 _ (Nat.le_refl _) (al _ _ 12 1 (cn _) (Nat.le_refl _)))))))))))))))))) (by decide)
  have n2 : ∀ c, c ∈ NLx mNum → c < 128 := by
    have cons : ∀ (v : Int32) (c : Nat), c ∈ (32 :: numL v) → c < 128 := fun v c hc => by
      rcases List.mem_cons.mp hc with z | z
      · omega
      · exact numL_in v c z
    have app : ∀ {L M : List Nat}, (∀ c, c ∈ L → c < 128) → (∀ c, c ∈ M → c < 128) → ∀ c, c ∈ L ++ M → c < 128 := fun hL hM c hc => by
      rcases List.mem_append.mp hc with z | z
      · exact hL c z
      · exact hM c z
    unfold NLx
    exact app (by decide) (app (cons _) (app (by decide) (app (cons _) (app (cons _) (app (cons _) (app (cons _) (app (by decide) (app (cons _) (app (by decide) (app (cons _) (app (by decide) (app (cons _) (app (by decide) (app (cons _) (app (by decide) (app (cons _) (by decide)))))))))))))))))
  refine ⟨?_, fun c hc => ?_⟩
  · have h1 := flat_len (g := boL mBnm) (B := 12) (n := B) (fun k _ => b1 k)
    have h2 := flat_len (g := peL mNam mBnm boatO) (B := 24) (n := P) (fun k _ => p1 k)
    unfold suL
    rw [List.length_append, List.length_append]
    exact Nat.le_trans (Nat.add_le_add n1 (Nat.add_le_add h1 h2)) (by omega)
  · unfold suL at hc
    rcases List.mem_append.mp hc with z | z
    · exact n2 c z
    · rcases List.mem_append.mp z with y | y
      · exact flat_in (fun k _ => b2 k) c y
      · exact flat_in (fun k _ => p2 k) c y
theorem x_setup (h : RSt N P B Q day votes isOpen baskets lays recs fneed clos boatO seaO faultO daysO backB sailB plc car bnd bsk dyL rsn pastF pastN logF logN mW) (hs : RSu P B Q nums bNames pNames fBoats nB nP mPpl mBts mNum mNam mFst mBnm) : f_X6_writeSetup tx txl nums bNames pNames nB nP boatO = aL (tx, f_X1_cutTo txl 0) (suL P B mNum mNam mBnm boatO) := by
  have hP := su_P hs
  have hB := hs.2.2.2.2.2.1
  have s10 : S_X6_writeSetup_10 tx txl nums = aL (tx, f_X1_cutTo txl 0) (NLx mNum) := x_numbers hs (tx, f_X1_cutTo txl 0)
  have l15 : ∀ n, n ≤ B → L_X6_writeSetup_15 tx txl nums bNames n = aL ((S_X6_writeSetup_10 tx txl nums).1, (S_X6_writeSetup_10 tx txl nums).2) (flat (boL mBnm) n) := iter_aL (N := B) (fun n s hn => by
    obtain ⟨n1, n2, n3⟩ := su_bname hs hn
    unfold G_X6_writeSetup_15 S_X6_writeSetup_50 S_X6_writeSetup_41 S_X6_writeSetup_29
    rw [at_27, n1, add_name (by omega), show ∀ u : (Nat → Int32) × Int32, f_X1_add 2048 u.1 u.2 59 = aL u [59] from fun u => aL_1 u 59, aL_app, aL_app]
    refine (show ∀ p : (Nat → Int32) × Int32, (p.1, p.2) = p from fun _ => rfl) _ |>.trans ?_
    refine congrArg (aL s) ?_
    rfl)
  have l61 : ∀ n, n ≤ P → L_X6_writeSetup_61 tx txl nums bNames pNames nB boatO n = aL ((L_X6_writeSetup_15 tx txl nums bNames nB.toNatClampNeg).1, (L_X6_writeSetup_15 tx txl nums bNames nB.toNatClampNeg).2) (flat (peL mNam mBnm boatO) n) := iter_aL (N := P) (fun n s hn => by
    obtain ⟨n1, n2, n3⟩ := su_name hs hn
    have s25 : S_X6_writePerson_25 s.1 s.2 pNames (nI n) = aL s ([112, 101, 114, 115, 111, 110, 32] ++ nmL (mNam n).toNatClampNeg) := by
      unfold S_X6_writePerson_25 S_X6_writePerson_13
      rw [at_28, n1, add_name (by omega), aL_app]
    have j32 : J_X6_writePerson_32 s.1 s.2 bNames pNames boatO (nI n) = aL s ([112, 101, 114, 115, 111, 110, 32] ++ nmL (mNam n).toNatClampNeg ++ ofL mBnm (boatO n)) := by
      unfold J_X6_writePerson_32 S_X6_writePerson_54 S_X6_writePerson_41 ofL
      rw [s25, x_boatO (by omega)]
      by_cases q : boatO n = -2
      · rw [if_pos q, if_pos q, List.append_nil]
      · rw [if_neg q, if_neg q]
        have hb : vp_in (boatO n) B := by
          rcases (h.2.1 n hn).1.2 with z | z
          · exact absurd z q
          · exact z
        obtain ⟨e, he⟩ := vin_nI hb
        obtain ⟨m1, m2, m3⟩ := su_bname hs he
        rw [show f_X7_boatName bNames (boatO n) = nI (mBnm (boatO n).toNatClampNeg).toNatClampNeg by rw [← m1, ← e], at_29, add_name (by omega), aL_app, aL_app, List.append_assoc]
    unfold G_X6_writeSetup_61 S_X6_writeSetup_73 f_X6_writePerson S_X6_writePerson_63
    have eta : ∀ p : (Nat → Int32) × Int32, (p.1, p.2) = p := fun _ => rfl
    have eL : [112, 101, 114, 115, 111, 110, 32] ++ nmL (mNam n).toNatClampNeg ++ ofL mBnm (boatO n) ++ [59] = peL mNam mBnm boatO n := by
      unfold peL
      simp only [List.append_assoc]
    rw [j32, show ∀ u : (Nat → Int32) × Int32, f_X1_add 2048 u.1 u.2 59 = aL u [59] from fun u => aL_1 u 59, aL_app, eta, eL])
  have cB : nB.toNatClampNeg = B := by rw [hs.2.2.1, nI_clamp (by omega)]
  have cP : nP.toNatClampNeg = P := by rw [hs.1, nI_clamp (by omega)]
  unfold f_X6_writeSetup
  have eta : ∀ p : (Nat → Int32) × Int32, (p.1, p.2) = p := fun _ => rfl
  rw [cP, l61 P (Nat.le_refl _), cB, l15 B (Nat.le_refl _), s10, eta, eta, eta, aL_app, aL_app]
  refine congrArg (aL (tx, f_X1_cutTo txl 0)) ?_
  unfold suL
  rfl
theorem m_setup (h : RSt N P B Q day votes isOpen baskets lays recs fneed clos boatO seaO faultO daysO backB sailB plc car bnd bsk dyL rsn pastF pastN logF logN mW) (hs : RSu P B Q nums bNames pNames fBoats nB nP mPpl mBts mNum mNam mFst mBnm) : (f_X12_saysSetup mPpl mBts mNum mNam mBnm mW i).1 = (sL i (-2, 0) (suL P B mNum mNam mBnm boatO)).1 ∧ (f_X12_saysSetup mPpl mBts mNum mNam mBnm mW i).2.1 = (sL i (-2, 0) (suL P B mNum mNam mBnm boatO)).2 := by
  have hP := su_P hs
  have hB := hs.2.2.2.2.2.1
  have s6 : S_X12_saysSetup_6 mNum i = sL i (-2, 0) (NLx mNum) := m_numbers hs (-2, 0)
  have l11 : ∀ n, n ≤ B → L_X12_saysSetup_11 mNum mBnm i n = sL i (S_X12_saysSetup_6 mNum i) (flat (boL mBnm) n) := iter_sL (N := B) (fun n s hn => by
    obtain ⟨n1, n2, n3⟩ := su_bname hs hn
    unfold G_X12_saysSetup_11 S_X12_saysSetup_46 S_X12_saysSetup_40 S_X12_saysSetup_29 S_X12_saysSetup_23
    rw [show (S_X12_saysSetup_2 i).2.2 = i from rfl, nI_clamp (by omega), n2, show ∀ u : Int32 × Int32, f_X12_saysWord u.2 i u.1 80948 = sL i u [98, 111, 97, 116] from fun u => kw_boat u.2 i u.1, show ∀ u : Int32 × Int32, f_X12_says u.2 i u.1 32 = sL i u [32] from fun u => sL_1 i u 32, show ∀ u : Int32 × Int32, f_X12_saysWord u.2 i u.1 (nI (mBnm n).toNatClampNeg).toInt64 = sL i u (nmL (mBnm n).toNatClampNeg) from fun u => says_name n3 i u.2 u.1, show ∀ u : Int32 × Int32, f_X12_says u.2 i u.1 59 = sL i u [59] from fun u => sL_1 i u 59, sL_app, sL_app, sL_app]
    refine (show ∀ p : Int32 × Int32, (p.1, p.2) = p from fun _ => rfl) _ |>.trans ?_
    refine congrArg (sL i s) ?_
    unfold boL
    simp only [List.append_assoc, List.cons_append, List.nil_append])
  have l57 : ∀ n, n ≤ P → L_X12_saysSetup_57 mBts mNum mNam mBnm mW i n = sL i (L_X12_saysSetup_11 mNum mBnm i mBts.toNatClampNeg) (flat (peL mNam mBnm boatO) n) := iter_sL (N := P) (fun n s hn => by
    obtain ⟨n1, n2, n3⟩ := su_name hs hn
    have e0 : f_X12_of mW (nI n) 0 = boatO n := (of_0 (by omega)).trans (rs_boatO h hn)
    have s86 : S_X12_saysSetup_86 mBts mNum mNam mBnm mW i n s = sL i s ([112, 101, 114, 115, 111, 110, 32] ++ nmL (mNam n).toNatClampNeg) := by
      unfold S_X12_saysSetup_86 S_X12_saysSetup_75 S_X12_saysSetup_69
      rw [show (S_X12_saysSetup_2 i).2.2 = i from rfl, nI_clamp (by omega), n2, show ∀ u : Int32 × Int32, f_X12_saysWord u.2 i u.1 542723566 = sL i u [112, 101, 114, 115, 111, 110] from fun u => kw_person u.2 i u.1, show ∀ u : Int32 × Int32, f_X12_says u.2 i u.1 32 = sL i u [32] from fun u => sL_1 i u 32, show ∀ u : Int32 × Int32, f_X12_saysWord u.2 i u.1 (nI (mNam n).toNatClampNeg).toInt64 = sL i u (nmL (mNam n).toNatClampNeg) from fun u => says_name n3 i u.2 u.1, sL_app, sL_app, nI_clamp (by omega)]
      rfl
    have j95 : J_X12_saysSetup_95 mBts mNum mNam mBnm mW i n s = sL i s ([112, 101, 114, 115, 111, 110, 32] ++ nmL (mNam n).toNatClampNeg ++ ofL mBnm (boatO n)) := by
      unfold J_X12_saysSetup_95 S_X12_saysSetup_130 S_X12_saysSetup_114 S_X12_saysSetup_108 S_X12_saysSetup_101 ofL
      rw [show (S_X12_saysSetup_2 i).2.2 = i from rfl, s86, e0]
      rcases (h.2.1 n hn).1.2 with z | z
      · rw [if_pos (by rw [z]; decide), if_pos z, List.append_nil]
      · obtain ⟨e, he⟩ := vin_nI z
        obtain ⟨m1, m2, m3⟩ := su_bname hs he
        have hne : ¬ boatO n = -2 := fun w => by
          rw [w] at z
          exact z (Or.inl (by decide))
        rw [if_neg (fun w => z (Or.inl w)), if_neg hne, m2, show ∀ u : Int32 × Int32, f_X12_says u.2 i u.1 32 = sL i u [32] from fun u => sL_1 i u 32, show ∀ u : Int32 × Int32, f_X12_saysWord u.2 i u.1 486 = sL i u [111, 102] from fun u => kw_of u.2 i u.1, show ∀ u : Int32 × Int32, f_X12_says u.2 i u.1 32 = sL i u [32] from fun u => sL_1 i u 32, show ∀ u : Int32 × Int32, f_X12_saysWord u.2 i u.1 (nI (mBnm (boatO n).toNatClampNeg).toNatClampNeg).toInt64 = sL i u (nmL (mBnm (boatO n).toNatClampNeg).toNatClampNeg) from fun u => says_name m3 i u.2 u.1, sL_app, sL_app, sL_app, sL_app, nI_clamp (by omega)]
        refine (show ∀ p : Int32 × Int32, (p.1, p.2) = p from fun _ => rfl) _ |>.trans ?_
        refine congrArg (sL i s) ?_
        simp only [List.append_assoc, List.cons_append, List.nil_append]
    unfold G_X12_saysSetup_57 S_X12_saysSetup_136
    rw [show (S_X12_saysSetup_2 i).2.2 = i from rfl, j95, show ∀ u : Int32 × Int32, f_X12_says u.2 i u.1 59 = sL i u [59] from fun u => sL_1 i u 59, sL_app]
    refine (show ∀ p : Int32 × Int32, (p.1, p.2) = p from fun _ => rfl) _ |>.trans ?_
    refine congrArg (sL i s) ?_
    unfold peL
    simp only [List.append_assoc])
  have cB : mBts.toNatClampNeg = B := by rw [hs.2.2.2.1, nI_clamp (by omega)]
  have cP : mPpl.toNatClampNeg = P := by rw [hs.2.1, nI_clamp (by omega)]
  unfold f_X12_saysSetup
  rw [cP, l57 P (Nat.le_refl _), cB, l11 B (Nat.le_refl _), s6, sL_app, sL_app]
  exact ⟨rfl, rfl⟩
theorem eq_setupLength (h : RSt N P B Q day votes isOpen baskets lays recs fneed clos boatO seaO faultO daysO backB sailB plc car bnd bsk dyL rsn pastF pastN logF logN mW) (hs : RSu P B Q nums bNames pNames fBoats nB nP mPpl mBts mNum mNam mFst mBnm) (h0 : ¬ txl < 0) : (f_X11_setupLength nums bNames pNames nB nP boatO tx txl).1 = (f_X12_setupLength mPpl mBts mNum mNam mBnm mW).1 ∧ ¬ (f_X11_setupLength nums bNames pNames nB nP boatO tx txl).2.2 < 0 := by
  obtain ⟨k1, k2⟩ := suL_ok (mNum := mNum) (mNam := mNam) (mBnm := mBnm) (boatO := boatO) (su_P hs) hs.2.2.2.2.2.1
  unfold f_X11_setupLength S_X11_setupLength_15 f_X12_setupLength S_X12_setupLength_2
  rw [x_setup h hs, (m_setup h hs).2]
  exact ⟨txt_len h0 k1 k2, aL_nn h0 k1 k2⟩
theorem eq_setupByte (h : RSt N P B Q day votes isOpen baskets lays recs fneed clos boatO seaO faultO daysO backB sailB plc car bnd bsk dyL rsn pastF pastN logF logN mW) (hs : RSu P B Q nums bNames pNames fBoats nB nP mPpl mBts mNum mNam mFst mBnm) (h0 : ¬ txl < 0) (x : Int32) (mOuts mWant mFnd : Int32) : (f_X11_setupByte nums bNames pNames nB nP boatO tx txl x).1 = (f_X12_setupByte mPpl mBts mOuts mWant mFnd mNum mNam mBnm mW x).1 ∧ ¬ (f_X11_setupByte nums bNames pNames nB nP boatO tx txl x).2.2 < 0 := by
  obtain ⟨k1, k2⟩ := suL_ok (mNum := mNum) (mNam := mNam) (mBnm := mBnm) (boatO := boatO) (su_P hs) hs.2.2.2.2.2.1
  unfold f_X11_setupByte S_X11_setupByte_23 f_X12_setupByte S_X12_setupByte_8
  by_cases q : 0 ≤ x
  · simp only [if_pos q]
    rw [x_setup h hs, (m_setup h hs).1]
    exact ⟨txt_byte h0 q k1 k2, aL_nn h0 k1 k2⟩
  · simp only [if_neg q]
    exact ⟨trivial, h0⟩
end TX3
