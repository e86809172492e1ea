/-! THE RELATION between what the class holds and what the reference holds. N: how many calls were made; P, B: people, boats -/
/-- the numbers of the latest vote and the day -/
def RSc (N Q : Nat) (day votes isOpen baskets lays recs fneed clos : Int32) (mW : Nat → Int32) : Prop :=
  (mW 0 = day ∧ vp_in day (99 * N + 1)) ∧ (mW 1 = votes ∧ vp_in votes (N + 1)) ∧ (mW 2 = b2i (tb isOpen) ∧ (tb isOpen = true → ¬ votes = 0)) ∧ (mW 3 = baskets ∧ vp_in baskets 5) ∧ (mW 7 = lays ∧ vp_in lays (N + 1) ∧ (votes = 0 → lays = 0)) ∧ (mW 6 = recs ∧ vp_in recs Q) ∧ (tb isOpen = false → mW 4 = fneed ∧ mW 5 = clos ∧ vp_in clos (99 * N + 1))
/-- one of the people -/
def RPe (N P B : Nat) (votes : Int32) (boatO seaO faultO daysO backB plc car bnd bsk dyL rsn : Nat → Int32) (mW : Nat → Int32) (p : Nat) : Prop :=
  (mW (9 + 11 * p) = boatO p ∧ (boatO p = -2 ∨ vp_in (boatO p) B)) ∧
  ((seaO p = 0 ∧ mW (9 + 11 * p + 1) = -2) ∨ (¬ seaO p = 0 ∧ mW (9 + 11 * p + 1) = boatO p ∧ vp_in (boatO p) B ∧ ¬ backB (boatO p).toNatClampNeg = 0)) ∧
  (mW (9 + 11 * p + 2) = faultO p ∧ vp_in (faultO p) 4) ∧ (mW (9 + 11 * p + 3) = daysO p ∧ vp_in (daysO p) (99 * N + 1)) ∧
  mW (9 + 11 * p + 4) = nI (cntB (fun o => (plc o == 2 || plc o == 3) && car o == nI p) P) ∧
  (mW (9 + 11 * p + 5) = plc p ∧ vp_in (plc p) 4) ∧ (mW (9 + 11 * p + 6) = car p ∧ (car p = -2 ∨ vp_in (car p) P) ∧ ¬ car p = nI p) ∧
  (plc p = 0 → car p = -2) ∧ (plc p = 1 → vp_in (car p) P) ∧
  (mW (9 + 11 * p + 7) = bnd p ∧ (bnd p = -2 ∨ vp_in (bnd p) 4)) ∧ mW (9 + 11 * p + 8) = bsk p ∧ mW (9 + 11 * p + 9) = dyL p ∧ (mW (9 + 11 * p + 10) = rsn p ∧ vp_in (rsn p) 4) ∧
  ((plc p = 0 ∨ plc p = 1) → bsk p = -2 ∧ dyL p = -2 ∧ rsn p = 0) ∧ ((plc p = 2 ∨ plc p = 3) → vp_in (bsk p) 4 ∧ ¬ votes = 0)
/-- a place behind the people -/
def RNo (boatO seaO faultO daysO plc car bsk dyL rsn : Nat → Int32) (mW : Nat → Int32) (p : Nat) : Prop := boatO p = -2 ∧ seaO p = 0 ∧ faultO p = 0 ∧ daysO p = 0 ∧ plc p = 0 ∧ car p = -2 ∧ bsk p = -2 ∧ dyL p = -2 ∧ rsn p = 0 ∧ ∀ c, c < 11 → mW (9 + 11 * p + c) = 0
/-- a boat -/
def RBo (N : Nat) (day : Int32) (backB sailB : Nat → Int32) (mW : Nat → Int32) (b : Nat) : Prop :=
  ((mW (229 + 3 * b) = 0 ∧ backB b = 0) ∨ (mW (229 + 3 * b) = 1 ∧ mW (229 + 3 * b + 1) = backB b ∧ vp_in (backB b) (198 * N + 1) ∧ day < backB b)) ∧ (mW (229 + 3 * b + 2) = sailB b ∧ vp_in (sailB b) (N + 1))
/-- a number that both sides print alike -/
def lgOk (v : Int32) : Prop := v = -1 ∨ ¬ v < 0
/-- the log: the class's ring of 30 rows, the reference's rows from the oldest on -/
def RLg (A : Nat) (logF : Nat → Int32) (logN : Int32) (mW : Nat → Int32) : Prop :=
  ∃ a : Nat, logN = nI a ∧ a ≤ A ∧ mW 8 = nI (min a 30) ∧ ∀ i c, i < min a 30 → c < 4 → mW (279 + 4 * i + c) = logF (4 * ((a - min a 30 + i) % 30) + c) ∧ lgOk (mW (279 + 4 * i + c))
/-- the earlier votes -/
def RPa (votes isOpen fneed clos : Int32) (pastF : Nat → Int32) (pastN : Int32) (mW : Nat → Int32) : Prop :=
  ∃ a v : Nat, pastN = nI a ∧ (votes = nI v ∧ v < 1048576) ∧ v = a + (bif tb isOpen then 1 else 0) ∧ (tb isOpen = false → 0 < a → pastF (4 * ((a - 1) % 8)) = clos ∧ pastF (4 * ((a - 1) % 8) + 2) = fneed) ∧ ∀ k c, k < a → a ≤ k + 8 → c < 4 → mW (247 + 4 * (k % 8) + c) = pastF (4 * (k % 8) + c)
def RSx (N P B Q : Nat) (day : Int32) (votes : Int32) (isOpen : Int32) (baskets : Int32) (lays : Int32) (recs : Int32) (fneed : Int32) (clos : Int32) (boatO : Nat → Int32) (seaO : Nat → Int32) (faultO : Nat → Int32) (daysO : Nat → Int32) (backB : Nat → Int32) (sailB : Nat → Int32) (plc : Nat → Int32) (car : Nat → Int32) (bnd : Nat → Int32) (bsk : Nat → Int32) (dyL : Nat → Int32) (rsn : Nat → Int32) (pastF : Nat → Int32) (pastN : Int32) (mW : Nat → Int32) : Prop :=
  RSc N Q day votes isOpen baskets lays recs fneed clos mW ∧ (∀ p, p < P → RPe N P B votes boatO seaO faultO daysO backB plc car bnd bsk dyL rsn mW p) ∧ (∀ p, P ≤ p → p < 20 → RNo boatO seaO faultO daysO plc car bsk dyL rsn mW p) ∧ (∀ b, b < B → RBo N day backB sailB mW b) ∧ (∀ b, B ≤ b → b < 6 → backB b = 0) ∧ RPa votes isOpen fneed clos pastF pastN mW
def RSt (N P B Q : Nat) (day : Int32) (votes : Int32) (isOpen : Int32) (baskets : Int32) (lays : Int32) (recs : Int32) (fneed : Int32) (clos : Int32) (boatO : Nat → Int32) (seaO : Nat → Int32) (faultO : Nat → Int32) (daysO : Nat → Int32) (backB : Nat → Int32) (sailB : Nat → Int32) (plc : Nat → Int32) (car : Nat → Int32) (bnd : Nat → Int32) (bsk : Nat → Int32) (dyL : Nat → Int32) (rsn : Nat → Int32) (pastF : Nat → Int32) (pastN : Int32) (logF : Nat → Int32) (logN : Int32) (mW : Nat → Int32) : Prop :=
  RSc N Q day votes isOpen baskets lays recs fneed clos mW ∧ (∀ p, p < P → RPe N P B votes boatO seaO faultO daysO backB plc car bnd bsk dyL rsn mW p) ∧ (∀ p, P ≤ p → p < 20 → RNo boatO seaO faultO daysO plc car bsk dyL rsn mW p) ∧ (∀ b, b < B → RBo N day backB sailB mW b) ∧ (∀ b, B ≤ b → b < 6 → backB b = 0) ∧ RPa votes isOpen fneed clos pastF pastN mW ∧ RLg (30 * N) logF logN mW
/-- the same of a state as one value -/
def RT (N P B Q : Nat) (t : StT) (mW : Nat → Int32) : Prop := RSt N P B Q (t.1) (t.2.1) (t.2.2.1) (t.2.2.2.1) (t.2.2.2.2.1) (t.2.2.2.2.2.1) (t.2.2.2.2.2.2.1) (t.2.2.2.2.2.2.2.1) (t.2.2.2.2.2.2.2.2.1) (t.2.2.2.2.2.2.2.2.2.1) (t.2.2.2.2.2.2.2.2.2.2.1) (t.2.2.2.2.2.2.2.2.2.2.2.1) (t.2.2.2.2.2.2.2.2.2.2.2.2.1) (t.2.2.2.2.2.2.2.2.2.2.2.2.2.1) (t.2.2.2.2.2.2.2.2.2.2.2.2.2.2.1) (t.2.2.2.2.2.2.2.2.2.2.2.2.2.2.2.1) (t.2.2.2.2.2.2.2.2.2.2.2.2.2.2.2.2.1) (t.2.2.2.2.2.2.2.2.2.2.2.2.2.2.2.2.2.1) (t.2.2.2.2.2.2.2.2.2.2.2.2.2.2.2.2.2.2.1) (t.2.2.2.2.2.2.2.2.2.2.2.2.2.2.2.2.2.2.2.1) (t.2.2.2.2.2.2.2.2.2.2.2.2.2.2.2.2.2.2.2.2.1) (t.2.2.2.2.2.2.2.2.2.2.2.2.2.2.2.2.2.2.2.2.2.1) (t.2.2.2.2.2.2.2.2.2.2.2.2.2.2.2.2.2.2.2.2.2.2.1) (t.2.2.2.2.2.2.2.2.2.2.2.2.2.2.2.2.2.2.2.2.2.2.2) mW
/-- the states that can be undone; those that are kept -/
def RHi (N P B Q : Nat) (hsN hsX : Int32) (hsF : Nat → StT) (mUs : Int32) (mUn : Nat → Int32) : Prop :=
  ∃ s x : Nat, hsN = nI s ∧ mUs = nI s ∧ hsX = nI x ∧ s ≤ 8 ∧ x < 8 ∧ ∀ i, i < s → RT N P B Q (hsF ((x + 8 - s + i) % 8)) (fun j => mUn (399 * i + j))
def RKe (N P B Q : Nat) (kpZ : Nat → Int32) (kpF : Nat → StT) (mKp mSl : Nat → Int32) : Prop :=
  ∀ s, s < 2 → (kpZ s = 0 ∧ mKp s = 0) ∨ (kpZ s = 1 ∧ mKp s = 1 ∧ RT N P B Q (kpF s) (fun j => mSl (399 * s + j)))
/-- what a setup text gives -/
def RSu (P B Q : Nat) (nums bNames pNames fBoats : Nat → Int32) (nB nP mPpl mBts : Int32) (mNum mNam mFst mBnm : Nat → Int32) : Prop :=
  nP = nI P ∧ mPpl = nI P ∧ nB = nI B ∧ mBts = nI B ∧ (2 ≤ P ∧ P ≤ 20) ∧ B ≤ 6 ∧ (∀ i, i < 10 → nums i = mNum i) ∧
  (vp_in (mNum 0) 101 ∧ ¬ mNum 0 = 0) ∧ (∀ i, i < 4 → vp_in (mNum (1 + i)) 101) ∧ vp_in (mNum 5) 10 ∧ (vp_in (mNum 6) 21 ∧ ¬ mNum 6 = 0) ∧ vp_in (mNum 7) 10 ∧ vp_in (mNum 8) 31 ∧ (vp_in (mNum 9) 4 ∧ Q = (mNum 9).toNatClampNeg + 1) ∧
  (∀ i, i < P → pNames i = mNam i ∧ vp_in (mNam i) (2 ^ 30) ∧ fBoats i = mFst i ∧ (mFst i = -2 ∨ vp_in (mFst i) B)) ∧ ∀ i, i < B → bNames i = mBnm i ∧ vp_in (mBnm i) (2 ^ 30)
def RTa (tp : Nat → Int32) (tl : Int32) (mTaped : Int32) (mTape : Nat → Int32) : Prop := tl = mTaped ∧ vp_in mTaped 801 ∧ ∀ j, j < mTaped.toNatClampNeg → tp j = mTape j
