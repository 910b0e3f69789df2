/-! the calls: k the number of the exception (0: none), r the answer, u the new state -/
abbrev tn (v : Int32) : Nat := v.toNatClampNeg
theorem tn_nI {j : Nat} (h : j < 2 ^ 31) : (nI j).toNatClampNeg = j := nI_clamp h
theorem sIn_nat {v x : Int32} {n : Nat} (hx : x = nI n) (hn : n ≤ 1000) (h : sIn v 0 (x - 1) = true) : ∃ j : Nat, j < n ∧ v = nI j := by
  subst hx
  simp only [sIn, Bool.and_eq_true, decide_eq_true_eq] at h
  obtain ⟨h1, h2⟩ := h
  obtain ⟨j, hj, rfl⟩ := nI_of (lt_nle_of h1)
  refine ⟨j, ?_, rfl⟩
  rw [Int32.le_iff_toInt_le, nI_toInt hj, show (nI n - 1 : Int32) = nI n - nI 1 from rfl, pk_sub_toInt (by omega) (by omega)] at h2
  omega
theorem sIn_lit {v m : Int32} {n : Nat} (hm : m.toInt = n) (h : sIn v 0 m = true) : ∃ j : Nat, j ≤ n ∧ v = nI j := by
  simp only [sIn, Bool.and_eq_true, decide_eq_true_eq] at h
  exact nI_of2 hm (lt_nle_of h.1) h.2
def kAct (S : St) (a b c d : Int32) : Int32 := if sIn a 1 255 && (sIn b 0 255 && (sIn c 1 255 && sIn d 0 5000)) then (if S 2 0 = 6 then 2 else 0) else 1
def rAct (S : St) : Int32 := S 2 0
def uAct (a b c d : Int32) (S : St) : St := sU (sU (sU (sU (sU S 3 (cnt S 2) a) 4 (cnt S 2) b) 5 (cnt S 2) c) 6 (cnt S 2) d) 2 0 (S 2 0 + 1)
def kSpc (S : St) (a b : Int32) : Int32 := if sIn a 0 (S 2 0 - 1) && sIn b 0 (S 2 0 - 1) then (if a = b then 2 else if uReach (tn b) S 8 (tn a) = 0 then 0 else 3) else 1
def rSpc (S : St) (a b : Int32) : Int32 := bI (decide (S 7 (6 * tn a + tn b) = 0))
def uSpc (a b : Int32) (S : St) : St := sU S 7 (6 * tn a + tn b) 1
def sSpc (S : St) (a b : Int32) : St := if sIn a 0 (S 2 0 - 1) && sIn b 0 (S 2 0 - 1) then (if a = b then S else uReach (tn b) S) else S
def kStd (S : St) (h f : Int32) : Int32 := if sIn h 1 255 && sIn f 0 5000 then (if S 9 0 = 12 then 2 else 0) else 1
def rStd (S : St) : Int32 := S 9 0
def uStd (h f : Int32) (S : St) : St := sU (sU (sU (sU S 10 (cnt S 9) h) 11 (cnt S 9) f) 12 (cnt S 9) 1000000) 9 0 (S 9 0 + 1)
def kWd (S : St) (v d : Int32) : Int32 := if sIn v 0 (S 9 0 - 1) then (if sIn d (S 1 0) 5000 then 0 else 2) else 1
def rWd (S : St) (v : Int32) : Int32 := unt S (tn v)
def uWd (v d : Int32) (S : St) : St := sU S 12 (tn v) d
def kRs (S : St) (v h : Int32) : Int32 := if sIn v 0 (S 9 0 - 1) then (if sIn h 1 255 then 0 else 2) else 1
def rRs (S : St) (v h : Int32) : Int32 := S 10 (tn v) &&& (h ^^^ (-1))
def uRs (v h : Int32) (S : St) : St := sU S 10 (tn v) (S 10 (tn v) &&& (h ^^^ (-1)))
def kPr (S : St) (f : Int32) : Int32 := if sIn f 1 255 then (if S 13 0 = 10 then 2 else 0) else 1
def rPr (S : St) : Int32 := S 13 0
def uPr (f : Int32) (S : St) : St := sU (sU (sU (sU (sU (sU S 14 (cnt S 13) f) 20 (cnt S 13) (-1)) 21 (cnt S 13) (-1)) 22 (cnt S 13) (-1)) 23 (cnt S 13) (-1)) 13 0 (S 13 0 + 1)
def kCh (S : St) (v f : Int32) : Int32 := if sIn v 0 (S 13 0 - 1) then (if sIn f 1 255 then 0 else 2) else 1
def uCh (v f : Int32) (S : St) : St := if S 14 (tn v) = f then S else uNext (tn v) (sU S 14 (tn v) f)
def rCh (S : St) (v f : Int32) : Int32 := uCh v f S 15 (tn v)
def kRk (S : St) (v z b a : Int32) : Int32 := if sIn v 0 (S 13 0 - 1) && sIn z 0 7 then (if sIn b 0 9 && sIn a 0 b then 0 else 2) else 1
def uRk (v z b a : Int32) (S : St) : St := sU (sU (if b ≤ S 16 (8 * tn v + tn z) ∧ a ≤ S 17 (8 * tn v + tn z) then S else uNext (tn v) S) 16 (8 * tn v + tn z) b) 17 (8 * tn v + tn z) a
def rRk (S : St) (v z b a : Int32) : Int32 := uRk v z b a S 15 (tn v)
def kFo (S : St) (v t h : Int32) : Int32 := if sIn v 0 (S 13 0 - 1) && sIn t 0 (S 9 0 - 1) then (if sIn h 0 255 then 0 else 2) else 1
def rFo (S : St) (v t : Int32) : Int32 := S 18 (12 * tn v + tn t)
def uFo (v t h : Int32) (S : St) : St := sU S 18 (12 * tn v + tn t) h
def kPv (S : St) (v h : Int32) : Int32 := if sIn v 0 (S 13 0 - 1) then (if sIn h 1 255 then 0 else 2) else 1
def rPv (S : St) (v h : Int32) : Int32 := S 19 (tn v) ||| h
def uPv (v h : Int32) (S : St) : St := sU S 19 (tn v) (S 19 (tn v) ||| h)
def kDc (S : St) (v : Int32) : Int32 := if sIn v 0 (S 13 0 - 1) then (if sWant S (tn v) - sWant S (tn v) / 6 * 6 = 0 then 0 else 2) else 1
def rDc (S : St) : Int32 := S 1 0
def uDc (v : Int32) (S : St) : St := sU S 23 (tn v) (S 1 0)
def kBo (S : St) (q : Int32) : Int32 := if sIn q 1 63 then (if S 25 0 = 5 then 2 else 0) else 1
def rBo (S : St) : Int32 := S 25 0
def uBo (q : Int32) (S : St) : St := sU (sU (sU S 26 (cnt S 25) q) 27 (cnt S 25) (-1)) 25 0 (S 25 0 + 1)
def kSu (S : St) (v : Int32) : Int32 := if sIn v 0 (S 25 0 - 1) then 0 else 1
def rSu (S : St) (v : Int32) : Int32 := bI (decide (¬ S 27 (tn v) = -1))
def uSu (v : Int32) (q : Bool) (S : St) : St := sU S 27 (tn v) (if q then (if S 27 (tn v) = -1 then S 1 0 else S 27 (tn v)) else -1)
def kCe (S : St) (b v d : Int32) : Int32 := if sIn b 0 (S 25 0 - 1) && sIn v 0 (S 13 0 - 1) then (if sIn d 1 1000 then (if S 27 (tn b) = -1 ∧ sScope S (tn b) (tn v) = true ∧ sIn (sWant S (tn v)) 1 3 = false then 0 else 3) else 2) else 1
def rCe (S : St) (d : Int32) : Int32 := S 1 0 + d
def uCe (b v d : Int32) (S : St) : St := sU (sU S 20 (tn v) b) 21 (tn v) (S 1 0 + d)
def kTr (S : St) (v b : Int32) : Int32 := if sIn v 0 (S 13 0 - 1) && sIn b 0 (S 25 0 - 1) then (if ¬ S 20 (tn v) = -1 ∧ ¬ S 20 (tn v) = b ∧ S 27 (tn b) = -1 ∧ sScope S (tn b) (tn v) = true then 0 else 2) else 1
def rTr (S : St) (v : Int32) : Int32 := S 20 (tn v)
def uTr (v b : Int32) (S : St) : St := sU S 20 (tn v) b
def kVi (S : St) (v : Int32) : Int32 := if sIn v 0 (S 13 0 - 1) then 0 else 1
def eVi (S : St) (v : Int32) (q : Bool) : Bool := !q && decide (¬ S 20 (tn v) = -1)
def rVi (S : St) (v : Int32) (q : Bool) : Int32 := bI (eVi S v q)
def uVi (v : Int32) (q : Bool) (S : St) : St := sU (sU (sU S 22 (tn v) (if q then S 1 0 else S 22 (tn v))) 20 (tn v) (if eVi S v q then -1 else S 20 (tn v))) 21 (tn v) (if eVi S v q then -1 else S 21 (tn v))
def kPl (S : St) (v m : Int32) : Int32 := if sIn v 0 (S 13 0 - 1) then (if sIn m 1 10000 then (if sWant S (tn v) = 0 ∧ ¬ S 28 0 = 40 then 0 else 3) else 2) else 1
def rPl (S : St) : Int32 := S 28 0
def uPl (v m : Int32) (S : St) : St := uArr (tn v) m 0 S
def kPo (S : St) (v m : Int32) : Int32 := if sIn v 0 (S 13 0 - 1) then (if sIn m 1 10000 then (if S 28 0 = 40 then 3 else 0) else 2) else 1
def uPo (v m : Int32) (S : St) : St := uArr (tn v) m (sWant S (tn v)) S
def kSa (S : St) (v m t d : Int32) : Int32 := if sIn v 0 (S 28 0 - 1) then (if sIn m 0 100000 && (sIn t 0 100000 && sIn d 0 10000) then 0 else 2) else 1
def rSa (m t d : Int32) : Int32 := if m - d ≤ t then (if m + d ≤ t then 0 else 1) else 2
def uSa (v m t d : Int32) (S : St) : St := sU S 35 (tn v) (rSa m t d)
def kEv (S : St) (v g h : Int32) : Int32 := if sIn v 0 (S 28 0 - 1) then (if sIn g 0 3 && sIn h 1 1000 then 0 else 2) else 1
def uEv (v g h : Int32) (S : St) : St := sU (sU S 36 (tn v) (if g ≤ S 36 (tn v) then S 36 (tn v) else g)) 37 (tn v) (S 37 (tn v) + h)
def rEv (S : St) (v g h : Int32) : Int32 := sLevel (uEv v g h S) (tn v)
def rcF (S : St) (v : Int32) (k : Nat) : Bool := decide (S 29 k = v) && decide (S 34 k = 0)
def rcU (S : St) (v : Int32) (a : Nat) : Nat → St
  | 0 => S
  | c + 1 => sU (rcU S v a c) 34 (a + c) (if rcF (rcU S v a c) v (a + c) then 1 else rcU S v a c 34 (a + c))
def rcT (S : St) (v : Int32) (a : Nat) : Nat → Int32
  | 0 => 0
  | c + 1 => rcT S v a c + (if rcF (rcU S v a c) v (a + c) then rcU S v a c 30 (a + c) else 0)
def kRc (S : St) (v a b : Int32) : Int32 := if sIn v 0 (S 13 0 - 1) && (sIn a 0 (S 28 0 - 1) && sIn b 0 (S 28 0 - 1)) then (if a ≤ b then 0 else 2) else 1
def rRc (S : St) (v a b : Int32) : Int32 := rcT S v (tn a) (tn b + 1 - tn a)
def uRc (v a b : Int32) (S : St) : St := rcU S v (tn a) (tn b + 1 - tn a)
def kBa (S : St) (w v : Int32) : Int32 := if sIn w 0 4 && sIn v 0 (S 13 0 - 1) then 0 else 1
def nBa (S : St) (w v : Int32) (q : Bool) : Int32 := if q then S 24 (tn v) ||| ((1 : Int32) <<< (w &&& 31)) else S 24 (tn v) &&& (((1 : Int32) <<< (w &&& 31)) ^^^ (-1))
def rBa (S : St) (w v : Int32) (q : Bool) : Int32 := sBits (nBa S w v q)
def uBa (w v : Int32) (q : Bool) (S : St) : St := sU S 24 (tn v) (nBa S w v q)
def kPa (S : St) (d : Int32) : Int32 := if sIn d 1 500 then (if S 1 0 + d ≤ 5000 then 0 else 2) else 1
def rPa (S : St) (d : Int32) : Int32 := S 1 0 + d
def uPa (d : Int32) (S : St) : St := sU S 1 0 (S 1 0 + d)
def kAp (S : St) (a v : Int32) : Int32 := if sIn a 0 (S 2 0 - 1) && sIn v 0 (S 13 0 - 1) then 0 else 1
def rAp (S : St) (a v : Int32) : Int32 := bI (sApp S (tn a) (tn v))
def kQp (S : St) (v : Int32) : Int32 := if sIn v 0 (S 13 0 - 1) then 0 else 1
def rDm (S : St) (v : Int32) (q : Bool) : Int32 := if q then sKept S (tn v) else sDem S (tn v)
def rWy (S : St) (v : Int32) : Int32 := sWay S (tn v)
def rWt (S : St) (v : Int32) : Int32 := sWant S (tn v)
def kPO (S : St) (v w : Int32) : Int32 := if sIn v 0 (S 13 0 - 1) then (if sIn w 0 6 then 0 else 2) else 1
def rPO (S : St) (v w : Int32) : Int32 := if w = 0 then S 14 (tn v) else if w = 1 then S 15 (tn v) else if w = 2 then S 20 (tn v) else if w = 3 then S 21 (tn v) else if w = 4 then S 22 (tn v) else if w = 5 then S 23 (tn v) else sMk S (tn v)
def kRO (S : St) (v z : Int32) : Int32 := if sIn v 0 (S 13 0 - 1) && sIn z 0 7 then 0 else 1
def rRO (S : St) (v z : Int32) (q : Bool) : Int32 := if q then S 17 (8 * tn v + tn z) else S 16 (8 * tn v + tn z)
def kBO (S : St) (v w : Int32) : Int32 := if sIn v 0 (S 28 0 - 1) then (if sIn w 0 8 then 0 else 2) else 1
def rBO (S : St) (v w : Int32) : Int32 := if w = 0 then S 29 (tn v) else if w = 1 then S 30 (tn v) else if w = 2 then S 31 (tn v) else if w = 3 then S 32 (tn v) else if w = 4 then S 33 (tn v) else if w = 5 then S 34 (tn v) else if w = 6 then S 35 (tn v) else if w = 7 then sLevel S (tn v) else S 37 (tn v)
def kWn (S : St) (v : Int32) : Int32 := if sIn v 0 (S 28 0 - 1) then 0 else 1
def rWn (S : St) (v : Int32) : Int32 := S 33 (tn v)
/-- what holds of the state after n calls -/
def INV (n : Nat) (S : St) : Prop :=
  CN S 2 6 ∧ CN S 9 12 ∧ CN S 13 10 ∧ CN S 25 5 ∧ CN S 28 40 ∧ B01 S 7 ∧ B01 S 8 ∧ (∀ p, p < cnt S 13 → BO S p) ∧ (∀ b, b < cnt S 28 → 1 ≤ (S 30 b).toInt ∧ (S 30 b).toInt ≤ 10000) ∧
  (∀ b, b < cnt S 28 → 0 ≤ (S 37 b).toInt ∧ (S 37 b).toInt ≤ 1000 * n) ∧
  (0 ≤ (S 1 0).toInt ∧ (S 1 0).toInt ≤ 5000) ∧ (∀ k a, k < 6 → a < 6 → (cnt S 2 ≤ k ∨ cnt S 2 ≤ a) → S 7 (6 * k + a) = 0) ∧ (∀ i, i < cnt S 2 → 0 ≤ (S 5 i).toInt ∧ (S 5 i).toInt ≤ 255) ∧
  (∀ i, i < cnt S 9 → S 12 i = 1000000 ∨ (0 ≤ (S 12 i).toInt ∧ (S 12 i).toInt ≤ 5000)) ∧ (∀ p, p < cnt S 13 → S 20 p = -1 → S 21 p = -1) ∧
  (∀ p, cnt S 13 ≤ p → p < 10 → S 15 p = 0 ∧ S 19 p = 0 ∧ S 24 p = 0 ∧ (∀ j, j < 8 → S 16 (8 * p + j) = 0 ∧ S 17 (8 * p + j) = 0) ∧ ∀ j, j < 12 → S 18 (12 * p + j) = 0) ∧
  (∀ p, p < cnt S 13 → 0 ≤ (S 24 p).toInt ∧ (S 24 p).toInt ≤ 31) ∧ (∀ p j, p < cnt S 13 → j < 8 → 0 ≤ (S 16 (8 * p + j)).toInt ∧ (S 16 (8 * p + j)).toInt ≤ 9 ∧ 0 ≤ (S 17 (8 * p + j)).toInt ∧ (S 17 (8 * p + j)).toInt ≤ 9) ∧
  (∀ b, cnt S 28 ≤ b → b < 40 → S 34 b = 0 ∧ S 36 b = 0 ∧ S 37 b = 0)
theorem ne0_of_toInt {x : Int32} (h : 1 ≤ x.toInt) : ¬ x = 0 := fun z => by rw [z, Int32.toInt_zero] at h; omega
theorem uReach_ne {S : St} {a g : Nat} (hg : g ≠ 8) : uReach a S g = S g := by
  have h1 : ∀ (T : St) n, aI T a n g = T g := fun T n => by
    induction n with
    | zero => rfl
    | succ n ih => exact (sU_ne hg).trans ih
  have h2 : ∀ (T : St) k n, jL T k n g = T g := fun T k n => by
    induction n with
    | zero => rfl
    | succ n ih => exact (sU_ne hg).trans ih
  have h3 : ∀ (T : St) n, kL T n g = T g := fun T n => by
    induction n with
    | zero => rfl
    | succ n ih => exact (h2 _ _ _).trans ih
  have h4 : ∀ (T : St) n, rL T n g = T g := fun T n => by
    induction n with
    | zero => rfl
    | succ n ih => exact (h3 _ _).trans ih
  exact (h4 _ _).trans (h1 _ _)
theorem sFor_0 (S : St) (w : Int32) (a o : Nat) : sFor (sU S 0 0 w) a o = sFor S a o := rfl
theorem pApp_0 (S : St) (w : Int32) (a o : Nat) : pApp (sU S 0 0 w) a o = pApp S a o := rfl
theorem sApp_0 (S : St) (w : Int32) (a o : Nat) : sApp (sU S 0 0 w) a o = sApp S a o := by
  unfold sApp; rw [pApp_0, sFor_0]; rfl
theorem sAppl_0 (S : St) (w : Int32) (o : Nat) : sAppl (sU S 0 0 w) o = sAppl S o := by
  unfold sAppl; rw [show fAppl (sU S 0 0 w) o = fAppl S o from funext fun k => by unfold fAppl; rw [sApp_0]]; rfl
theorem sAsks_0 (S : St) (w : Int32) (o : Nat) : sAsks (sU S 0 0 w) o = sAsks S o := by
  unfold sAsks; rw [show fAsks (sU S 0 0 w) o = fAsks S o from funext fun k => by unfold fAsks; rw [sApp_0]; rfl]; rfl
theorem sDem_0 (S : St) (w : Int32) (o : Nat) : sDem (sU S 0 0 w) o = sDem S o := by
  unfold sDem; rw [sAsks_0]; rfl
theorem sLow_0 (S : St) (w : Int32) (o : Nat) : sLow (sU S 0 0 w) o = sLow S o := by
  unfold sLow; rw [sDem_0]; rfl
theorem sShown_0 (S : St) (w : Int32) (o : Nat) : sShown (sU S 0 0 w) o = sShown S o := rfl
theorem sKept_0 (S : St) (w : Int32) (o : Nat) : sKept (sU S 0 0 w) o = sKept S o := by
  unfold sKept; rw [sLow_0, sShown_0]
theorem sRisk_0 (S : St) (w : Int32) (o h : Nat) : sRisk (sU S 0 0 w) o h = sRisk S o h := by
  unfold sRisk; rw [sDem_0]; rfl
theorem sMost_0 (S : St) (w : Int32) (o : Nat) : ∀ n, sMost (sU S 0 0 w) o n = sMost S o n
  | 0 => rfl
  | n + 1 => by unfold sMost; rw [sRisk_0, sMost_0 S w o n]
theorem sWay_0 (S : St) (w : Int32) (o : Nat) : sWay (sU S 0 0 w) o = sWay S o := by
  unfold sWay; rw [sMost_0]
theorem sScope_0 (S : St) (w : Int32) (b o : Nat) : sScope (sU S 0 0 w) b o = sScope S b o := by
  unfold sScope; rw [sAppl_0]; rfl
theorem sHolds_0 (S : St) (w : Int32) (o : Nat) : sHolds (sU S 0 0 w) o = sHolds S o := by
  unfold sHolds; rw [sScope_0]; rfl
theorem sWant_0 (S : St) (w : Int32) (o : Nat) : sWant (sU S 0 0 w) o = sWant S o := by
  unfold sWant; rw [sLow_0, sDem_0, sKept_0, sWay_0, sHolds_0]; rfl
theorem sMk_0 (S : St) (w : Int32) (o : Nat) : sMk (sU S 0 0 w) o = sMk S o := rfl
theorem mR_0 (r : Int32) : mR 0 r = r := if_pos rfl
theorem mR_n {c : Int32} (h : ¬ c = 0) (r : Int32) : mR c r = 0 := if_neg h
theorem mS_0 (S : St) (u : St → St) : mS 0 S u = u (sU S 0 0 0) := if_pos rfl
theorem mS_n {c : Int32} (h : ¬ c = 0) (S : St) (u : St → St) : mS c S u = sU S 0 0 c := if_neg h
