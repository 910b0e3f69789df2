/-! what the document says, over the state -/
def bI (b : Bool) : Int32 := if b then 1 else 0
theorem bI_f {b : Bool} (h : bI b = 0) : b = false := by cases b <;> first | rfl | (revert h; decide)
theorem bI_t {b : Bool} (h : ¬ bI b = 0) : b = true := by cases b <;> first | rfl | exact absurd rfl h
theorem narrow_bI (b : Bool) : narrow .boolean (.int (bI b)) = .int (bI b) := by cases b <;> rfl
theorem lt_nle {x y : Int32} (h : x < y) : ¬ y ≤ x := Int32.not_le.mpr h
theorem lt_nle_of {x : Int32} (h : 0 ≤ x) : ¬ x < 0 := Int32.not_lt.mpr h
theorem nlt_le {x y : Int32} (h : ¬ x < y) : y ≤ x := Int32.not_lt.mp h
def sIn (v lo hi : Int32) : Bool := decide (lo ≤ v) && decide (v ≤ hi)
def allA (b : Bool) (P : Nat → Bool) : Nat → Bool
  | 0 => b
  | n + 1 => allA b P n && P n
def orA (a : Int32) (f : Nat → Int32) : Nat → Int32
  | 0 => a
  | n + 1 => orA a f n ||| f n
def anA (a : Int32) (f : Nat → Int32) : Nat → Int32
  | 0 => a
  | n + 1 => anA a f n &&& f n
def adA (a : Int32) (f : Nat → Int32) : Nat → Int32
  | 0 => a
  | n + 1 => adA a f n + f n
/-- an act is for a product by itself -/
def sFor (X : St) (a o : Nat) : Bool := decide (X 6 a ≤ X 1 0) && (decide (¬ X 3 a &&& X 14 o = 0) && decide (X 4 a &&& X 14 o = 0))
def pApp (X : St) (a o k : Nat) : Bool := !(decide (¬ X 7 (6 * k + a) = 0) && sFor X k o)
def sApp (X : St) (a o : Nat) : Bool := allA (sFor X a o) (pApp X a o) (cnt X 2)
def fAppl (X : St) (o k : Nat) : Int32 := if sApp X k o then (1 : Int32) <<< (nI k &&& 31) else 0
def sAppl (X : St) (o : Nat) : Int32 := orA 0 (fAppl X o) (cnt X 2)
def fAsks (X : St) (o k : Nat) : Int32 := if sApp X k o then X 5 k else 0
def sAsks (X : St) (o : Nat) : Int32 := orA 0 (fAsks X o) (cnt X 2)
def nbit (h : Nat) : Int32 := ((1 : Int32) <<< (nI h &&& 31)) ^^^ (-1)
def fDem (X : St) (o h : Nat) : Int32 := if X 16 (8 * o + h) = 0 then nbit h else -1
def sDem (X : St) (o : Nat) : Int32 := anA (sAsks X o) (fDem X o) 8
def fLow (X : St) (o h : Nat) : Int32 := if X 17 (8 * o + h) ≤ 4 then -1 else nbit h
def sLow (X : St) (o : Nat) : Int32 := anA (sDem X o) (fLow X o) 8
def fShown (X : St) (o k : Nat) : Int32 := if sIn (X 1 0) (X 11 k) (X 12 k) then X 18 (12 * o + k) &&& X 10 k else 0
def sShown (X : St) (o : Nat) : Int32 := orA (X 19 o) (fShown X o) (cnt X 9)
def sKept (X : St) (o : Nat) : Int32 := sLow X o &&& sShown X o
def sRisk (X : St) (o h : Nat) : Int32 := if (sDem X o >>> (nI h &&& 31)) &&& 1 = 1 then X 16 (8 * o + h) else 0
def sMost (X : St) (o : Nat) : Nat → Int32
  | 0 => 0
  | n + 1 => if sRisk X o n ≤ sMost X o n then sMost X o n else sRisk X o n
def sWay (X : St) (o : Nat) : Int32 := if sMost X o 8 ≤ 6 then (if sMost X o 8 ≤ 3 then 0 else 1) else 2
def sScope (X : St) (b o : Nat) : Bool := decide (sAppl X o &&& (X 26 b ^^^ (-1)) = 0)
def sHolds (X : St) (o : Nat) : Bool := decide (¬ X 20 o = -1) && (decide (X 1 0 ≤ X 21 o) && (sScope X (X 20 o).toNatClampNeg o && (decide (X 27 (X 20 o).toNatClampNeg = -1) || decide (X 1 0 ≤ X 27 (X 20 o).toNatClampNeg + 100))))
def fBit (x : Int32) (k : Nat) : Int32 := (x >>> (nI k &&& 31)) &&& 1
def sBits (x : Int32) : Int32 := adA 0 (fBit x) 8
def sWant (X : St) (o : Nat) : Int32 :=
  if 3 ≤ sBits (X 24 o) then 1 else if ¬ sLow X o = sDem X o then 2 else if ¬ sKept X o = sDem X o then 3
  else if ¬ sWay X o = 0 ∧ sHolds X o = false then 4 else if sWay X o = 2 ∧ (X 22 o = -1 ∨ ¬ X 1 0 ≤ X 22 o + 365) then 5
  else if ¬ sDem X o = 0 ∧ X 23 o = -1 then 6 else 0
/-- what the reference shows and keeps: c the number of the exception (0: none) -/
def mS (c : Int32) (S : St) (u : St → St) : St := if c = 0 then u (sU S 0 0 0) else sU S 0 0 c
def mR (c r : Int32) : Int32 := if c = 0 then r else 0
/-- a count and its bound -/
def CN (S : St) (f N : Nat) : Prop := S f 0 = nI (cnt S f) ∧ cnt S f ≤ N
section NR
variable {D : va_G} {tys : List (ClassId × FieldType)} {H0 : Heap} {p : Program} {l : Launch} {e : Env} {R : Room} {s : State} {m : MethodId} {args : Array Value} {below : List Frame} {meth : Method} {c : Code} {own : String} {cc : ByteArray} {nL : Nat} {ret : Option FieldType} {nm : String} {tb : List ExceptionTableEntry} {Q : State → Prop} {ad : Nat → Nat} {h : Hp} {cells slots pc : Nat} {lv lv' : List (Nat × Value)} {st : List Value}
theorem wa_iaddN (F : FX D tys H0 p l s m args meth c own cc nL ret nm tb) {x y : Int32} {a b : Nat} (d : decode cc pc = .ok (.iadd, 1)) (hx : x = nI a) (hy : y = nI b)
    (K : WA D H0 p l e R s m args below meth c nL Q ad h cells slots (pc + 1) lv (.int (nI (a + b)) :: st)) : WA D H0 p l e R s m args below meth c nL Q ad h cells slots pc lv (.int y :: .int x :: st) := by
  subst hx; subst hy
  refine wa_iadd F d ?_
  rw [nI_add]; exact K
theorem wa_imulN (F : FX D tys H0 p l s m args meth c own cc nL ret nm tb) {x y : Int32} {a b : Nat} (d : decode cc pc = .ok (.imul, 1)) (hx : x = nI a) (hy : y = nI b)
    (K : WA D H0 p l e R s m args below meth c nL Q ad h cells slots (pc + 1) lv (.int (nI (a * b)) :: st)) : WA D H0 p l e R s m args below meth c nL Q ad h cells slots pc lv (.int y :: .int x :: st) := by
  subst hx; subst hy
  refine wa_imul F d ?_
  rw [pk_mul]; exact K
end NR
/-! the reference's helpers that write -/
def zF (S : St) (f b : Nat) : Nat → St
  | 0 => S
  | k + 1 => sU (zF S f b k) f (b + k) 0
def uNext (o : Nat) (S : St) : St := sU (sU (sU (sU (sU (zF (sU S 15 o (S 15 o + 1)) 18 (12 * o) 12) 19 o 0) 20 o (-1)) 21 o (-1)) 22 o (-1)) 23 o (-1)
def sShare (X : St) (b : Nat) : Int32 := X 37 b * 1000 / X 30 b
def sLevel (X : St) (b : Nat) : Int32 := X 36 b + (if 50 ≤ sShare X b then 2 else if 10 ≤ sShare X b then 1 else 0) + (if X 35 b = 2 then 1 else 0)
def fMk (X : St) (o k : Nat) : Int32 := if X 29 k = nI o then (if X 34 k = 0 then X 30 k else 0) else 0
def sMk (X : St) (o : Nat) : Int32 := adA 0 (fMk X o) (cnt X 28)
def uArr (o : Nat) (m w : Int32) (S : St) : St := sU (sU (sU (sU (sU (sU (sU S 29 (cnt S 28) (nI o)) 30 (cnt S 28) m) 31 (cnt S 28) (S 1 0)) 32 (cnt S 28) (S 15 o)) 33 (cnt S 28) w) 35 (cnt S 28) (-1)) 28 0 (S 28 0 + 1)
/-- what is reached, kept in field 8 -/
def aI (S : St) (a : Nat) : Nat → St
  | 0 => S
  | k + 1 => sU (aI S a k) 8 k (aI S a k 7 (6 * a + k))
def bV (S : St) (k j : Nat) : Int32 := bI (decide (¬ S 8 j = 0) || (decide (¬ S 8 k = 0) && decide (¬ S 7 (6 * k + j) = 0)))
def jL (S : St) (k : Nat) : Nat → St
  | 0 => S
  | j + 1 => sU (jL S k j) 8 j (bV (jL S k j) k j)
def kL (S : St) : Nat → St
  | 0 => S
  | k + 1 => jL (kL S k) k 6
def rL (S : St) : Nat → St
  | 0 => S
  | r + 1 => kL (rL S r) 6
def uReach (a : Nat) (S : St) : St := rL (aI S a 6) 6
theorem nar01 {x : Int32} (h : x = 0 ∨ x = 1) : narrow .boolean (.int x) = .int x := by rcases h with rfl | rfl <;> rfl
def B01 (S : St) (f : Nat) : Prop := ∀ j, S f j = 0 ∨ S f j = 1
theorem B01.up {S : St} {f : Nat} (h : B01 S f) (i : Nat) {v : Int32} (hv : v = 0 ∨ v = 1) : B01 (sU S f i v) f := by
  intro j
  unfold sU upd
  rw [if_pos rfl]
  by_cases hj : j = i
  · rw [if_pos hj]; exact hv
  · rw [if_neg hj]; exact h j
theorem bI_01 (b : Bool) : bI b = 0 ∨ bI b = 1 := by cases b <;> first | exact Or.inl rfl | exact Or.inr rfl
theorem sU_ne {S : St} {f g i : Nat} {v : Int32} (h : g ≠ f) : sU S f i v g = S g := if_neg h
theorem aI_7 (S : St) (a : Nat) : ∀ n, aI S a n 7 = S 7
  | 0 => rfl
  | n + 1 => (sU_ne (by decide)).trans (aI_7 S a n)
theorem B01.aI7 {S : St} (h7 : B01 S 7) (a n : Nat) : B01 (aI S a n) 7 := fun j => by rw [aI_7]; exact h7 j
theorem B01.aI {S : St} (h7 : B01 S 7) (h8 : B01 S 8) (a : Nat) : ∀ n, B01 (aI S a n) 8
  | 0 => h8
  | n + 1 => (B01.aI h7 h8 a n).up n (B01.aI7 h7 a n _)
theorem B01.jL {S : St} (h8 : B01 S 8) (k : Nat) : ∀ n, B01 (jL S k n) 8
  | 0 => h8
  | n + 1 => (B01.jL h8 k n).up n (bI_01 _)
theorem B01.kL {S : St} (h8 : B01 S 8) : ∀ n, B01 (kL S n) 8
  | 0 => h8
  | n + 1 => (B01.kL h8 n).jL n 6
theorem B01.rL {S : St} (h8 : B01 S 8) : ∀ n, B01 (rL S n) 8
  | 0 => h8
  | n + 1 => (B01.rL h8 n).kL 6
/-- the body of a product's certificate -/
def BO (S : St) (p : Nat) : Prop := S 20 p = -1 ∨ (S 20 p = nI (S 20 p).toNatClampNeg ∧ (S 20 p).toNatClampNeg < cnt S 25)
theorem aI_s (S : St) (a k : Nat) : aI S a (k + 1) = sU (aI S a k) 8 k (aI S a k 7 (6 * a + k)) := rfl
theorem kL_s (S : St) (k : Nat) : kL S (k + 1) = jL (kL S k) k 6 := rfl
theorem rL_s (S : St) (r : Nat) : rL S (r + 1) = kL (rL S r) 6 := rfl
theorem zF_s (S : St) (f b k : Nat) : zF S f b (k + 1) = sU (zF S f b k) f (b + k) 0 := rfl
theorem jL_0 (S : St) (k : Nat) : jL S k 0 = S := rfl
theorem kL_0 (S : St) : kL S 0 = S := rfl
theorem rL_0 (S : St) : rL S 0 = S := rfl
theorem aI_0 (S : St) (a : Nat) : aI S a 0 = S := rfl
theorem zF_0 (S : St) (f b : Nat) : zF S f b 0 = S := rfl
