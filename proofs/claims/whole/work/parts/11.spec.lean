/-! what the document says, over the state -/
def bI (b : Bool) : Int32 := if b then 1 else 0
theorem bI_f {b : Bool} (h : bI b = 0) : b = false := by cases b <;> first | rfl | (revert h; decide)
theorem bI_t {b : Bool} (h : ¬ bI b = 0) : b = true := by cases b <;> first | rfl | exact absurd rfl h
theorem narrow_bI (b : Bool) : narrow .boolean (.int (bI b)) = .int (bI b) := by cases b <;> rfl
theorem lt_nle {x y : Int32} (h : x < y) : ¬ y ≤ x := Int32.not_le.mpr h
theorem nlt_le {x y : Int32} (h : ¬ x < y) : y ≤ x := Int32.not_lt.mp h
def sIn (v lo hi : Int32) : Bool := decide (lo ≤ v) && decide (v ≤ hi)
def allA (b : Bool) (P : Nat → Bool) : Nat → Bool
  | 0 => b
  | n + 1 => allA b P n && P n
def orA (a : Int32) (f : Nat → Int32) : Nat → Int32
  | 0 => a
  | n + 1 => orA a f n ||| f n
def anA (a : Int32) (f : Nat → Int32) : Nat → Int32
  | 0 => a
  | n + 1 => anA a f n &&& f n
def adA (a : Int32) (f : Nat → Int32) : Nat → Int32
  | 0 => a
  | n + 1 => adA a f n + f n
/-- an act is for a product by itself -/
def sFor (X : St) (a o : Nat) : Bool := decide (X 6 a ≤ X 1 0) && (decide (¬ X 3 a &&& X 14 o = 0) && decide (X 4 a &&& X 14 o = 0))
def pApp (X : St) (a o k : Nat) : Bool := !(decide (¬ X 7 (6 * k + a) = 0) && sFor X k o)
def sApp (X : St) (a o : Nat) : Bool := allA (sFor X a o) (pApp X a o) (cnt X 2)
def fAppl (X : St) (o k : Nat) : Int32 := if sApp X k o then (1 : Int32) <<< (nI k &&& 31) else 0
def sAppl (X : St) (o : Nat) : Int32 := orA 0 (fAppl X o) (cnt X 2)
def fAsks (X : St) (o k : Nat) : Int32 := if sApp X k o then X 5 k else 0
def sAsks (X : St) (o : Nat) : Int32 := orA 0 (fAsks X o) (cnt X 2)
def nbit (h : Nat) : Int32 := ((1 : Int32) <<< (nI h &&& 31)) ^^^ (-1)
def fDem (X : St) (o h : Nat) : Int32 := if X 16 (8 * o + h) = 0 then nbit h else -1
def sDem (X : St) (o : Nat) : Int32 := anA (sAsks X o) (fDem X o) 8
def fLow (X : St) (o h : Nat) : Int32 := if X 17 (8 * o + h) ≤ 4 then -1 else nbit h
def sLow (X : St) (o : Nat) : Int32 := anA (sDem X o) (fLow X o) 8
def fShown (X : St) (o k : Nat) : Int32 := if sIn (X 1 0) (X 11 k) (X 12 k) then X 18 (12 * o + k) &&& X 10 k else 0
def sShown (X : St) (o : Nat) : Int32 := orA (X 19 o) (fShown X o) (cnt X 9)
def sKept (X : St) (o : Nat) : Int32 := sLow X o &&& sShown X o
def sRisk (X : St) (o h : Nat) : Int32 := if (sDem X o >>> (nI h &&& 31)) &&& 1 = 1 then X 16 (8 * o + h) else 0
def sMost (X : St) (o : Nat) : Nat → Int32
  | 0 => 0
  | n + 1 => if sRisk X o n ≤ sMost X o n then sMost X o n else sRisk X o n
def sWay (X : St) (o : Nat) : Int32 := if sMost X o 8 ≤ 6 then (if sMost X o 8 ≤ 3 then 0 else 1) else 2
def sScope (X : St) (b o : Nat) : Bool := decide (sAppl X o &&& (X 26 b ^^^ (-1)) = 0)
def sHolds (X : St) (o : Nat) : Bool := decide (¬ X 20 o = -1) && (decide (X 1 0 ≤ X 21 o) && (sScope X (X 20 o).toNatClampNeg o && (decide (X 27 (X 20 o).toNatClampNeg = -1) || decide (X 1 0 ≤ X 27 (X 20 o).toNatClampNeg + 100))))
def fBit (x : Int32) (k : Nat) : Int32 := (x >>> (nI k &&& 31)) &&& 1
def sBits (x : Int32) : Int32 := adA 0 (fBit x) 8
def sWant (X : St) (o : Nat) : Int32 :=
  if 3 ≤ sBits (X 24 o) then 1 else if ¬ sLow X o = sDem X o then 2 else if ¬ sKept X o = sDem X o then 3
  else if ¬ sWay X o = 0 ∧ sHolds X o = false then 4 else if sWay X o = 2 ∧ (X 22 o = -1 ∨ ¬ X 1 0 ≤ X 22 o + 365) then 5
  else if ¬ sDem X o = 0 ∧ X 23 o = -1 then 6 else 0
/-- what the reference shows and keeps: c the number of the exception (0: none) -/
def mS (c : Int32) (S : St) (u : St → St) : St := if c = 0 then u (sU S 0 0 0) else sU S 0 0 c
def mR (c r : Int32) : Int32 := if c = 0 then r else 0
/-- a count and its bound -/
def CN (S : St) (f N : Nat) : Prop := S f 0 = nI (cnt S f) ∧ cnt S f ≤ N
section NR
variable {D : va_G} {tys : List (ClassId × FieldType)} {H0 : Heap} {p : Program} {l : Launch} {e : Env} {R : Room} {s : State} {m : MethodId} {args : Array Value} {below : List Frame} {meth : Method} {c : Code} {own : String} {cc : ByteArray} {nL : Nat} {ret : Option FieldType} {nm : String} {tb : List ExceptionTableEntry} {Q : State → Prop} {ad : Nat → Nat} {h : Hp} {cells slots pc : Nat} {lv lv' : List (Nat × Value)} {st : List Value}
theorem wa_iaddN (F : FX D tys H0 p l s m args meth c own cc nL ret nm tb) {x y : Int32} {a b : Nat} (d : decode cc pc = .ok (.iadd, 1)) (hx : x = nI a) (hy : y = nI b)
    (K : WA D H0 p l e R s m args below meth c nL Q ad h cells slots (pc + 1) lv (.int (nI (a + b)) :: st)) : WA D H0 p l e R s m args below meth c nL Q ad h cells slots pc lv (.int y :: .int x :: st) := by
  subst hx; subst hy
  refine wa_iadd F d ?_
  rw [nI_add]; exact K
theorem wa_imulN (F : FX D tys H0 p l s m args meth c own cc nL ret nm tb) {x y : Int32} {a b : Nat} (d : decode cc pc = .ok (.imul, 1)) (hx : x = nI a) (hy : y = nI b)
    (K : WA D H0 p l e R s m args below meth c nL Q ad h cells slots (pc + 1) lv (.int (nI (a * b)) :: st)) : WA D H0 p l e R s m args below meth c nL Q ad h cells slots pc lv (.int y :: .int x :: st) := by
  subst hx; subst hy
  refine wa_imul F d ?_
  rw [pk_mul]; exact K
end NR
