/-! the state: numbers by field (the reference's own field numbers) and place; both the class's and the reference's cells are told by it -/
abbrev St : Type := Nat → Nat → Int32
def tysOf (TC : Nat → ClassId) : List (ClassId × FieldType) := [(TC 0, .int), (TC 1, .long), (TC 2, .boolean), (TC 3, .object RX0), (TC 4, .object RX4), (TC 5, .object RX3), (TC 6, .object RX2), (TC 7, .object RX1)]
def sU (S : St) (f i : Nat) (v : Int32) : St := fun g => if g = f then upd (S f) i v else S g
def cnt (X : St) (f : Nat) : Nat := (X f 0).toNatClampNeg
/-- a set of bits out of a predicate -/
def bm (P : Nat → Bool) : Nat → Int32
  | 0 => 0
  | n + 1 => if P n then bm P n ||| ((1 : Int32) <<< (nI n &&& 31)) else bm P n
def msB (X : St) (a : Nat) : Int32 := bm (fun k => X 7 (6 * k + a) != 0) 6
def unt (X : St) (i : Nat) : Int32 := if X 12 i = 1000000 then -1 else X 12 i
def cert (X : St) (p : Nat) : Value := if X 20 p = -1 then .null else .ref (1300 + (X 20 p).toNatClampNeg)
def actF (X : St) (i : Nat) : List Value := [.int (X 3 i), .int (X 4 i), .int (X 5 i), .int (X 6 i), .int (msB X i)]
def stdF (X : St) (i : Nat) : List Value := [.int (X 11 i), .int (X 10 i), .int (unt X i)]
def prdF (X : St) (i : Nat) : List Value := [.ref (1500 + i), .ref (1600 + i), .ref (1700 + i), .int (X 14 i), .int (X 15 i), .int (X 19 i), .int (X 23 i), cert X i, .int (X 21 i), .int (X 22 i), .int (X 24 i)]
def bodF (X : St) (i : Nat) : List Value := [.int (nI i), .int (X 26 i), .int (X 27 i)]
def batF (X : St) (i : Nat) : List Value := [.int (X 29 i), .int (X 30 i), .int (X 31 i), .int (X 32 i), .int (X 33 i), .int (X 34 i), .int (X 35 i), .int (X 36 i), .int (X 37 i)]
def cnfF (X : St) : List Value := [.ref 10, .ref 11, .ref 12, .ref 13, .ref 14, .int (X 2 0), .int (X 9 0), .int (X 13 0), .int (X 25 0), .int (X 28 0), .int (X 1 0)]
def rarr (b n : Nat) (j : Nat) : Option Nat := if j < n then some (b + j) else none
def mfs (S : St) : List Value := [.int (S 0 0), .int (S 1 0), .int (S 2 0), .ref 103, .ref 104, .ref 105, .ref 106, .ref 107, .ref 108, .int (S 9 0), .ref 110, .ref 111, .ref 112, .int (S 13 0), .ref 114, .ref 115, .ref 116, .ref 117, .ref 118, .ref 119, .ref 120, .ref 121, .ref 122, .ref 123, .ref 124, .int (S 25 0), .ref 126, .ref 127, .int (S 28 0), .ref 129, .ref 130, .ref 131, .ref 132, .ref 133, .ref 134, .ref 135, .ref 136, .ref 137]
def mlen (i : Nat) : Nat := if i < 3 then 0 else if i < 7 then 6 else if i = 7 then 36 else if i = 8 then 6 else if i = 9 then 0 else if i < 13 then 12 else if i = 13 then 0 else if i < 16 then 10 else if i < 18 then 80 else if i = 18 then 120 else if i < 25 then 10 else if i = 25 then 0 else if i < 28 then 5 else if i = 28 then 0 else if i < 38 then 40 else 0
def mty (i : Nat) : Nat := if i = 7 then 2 else if i = 8 then 2 else 0
def eK0 (TC : Nat → ClassId) (X S : St) (o : Nat → Int64) (i : Nat) : Option va_E :=
  if i = 0 then some (.inr (5, cnfF X)) else if i = 1 then some (.inl (TC 1, 1, .inr (.inl o))) else if i = 2 then some (.inr (6, mfs S))
  else if i = 10 then some (.inl (TC 3, 6, .inr (.inr (.inr (.inr (rarr 1000 (cnt X 2))))))) else if i = 11 then some (.inl (TC 4, 12, .inr (.inr (.inr (.inr (rarr 1100 (cnt X 9)))))))
  else if i = 12 then some (.inl (TC 5, 10, .inr (.inr (.inr (.inr (rarr 1200 (cnt X 13))))))) else if i = 13 then some (.inl (TC 6, 5, .inr (.inr (.inr (.inr (rarr 1300 (cnt X 25)))))))
  else if i = 14 then some (.inl (TC 7, 40, .inr (.inr (.inr (.inr (rarr 1400 (cnt X 28))))))) else none
def eK1 (TC : Nat → ClassId) (S : St) (i : Nat) : Option va_E := if mlen i = 0 then none else some (.inl (TC (mty i), mlen i, .inl (S i)))
def mk (N : Nat) (g : Nat → Int32) : Nat → Int32 := fun j => if j < N then g j else 0
def kc0 (X : St) (i : Nat) : Option va_E := if i < cnt X 2 then some (.inr (0, actF X i)) else none
def kc1 (X : St) (i : Nat) : Option va_E := if i < cnt X 9 then some (.inr (4, stdF X i)) else none
def kc2 (X : St) (i : Nat) : Option va_E := if i < cnt X 13 then some (.inr (3, prdF X i)) else none
def kc3 (X : St) (i : Nat) : Option va_E := if i < cnt X 25 then some (.inr (2, bodF X i)) else none
def kc4 (X : St) (i : Nat) : Option va_E := if i < cnt X 28 then some (.inr (1, batF X i)) else none
def kc5 (TC : Nat → ClassId) (X : St) (i : Nat) : Option va_E := if i < cnt X 13 then some (.inl (TC 0, 8, .inl (mk 8 (fun j => X 16 (8 * i + j))))) else none
def kc6 (TC : Nat → ClassId) (X : St) (i : Nat) : Option va_E := if i < cnt X 13 then some (.inl (TC 0, 8, .inl (mk 8 (fun j => X 17 (8 * i + j))))) else none
def kc7 (TC : Nat → ClassId) (X : St) (i : Nat) : Option va_E := if i < cnt X 13 then some (.inl (TC 0, 12, .inl (mk 12 (fun j => X 18 (12 * i + j))))) else none
def hC (TC : Nat → ClassId) (X : St) (n : Nat) : Option va_E :=
  if n < 1000 then none
  else if n < 1100 then kc0 X (n - 1000)
  else if n < 1200 then kc1 X (n - 1100)
  else if n < 1300 then kc2 X (n - 1200)
  else if n < 1400 then kc3 X (n - 1300)
  else if n < 1500 then kc4 X (n - 1400)
  else if n < 1600 then kc5 TC X (n - 1500)
  else if n < 1700 then kc6 TC X (n - 1600)
  else if n < 1800 then kc7 TC X (n - 1700)
  else none
/-- all cells of the law: the class's by X, the reference's by S, the row of answers o -/
def hall (TC : Nat → ClassId) (X S : St) (o : Nat → Int64) : Hp := fun n => if n < 100 then eK0 TC X S o n else if n < 200 then eK1 TC S (n - 100) else hC TC X n
section STATE
variable {TC : Nat → ClassId} {X S : St} {o : Nat → Int64}
theorem hm_o : hall TC X S o 1 = some (.inl (TC 1, 1, .inr (.inl o))) := rfl
theorem hm_m : hall TC X S o 2 = some (.inr (6, mfs S)) := rfl
theorem hm_c : hall TC X S o 0 = some (.inr (5, cnfF X)) := rfl
theorem hm_a0 : hall TC X S o 10 = some (.inl (TC 3, 6, .inr (.inr (.inr (.inr (rarr 1000 (cnt X 2))))))) := rfl
theorem hm_a1 : hall TC X S o 11 = some (.inl (TC 4, 12, .inr (.inr (.inr (.inr (rarr 1100 (cnt X 9))))))) := rfl
theorem hm_a2 : hall TC X S o 12 = some (.inl (TC 5, 10, .inr (.inr (.inr (.inr (rarr 1200 (cnt X 13))))))) := rfl
theorem hm_a3 : hall TC X S o 13 = some (.inl (TC 6, 5, .inr (.inr (.inr (.inr (rarr 1300 (cnt X 25))))))) := rfl
theorem hm_a4 : hall TC X S o 14 = some (.inl (TC 7, 40, .inr (.inr (.inr (.inr (rarr 1400 (cnt X 28))))))) := rfl
theorem hm_3 : hall TC X S o 103 = some (.inl (TC 0, 6, .inl (S 3))) := rfl
theorem hm_4 : hall TC X S o 104 = some (.inl (TC 0, 6, .inl (S 4))) := rfl
theorem hm_5 : hall TC X S o 105 = some (.inl (TC 0, 6, .inl (S 5))) := rfl
theorem hm_6 : hall TC X S o 106 = some (.inl (TC 0, 6, .inl (S 6))) := rfl
theorem hm_7 : hall TC X S o 107 = some (.inl (TC 2, 36, .inl (S 7))) := rfl
theorem hm_8 : hall TC X S o 108 = some (.inl (TC 2, 6, .inl (S 8))) := rfl
theorem hm_10 : hall TC X S o 110 = some (.inl (TC 0, 12, .inl (S 10))) := rfl
theorem hm_11 : hall TC X S o 111 = some (.inl (TC 0, 12, .inl (S 11))) := rfl
theorem hm_12 : hall TC X S o 112 = some (.inl (TC 0, 12, .inl (S 12))) := rfl
theorem hm_14 : hall TC X S o 114 = some (.inl (TC 0, 10, .inl (S 14))) := rfl
theorem hm_15 : hall TC X S o 115 = some (.inl (TC 0, 10, .inl (S 15))) := rfl
theorem hm_16 : hall TC X S o 116 = some (.inl (TC 0, 80, .inl (S 16))) := rfl
theorem hm_17 : hall TC X S o 117 = some (.inl (TC 0, 80, .inl (S 17))) := rfl
theorem hm_18 : hall TC X S o 118 = some (.inl (TC 0, 120, .inl (S 18))) := rfl
theorem hm_19 : hall TC X S o 119 = some (.inl (TC 0, 10, .inl (S 19))) := rfl
theorem hm_20 : hall TC X S o 120 = some (.inl (TC 0, 10, .inl (S 20))) := rfl
theorem hm_21 : hall TC X S o 121 = some (.inl (TC 0, 10, .inl (S 21))) := rfl
theorem hm_22 : hall TC X S o 122 = some (.inl (TC 0, 10, .inl (S 22))) := rfl
theorem hm_23 : hall TC X S o 123 = some (.inl (TC 0, 10, .inl (S 23))) := rfl
theorem hm_24 : hall TC X S o 124 = some (.inl (TC 0, 10, .inl (S 24))) := rfl
theorem hm_26 : hall TC X S o 126 = some (.inl (TC 0, 5, .inl (S 26))) := rfl
theorem hm_27 : hall TC X S o 127 = some (.inl (TC 0, 5, .inl (S 27))) := rfl
theorem hm_29 : hall TC X S o 129 = some (.inl (TC 0, 40, .inl (S 29))) := rfl
theorem hm_30 : hall TC X S o 130 = some (.inl (TC 0, 40, .inl (S 30))) := rfl
theorem hm_31 : hall TC X S o 131 = some (.inl (TC 0, 40, .inl (S 31))) := rfl
theorem hm_32 : hall TC X S o 132 = some (.inl (TC 0, 40, .inl (S 32))) := rfl
theorem hm_33 : hall TC X S o 133 = some (.inl (TC 0, 40, .inl (S 33))) := rfl
theorem hm_34 : hall TC X S o 134 = some (.inl (TC 0, 40, .inl (S 34))) := rfl
theorem hm_35 : hall TC X S o 135 = some (.inl (TC 0, 40, .inl (S 35))) := rfl
theorem hm_36 : hall TC X S o 136 = some (.inl (TC 0, 40, .inl (S 36))) := rfl
theorem hm_37 : hall TC X S o 137 = some (.inl (TC 0, 40, .inl (S 37))) := rfl
theorem hm_act {i : Nat} (hi : i < cnt X 2) (hb : cnt X 2 ≤ 6) : hall TC X S o (1000 + i) = some (.inr (0, actF X i)) := by
  unfold hall hC
  rw [if_neg (show ¬ 1000 + i < 100 by omega), if_neg (show ¬ 1000 + i < 200 by omega), if_neg (show ¬ 1000 + i < 1000 by omega), if_pos (show 1000 + i < 1100 by omega), Nat.add_sub_cancel_left]
  exact if_pos hi
theorem hm_actN {i : Nat} (hi : ¬ i < cnt X 2) (hb : i < 100) : hall TC X S o (1000 + i) = none := by
  unfold hall hC
  rw [if_neg (show ¬ 1000 + i < 100 by omega), if_neg (show ¬ 1000 + i < 200 by omega), if_neg (show ¬ 1000 + i < 1000 by omega), if_pos (show 1000 + i < 1100 by omega), Nat.add_sub_cancel_left]
  exact if_neg hi
theorem hm_std {i : Nat} (hi : i < cnt X 9) (hb : cnt X 9 ≤ 12) : hall TC X S o (1100 + i) = some (.inr (4, stdF X i)) := by
  unfold hall hC
  rw [if_neg (show ¬ 1100 + i < 100 by omega), if_neg (show ¬ 1100 + i < 200 by omega), if_neg (show ¬ 1100 + i < 1000 by omega), if_neg (show ¬ 1100 + i < 1100 by omega), if_pos (show 1100 + i < 1200 by omega), Nat.add_sub_cancel_left]
  exact if_pos hi
theorem hm_stdN {i : Nat} (hi : ¬ i < cnt X 9) (hb : i < 100) : hall TC X S o (1100 + i) = none := by
  unfold hall hC
  rw [if_neg (show ¬ 1100 + i < 100 by omega), if_neg (show ¬ 1100 + i < 200 by omega), if_neg (show ¬ 1100 + i < 1000 by omega), if_neg (show ¬ 1100 + i < 1100 by omega), if_pos (show 1100 + i < 1200 by omega), Nat.add_sub_cancel_left]
  exact if_neg hi
theorem hm_prd {i : Nat} (hi : i < cnt X 13) (hb : cnt X 13 ≤ 10) : hall TC X S o (1200 + i) = some (.inr (3, prdF X i)) := by
  unfold hall hC
  rw [if_neg (show ¬ 1200 + i < 100 by omega), if_neg (show ¬ 1200 + i < 200 by omega), if_neg (show ¬ 1200 + i < 1000 by omega), if_neg (show ¬ 1200 + i < 1100 by omega), if_neg (show ¬ 1200 + i < 1200 by omega), if_pos (show 1200 + i < 1300 by omega), Nat.add_sub_cancel_left]
  exact if_pos hi
theorem hm_prdN {i : Nat} (hi : ¬ i < cnt X 13) (hb : i < 100) : hall TC X S o (1200 + i) = none := by
  unfold hall hC
  rw [if_neg (show ¬ 1200 + i < 100 by omega), if_neg (show ¬ 1200 + i < 200 by omega), if_neg (show ¬ 1200 + i < 1000 by omega), if_neg (show ¬ 1200 + i < 1100 by omega), if_neg (show ¬ 1200 + i < 1200 by omega), if_pos (show 1200 + i < 1300 by omega), Nat.add_sub_cancel_left]
  exact if_neg hi
theorem hm_bod {i : Nat} (hi : i < cnt X 25) (hb : cnt X 25 ≤ 5) : hall TC X S o (1300 + i) = some (.inr (2, bodF X i)) := by
  unfold hall hC
  rw [if_neg (show ¬ 1300 + i < 100 by omega), if_neg (show ¬ 1300 + i < 200 by omega), if_neg (show ¬ 1300 + i < 1000 by omega), if_neg (show ¬ 1300 + i < 1100 by omega), if_neg (show ¬ 1300 + i < 1200 by omega), if_neg (show ¬ 1300 + i < 1300 by omega), if_pos (show 1300 + i < 1400 by omega), Nat.add_sub_cancel_left]
  exact if_pos hi
theorem hm_bodN {i : Nat} (hi : ¬ i < cnt X 25) (hb : i < 100) : hall TC X S o (1300 + i) = none := by
  unfold hall hC
  rw [if_neg (show ¬ 1300 + i < 100 by omega), if_neg (show ¬ 1300 + i < 200 by omega), if_neg (show ¬ 1300 + i < 1000 by omega), if_neg (show ¬ 1300 + i < 1100 by omega), if_neg (show ¬ 1300 + i < 1200 by omega), if_neg (show ¬ 1300 + i < 1300 by omega), if_pos (show 1300 + i < 1400 by omega), Nat.add_sub_cancel_left]
  exact if_neg hi
theorem hm_bat {i : Nat} (hi : i < cnt X 28) (hb : cnt X 28 ≤ 40) : hall TC X S o (1400 + i) = some (.inr (1, batF X i)) := by
  unfold hall hC
  rw [if_neg (show ¬ 1400 + i < 100 by omega), if_neg (show ¬ 1400 + i < 200 by omega), if_neg (show ¬ 1400 + i < 1000 by omega), if_neg (show ¬ 1400 + i < 1100 by omega), if_neg (show ¬ 1400 + i < 1200 by omega), if_neg (show ¬ 1400 + i < 1300 by omega), if_neg (show ¬ 1400 + i < 1400 by omega), if_pos (show 1400 + i < 1500 by omega), Nat.add_sub_cancel_left]
  exact if_pos hi
theorem hm_batN {i : Nat} (hi : ¬ i < cnt X 28) (hb : i < 100) : hall TC X S o (1400 + i) = none := by
  unfold hall hC
  rw [if_neg (show ¬ 1400 + i < 100 by omega), if_neg (show ¬ 1400 + i < 200 by omega), if_neg (show ¬ 1400 + i < 1000 by omega), if_neg (show ¬ 1400 + i < 1100 by omega), if_neg (show ¬ 1400 + i < 1200 by omega), if_neg (show ¬ 1400 + i < 1300 by omega), if_neg (show ¬ 1400 + i < 1400 by omega), if_pos (show 1400 + i < 1500 by omega), Nat.add_sub_cancel_left]
  exact if_neg hi
theorem hm_rb {i : Nat} (hi : i < cnt X 13) (hb : cnt X 13 ≤ 10) : hall TC X S o (1500 + i) = some (.inl (TC 0, 8, .inl (mk 8 (fun j => X 16 (8 * i + j))))) := by
  unfold hall hC
  rw [if_neg (show ¬ 1500 + i < 100 by omega), if_neg (show ¬ 1500 + i < 200 by omega), if_neg (show ¬ 1500 + i < 1000 by omega), if_neg (show ¬ 1500 + i < 1100 by omega), if_neg (show ¬ 1500 + i < 1200 by omega), if_neg (show ¬ 1500 + i < 1300 by omega), if_neg (show ¬ 1500 + i < 1400 by omega), if_neg (show ¬ 1500 + i < 1500 by omega), if_pos (show 1500 + i < 1600 by omega), Nat.add_sub_cancel_left]
  exact if_pos hi
theorem hm_rbN {i : Nat} (hi : ¬ i < cnt X 13) (hb : i < 100) : hall TC X S o (1500 + i) = none := by
  unfold hall hC
  rw [if_neg (show ¬ 1500 + i < 100 by omega), if_neg (show ¬ 1500 + i < 200 by omega), if_neg (show ¬ 1500 + i < 1000 by omega), if_neg (show ¬ 1500 + i < 1100 by omega), if_neg (show ¬ 1500 + i < 1200 by omega), if_neg (show ¬ 1500 + i < 1300 by omega), if_neg (show ¬ 1500 + i < 1400 by omega), if_neg (show ¬ 1500 + i < 1500 by omega), if_pos (show 1500 + i < 1600 by omega), Nat.add_sub_cancel_left]
  exact if_neg hi
theorem hm_ra {i : Nat} (hi : i < cnt X 13) (hb : cnt X 13 ≤ 10) : hall TC X S o (1600 + i) = some (.inl (TC 0, 8, .inl (mk 8 (fun j => X 17 (8 * i + j))))) := by
  unfold hall hC
  rw [if_neg (show ¬ 1600 + i < 100 by omega), if_neg (show ¬ 1600 + i < 200 by omega), if_neg (show ¬ 1600 + i < 1000 by omega), if_neg (show ¬ 1600 + i < 1100 by omega), if_neg (show ¬ 1600 + i < 1200 by omega), if_neg (show ¬ 1600 + i < 1300 by omega), if_neg (show ¬ 1600 + i < 1400 by omega), if_neg (show ¬ 1600 + i < 1500 by omega), if_neg (show ¬ 1600 + i < 1600 by omega), if_pos (show 1600 + i < 1700 by omega), Nat.add_sub_cancel_left]
  exact if_pos hi
theorem hm_raN {i : Nat} (hi : ¬ i < cnt X 13) (hb : i < 100) : hall TC X S o (1600 + i) = none := by
  unfold hall hC
  rw [if_neg (show ¬ 1600 + i < 100 by omega), if_neg (show ¬ 1600 + i < 200 by omega), if_neg (show ¬ 1600 + i < 1000 by omega), if_neg (show ¬ 1600 + i < 1100 by omega), if_neg (show ¬ 1600 + i < 1200 by omega), if_neg (show ¬ 1600 + i < 1300 by omega), if_neg (show ¬ 1600 + i < 1400 by omega), if_neg (show ¬ 1600 + i < 1500 by omega), if_neg (show ¬ 1600 + i < 1600 by omega), if_pos (show 1600 + i < 1700 by omega), Nat.add_sub_cancel_left]
  exact if_neg hi
theorem hm_fo {i : Nat} (hi : i < cnt X 13) (hb : cnt X 13 ≤ 10) : hall TC X S o (1700 + i) = some (.inl (TC 0, 12, .inl (mk 12 (fun j => X 18 (12 * i + j))))) := by
  unfold hall hC
  rw [if_neg (show ¬ 1700 + i < 100 by omega), if_neg (show ¬ 1700 + i < 200 by omega), if_neg (show ¬ 1700 + i < 1000 by omega), if_neg (show ¬ 1700 + i < 1100 by omega), if_neg (show ¬ 1700 + i < 1200 by omega), if_neg (show ¬ 1700 + i < 1300 by omega), if_neg (show ¬ 1700 + i < 1400 by omega), if_neg (show ¬ 1700 + i < 1500 by omega), if_neg (show ¬ 1700 + i < 1600 by omega), if_neg (show ¬ 1700 + i < 1700 by omega), if_pos (show 1700 + i < 1800 by omega), Nat.add_sub_cancel_left]
  exact if_pos hi
theorem hm_foN {i : Nat} (hi : ¬ i < cnt X 13) (hb : i < 100) : hall TC X S o (1700 + i) = none := by
  unfold hall hC
  rw [if_neg (show ¬ 1700 + i < 100 by omega), if_neg (show ¬ 1700 + i < 200 by omega), if_neg (show ¬ 1700 + i < 1000 by omega), if_neg (show ¬ 1700 + i < 1100 by omega), if_neg (show ¬ 1700 + i < 1200 by omega), if_neg (show ¬ 1700 + i < 1300 by omega), if_neg (show ¬ 1700 + i < 1400 by omega), if_neg (show ¬ 1700 + i < 1500 by omega), if_neg (show ¬ 1700 + i < 1600 by omega), if_neg (show ¬ 1700 + i < 1700 by omega), if_pos (show 1700 + i < 1800 by omega), Nat.add_sub_cancel_left]
  exact if_neg hi
theorem mfs_arr {k i : Nat} {v : Int32} (hk : mlen k ≠ 0) : mfs (sU S k i v) = mfs S := by
  have e : ∀ g : Nat, mlen g = 0 → sU S k i v g = S g := fun g hg => by
    unfold sU
    rw [if_neg (fun z => hk (by rw [← z]; exact hg))]
  unfold mfs
  rw [e 0 rfl, e 1 rfl, e 2 rfl, e 9 rfl, e 13 rfl, e 25 rfl, e 28 rfl]
/-- a store into an array of the reference -/
theorem hmU (k : Nat) (hk : mlen k ≠ 0) (hk2 : k < 100) (i : Nat) (v : Int32) : va_up (hall TC X S o) (100 + k) (some (.inl (TC (mty k), mlen k, .inl (upd (S k) i v)))) = hall TC X (sU S k i v) o := by
  funext n
  unfold va_up
  by_cases hn : n = 100 + k
  · rw [if_pos hn]
    subst hn
    unfold hall eK1
    rw [if_neg (show ¬ 100 + k < 100 by omega), if_pos (show 100 + k < 200 by omega), Nat.add_sub_cancel_left, if_neg hk]
    unfold sU
    rw [if_pos rfl]
  · rw [if_neg hn]
    unfold hall
    by_cases h1 : n < 100
    · rw [if_pos h1, if_pos h1]
      unfold eK0
      rw [mfs_arr hk]
    · rw [if_neg h1, if_neg h1]
      by_cases h2 : n < 200
      · rw [if_pos h2, if_pos h2]
        unfold eK1 sU
        rw [if_neg (show ¬ n - 100 = k by omega)]
      · rw [if_neg h2, if_neg h2]
/-- a store into a field of the reference that is a number -/
theorem hmS (k : Nat) (v : Int32) (hk : mlen k = 0) (hm : (mfs S).set k (.int v) = mfs (sU S k 0 v)) : va_up (hall TC X S o) 2 (some (.inr (6, (mfs S).set k (.int v)))) = hall TC X (sU S k 0 v) o := by
  funext n
  unfold va_up
  by_cases hn : n = 2
  · rw [if_pos hn]
    subst hn
    rw [hm]
    rfl
  · rw [if_neg hn]
    unfold hall
    by_cases h1 : n < 100
    · rw [if_pos h1, if_pos h1]
      unfold eK0
      rw [if_neg hn, if_neg hn]
    · rw [if_neg h1, if_neg h1]
      by_cases h2 : n < 200
      · rw [if_pos h2, if_pos h2]
        unfold eK1 sU
        by_cases h3 : mlen (n - 100) = 0
        · rw [if_pos h3, if_pos h3]
        · rw [if_neg h3, if_neg h3, if_neg (fun z => h3 (by rw [z]; exact hk))]
      · rw [if_neg h2, if_neg h2]
theorem hs_0 (v : Int32) : va_up (hall TC X S o) 2 (some (.inr (6, (mfs S).set 0 (.int v)))) = hall TC X (sU S 0 0 v) o := hmS 0 v rfl (by simp [mfs, sU, upd])
theorem hs_1 (v : Int32) : va_up (hall TC X S o) 2 (some (.inr (6, (mfs S).set 1 (.int v)))) = hall TC X (sU S 1 0 v) o := hmS 1 v rfl (by simp [mfs, sU, upd])
theorem hs_2 (v : Int32) : va_up (hall TC X S o) 2 (some (.inr (6, (mfs S).set 2 (.int v)))) = hall TC X (sU S 2 0 v) o := hmS 2 v rfl (by simp [mfs, sU, upd])
theorem hu_3 (i : Nat) (v : Int32) : va_up (hall TC X S o) 103 (some (.inl (TC 0, 6, .inl (upd (S 3) i v)))) = hall TC X (sU S 3 i v) o := hmU 3 (by decide) (by decide) i v
theorem hu_4 (i : Nat) (v : Int32) : va_up (hall TC X S o) 104 (some (.inl (TC 0, 6, .inl (upd (S 4) i v)))) = hall TC X (sU S 4 i v) o := hmU 4 (by decide) (by decide) i v
theorem hu_5 (i : Nat) (v : Int32) : va_up (hall TC X S o) 105 (some (.inl (TC 0, 6, .inl (upd (S 5) i v)))) = hall TC X (sU S 5 i v) o := hmU 5 (by decide) (by decide) i v
theorem hu_6 (i : Nat) (v : Int32) : va_up (hall TC X S o) 106 (some (.inl (TC 0, 6, .inl (upd (S 6) i v)))) = hall TC X (sU S 6 i v) o := hmU 6 (by decide) (by decide) i v
theorem hu_7 (i : Nat) (v : Int32) : va_up (hall TC X S o) 107 (some (.inl (TC 2, 36, .inl (upd (S 7) i v)))) = hall TC X (sU S 7 i v) o := hmU 7 (by decide) (by decide) i v
theorem hu_8 (i : Nat) (v : Int32) : va_up (hall TC X S o) 108 (some (.inl (TC 2, 6, .inl (upd (S 8) i v)))) = hall TC X (sU S 8 i v) o := hmU 8 (by decide) (by decide) i v
theorem hs_9 (v : Int32) : va_up (hall TC X S o) 2 (some (.inr (6, (mfs S).set 9 (.int v)))) = hall TC X (sU S 9 0 v) o := hmS 9 v rfl (by simp [mfs, sU, upd])
theorem hu_10 (i : Nat) (v : Int32) : va_up (hall TC X S o) 110 (some (.inl (TC 0, 12, .inl (upd (S 10) i v)))) = hall TC X (sU S 10 i v) o := hmU 10 (by decide) (by decide) i v
theorem hu_11 (i : Nat) (v : Int32) : va_up (hall TC X S o) 111 (some (.inl (TC 0, 12, .inl (upd (S 11) i v)))) = hall TC X (sU S 11 i v) o := hmU 11 (by decide) (by decide) i v
theorem hu_12 (i : Nat) (v : Int32) : va_up (hall TC X S o) 112 (some (.inl (TC 0, 12, .inl (upd (S 12) i v)))) = hall TC X (sU S 12 i v) o := hmU 12 (by decide) (by decide) i v
theorem hs_13 (v : Int32) : va_up (hall TC X S o) 2 (some (.inr (6, (mfs S).set 13 (.int v)))) = hall TC X (sU S 13 0 v) o := hmS 13 v rfl (by simp [mfs, sU, upd])
theorem hu_14 (i : Nat) (v : Int32) : va_up (hall TC X S o) 114 (some (.inl (TC 0, 10, .inl (upd (S 14) i v)))) = hall TC X (sU S 14 i v) o := hmU 14 (by decide) (by decide) i v
theorem hu_15 (i : Nat) (v : Int32) : va_up (hall TC X S o) 115 (some (.inl (TC 0, 10, .inl (upd (S 15) i v)))) = hall TC X (sU S 15 i v) o := hmU 15 (by decide) (by decide) i v
theorem hu_16 (i : Nat) (v : Int32) : va_up (hall TC X S o) 116 (some (.inl (TC 0, 80, .inl (upd (S 16) i v)))) = hall TC X (sU S 16 i v) o := hmU 16 (by decide) (by decide) i v
theorem hu_17 (i : Nat) (v : Int32) : va_up (hall TC X S o) 117 (some (.inl (TC 0, 80, .inl (upd (S 17) i v)))) = hall TC X (sU S 17 i v) o := hmU 17 (by decide) (by decide) i v
theorem hu_18 (i : Nat) (v : Int32) : va_up (hall TC X S o) 118 (some (.inl (TC 0, 120, .inl (upd (S 18) i v)))) = hall TC X (sU S 18 i v) o := hmU 18 (by decide) (by decide) i v
theorem hu_19 (i : Nat) (v : Int32) : va_up (hall TC X S o) 119 (some (.inl (TC 0, 10, .inl (upd (S 19) i v)))) = hall TC X (sU S 19 i v) o := hmU 19 (by decide) (by decide) i v
theorem hu_20 (i : Nat) (v : Int32) : va_up (hall TC X S o) 120 (some (.inl (TC 0, 10, .inl (upd (S 20) i v)))) = hall TC X (sU S 20 i v) o := hmU 20 (by decide) (by decide) i v
theorem hu_21 (i : Nat) (v : Int32) : va_up (hall TC X S o) 121 (some (.inl (TC 0, 10, .inl (upd (S 21) i v)))) = hall TC X (sU S 21 i v) o := hmU 21 (by decide) (by decide) i v
theorem hu_22 (i : Nat) (v : Int32) : va_up (hall TC X S o) 122 (some (.inl (TC 0, 10, .inl (upd (S 22) i v)))) = hall TC X (sU S 22 i v) o := hmU 22 (by decide) (by decide) i v
theorem hu_23 (i : Nat) (v : Int32) : va_up (hall TC X S o) 123 (some (.inl (TC 0, 10, .inl (upd (S 23) i v)))) = hall TC X (sU S 23 i v) o := hmU 23 (by decide) (by decide) i v
theorem hu_24 (i : Nat) (v : Int32) : va_up (hall TC X S o) 124 (some (.inl (TC 0, 10, .inl (upd (S 24) i v)))) = hall TC X (sU S 24 i v) o := hmU 24 (by decide) (by decide) i v
theorem hs_25 (v : Int32) : va_up (hall TC X S o) 2 (some (.inr (6, (mfs S).set 25 (.int v)))) = hall TC X (sU S 25 0 v) o := hmS 25 v rfl (by simp [mfs, sU, upd])
theorem hu_26 (i : Nat) (v : Int32) : va_up (hall TC X S o) 126 (some (.inl (TC 0, 5, .inl (upd (S 26) i v)))) = hall TC X (sU S 26 i v) o := hmU 26 (by decide) (by decide) i v
theorem hu_27 (i : Nat) (v : Int32) : va_up (hall TC X S o) 127 (some (.inl (TC 0, 5, .inl (upd (S 27) i v)))) = hall TC X (sU S 27 i v) o := hmU 27 (by decide) (by decide) i v
theorem hs_28 (v : Int32) : va_up (hall TC X S o) 2 (some (.inr (6, (mfs S).set 28 (.int v)))) = hall TC X (sU S 28 0 v) o := hmS 28 v rfl (by simp [mfs, sU, upd])
theorem hu_29 (i : Nat) (v : Int32) : va_up (hall TC X S o) 129 (some (.inl (TC 0, 40, .inl (upd (S 29) i v)))) = hall TC X (sU S 29 i v) o := hmU 29 (by decide) (by decide) i v
theorem hu_30 (i : Nat) (v : Int32) : va_up (hall TC X S o) 130 (some (.inl (TC 0, 40, .inl (upd (S 30) i v)))) = hall TC X (sU S 30 i v) o := hmU 30 (by decide) (by decide) i v
theorem hu_31 (i : Nat) (v : Int32) : va_up (hall TC X S o) 131 (some (.inl (TC 0, 40, .inl (upd (S 31) i v)))) = hall TC X (sU S 31 i v) o := hmU 31 (by decide) (by decide) i v
theorem hu_32 (i : Nat) (v : Int32) : va_up (hall TC X S o) 132 (some (.inl (TC 0, 40, .inl (upd (S 32) i v)))) = hall TC X (sU S 32 i v) o := hmU 32 (by decide) (by decide) i v
theorem hu_33 (i : Nat) (v : Int32) : va_up (hall TC X S o) 133 (some (.inl (TC 0, 40, .inl (upd (S 33) i v)))) = hall TC X (sU S 33 i v) o := hmU 33 (by decide) (by decide) i v
theorem hu_34 (i : Nat) (v : Int32) : va_up (hall TC X S o) 134 (some (.inl (TC 0, 40, .inl (upd (S 34) i v)))) = hall TC X (sU S 34 i v) o := hmU 34 (by decide) (by decide) i v
theorem hu_35 (i : Nat) (v : Int32) : va_up (hall TC X S o) 135 (some (.inl (TC 0, 40, .inl (upd (S 35) i v)))) = hall TC X (sU S 35 i v) o := hmU 35 (by decide) (by decide) i v
theorem hu_36 (i : Nat) (v : Int32) : va_up (hall TC X S o) 136 (some (.inl (TC 0, 40, .inl (upd (S 36) i v)))) = hall TC X (sU S 36 i v) o := hmU 36 (by decide) (by decide) i v
theorem hu_37 (i : Nat) (v : Int32) : va_up (hall TC X S o) 137 (some (.inl (TC 0, 40, .inl (upd (S 37) i v)))) = hall TC X (sU S 37 i v) o := hmU 37 (by decide) (by decide) i v
theorem hs_o (x : Int64) : va_up (hall TC X S o) 1 (some (.inl (TC 1, 1, .inr (.inl (vp_updL o 0 x))))) = hall TC X S (vp_updL o 0 x) := by
  funext n
  unfold va_up
  by_cases hn : n = 1
  · rw [if_pos hn]; subst hn; rfl
  · rw [if_neg hn]
    unfold hall eK0
    rw [if_neg hn, if_neg hn]
end STATE
