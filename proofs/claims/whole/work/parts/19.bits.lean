/-! bits -/
def gb (x : Int32) (i : Nat) : Bool := x.toBitVec.getLsbD i
theorem gb_ext {x y : Int32} (h : ∀ i, i < 32 → gb x i = gb y i) : x = y := Int32.toBitVec_inj.mp (BitVec.eq_of_getLsbD_eq fun i hi => h i hi)
theorem gb_or (x y : Int32) (i : Nat) : gb (x ||| y) i = (gb x i || gb y i) := by unfold gb; rw [Int32.toBitVec_or, BitVec.getLsbD_or]
theorem gb_and (x y : Int32) (i : Nat) : gb (x &&& y) i = (gb x i && gb y i) := by unfold gb; rw [Int32.toBitVec_and, BitVec.getLsbD_and]
theorem gb_m1 {i : Nat} (hi : i < 32) : gb (-1) i = true := (by decide +kernel : ∀ i : Fin 32, gb (-1) i.val = true) ⟨i, hi⟩
theorem gb_0 (i : Nat) : gb 0 i = false := by unfold gb; exact BitVec.getLsbD_zero
theorem gb_not (x : Int32) {i : Nat} (hi : i < 32) : gb (x ^^^ (-1)) i = !gb x i := by
  have h := gb_m1 hi
  unfold gb at h ⊢
  rw [Int32.toBitVec_xor, BitVec.getLsbD_xor, h, Bool.xor_true]
theorem gb_shl {k i : Nat} (hk : k < 32) (hi : i < 32) : gb ((1 : Int32) <<< (nI k &&& 31)) i = decide (i = k) :=
  (by decide +kernel : ∀ k i : Fin 32, gb ((1 : Int32) <<< (nI k.val &&& 31)) i.val = decide (i.val = k.val)) ⟨k, hk⟩ ⟨i, hi⟩
theorem gb_1 {i : Nat} (hi : i < 32) : gb 1 i = decide (i = 0) := (by decide +kernel : ∀ i : Fin 32, gb 1 i.val = decide (i.val = 0)) ⟨i, hi⟩
theorem gb_shr (x : Int32) {k : Nat} (hk : k < 32) : gb (x >>> (nI k &&& 31)) 0 = gb x k := by
  have hs : ((nI k &&& 31).toBitVec.smod 32).toNat = k := (by decide +kernel : ∀ k : Fin 32, ((nI k.val &&& 31).toBitVec.smod 32).toNat = k.val) ⟨k, hk⟩
  unfold gb
  rw [Int32.toBitVec_shiftRight, BitVec.sshiftRight_eq', hs, BitVec.getLsbD_sshiftRight]
  simp [hk]
theorem gb_bit (x : Int32) {k i : Nat} (hk : k < 32) (hi : i < 32) : gb ((x >>> (nI k &&& 31)) &&& 1) i = (decide (i = 0) && gb x k) := by
  rw [gb_and, gb_1 hi]
  by_cases h : i = 0
  · subst h; rw [gb_shr x hk]; simp
  · simp [h]
theorem bit_eq (x : Int32) {k : Nat} (hk : k < 32) : (x >>> (nI k &&& 31)) &&& 1 = if gb x k then 1 else 0 := by
  refine gb_ext fun i hi => ?_
  rw [gb_bit x hk hi]
  cases gb x k
  · rw [if_neg (by decide), gb_0]; simp
  · rw [if_pos rfl, gb_1 hi]; simp
theorem hB_gb (x : Int32) {k : Nat} (hk : k < 32) : hB x (nI k) = gb x k := by
  unfold hB
  rw [bit_eq x hk]
  cases gb x k <;> decide
theorem gb_bm (P : Nat → Bool) : ∀ n, n ≤ 31 → ∀ i, i < 32 → gb (bm P n) i = (decide (i < n) && P i)
  | 0, _, i, _ => by unfold bm; rw [gb_0]; simp
  | n + 1, hn, i, hi => by
    have ih := gb_bm P n (by omega) i hi
    unfold bm
    by_cases hP : P n = true
    · rw [if_pos hP, gb_or, ih, gb_shl (by omega) hi]
      by_cases h : i = n
      · subst h; simp [hP]
      · have e : (i < n + 1) ↔ (i < n) := by omega
        simp [h, e]
    · rw [if_neg hP, ih]
      by_cases h : i = n
      · subst h; simp [hP]
      · have e : (i < n + 1) ↔ (i < n) := by omega
        simp [e]
theorem gb_orA (a : Int32) (f : Nat → Int32) (i : Nat) : ∀ n, (gb (orA a f n) i = true ↔ (gb a i = true ∨ ∃ k, k < n ∧ gb (f k) i = true))
  | 0 => by unfold orA; simp
  | n + 1 => by
    unfold orA
    rw [gb_or, Bool.or_eq_true, gb_orA a f i n]
    constructor
    · rintro ((h | ⟨k, hk, h⟩) | h)
      · exact Or.inl h
      · exact Or.inr ⟨k, by omega, h⟩
      · exact Or.inr ⟨n, by omega, h⟩
    · rintro (h | ⟨k, hk, h⟩)
      · exact Or.inl (Or.inl h)
      · by_cases e : k = n
        · subst e; exact Or.inr h
        · exact Or.inl (Or.inr ⟨k, by omega, h⟩)
theorem gb_anA (a : Int32) (f : Nat → Int32) (i : Nat) : ∀ n, (gb (anA a f n) i = true ↔ (gb a i = true ∧ ∀ k, k < n → gb (f k) i = true))
  | 0 => by unfold anA; simp
  | n + 1 => by
    unfold anA
    rw [gb_and, Bool.and_eq_true, gb_anA a f i n]
    constructor
    · rintro ⟨⟨h1, h2⟩, h3⟩
      refine ⟨h1, fun k hk => ?_⟩
      by_cases e : k = n
      · subst e; exact h3
      · exact h2 k (by omega)
    · rintro ⟨h1, h2⟩
      exact ⟨⟨h1, fun k hk => h2 k (by omega)⟩, h2 n (by omega)⟩
theorem allA_iff (b : Bool) (P : Nat → Bool) : ∀ n, (allA b P n = true ↔ (b = true ∧ ∀ k, k < n → P k = true))
  | 0 => by unfold allA; simp
  | n + 1 => by
    unfold allA
    rw [Bool.and_eq_true, allA_iff b P n]
    constructor
    · rintro ⟨⟨h1, h2⟩, h3⟩
      refine ⟨h1, fun k hk => ?_⟩
      by_cases e : k = n
      · subst e; exact h3
      · exact h2 k (by omega)
    · rintro ⟨h1, h2⟩
      exact ⟨⟨h1, fun k hk => h2 k (by omega)⟩, h2 n (by omega)⟩
theorem bool_iff {a b : Bool} (h : a = true ↔ b = true) : a = b := by
  cases a <;> cases b <;> first | rfl | exact absurd (h.mp rfl) (by decide) | exact absurd (h.mpr rfl) (by decide)
theorem and0_iff {x y : Int32} : x &&& y = 0 ↔ ∀ i, i < 32 → ¬ (gb x i = true ∧ gb y i = true) := by
  constructor
  · intro h i hi ⟨h1, h2⟩
    have := gb_and x y i
    rw [h, gb_0, h1, h2] at this
    exact absurd this (by decide)
  · intro h
    refine gb_ext fun i hi => ?_
    rw [gb_and, gb_0]
    have := h i hi
    cases e1 : gb x i <;> cases e2 : gb y i <;> first | rfl | exact absurd ⟨e1, e2⟩ this
theorem gb_small {x : Int32} (h0 : 0 ≤ x.toInt) (h1 : x.toInt ≤ 255) {i : Nat} (hi : 8 ≤ i) (hi2 : i < 32) : gb x i = false := by
  unfold gb
  have e : x.toBitVec.toNat < 256 := by
    have h2 : x.toInt = x.toBitVec.toInt := rfl
    rw [h2, BitVec.toInt_eq_toNat_cond] at h0 h1
    split at h0 <;> omega
  rw [BitVec.getLsbD, Nat.testBit_lt_two_pow]
  exact Nat.lt_of_lt_of_le e (Nat.pow_le_pow_right (n := 2) (by decide) hi)
/-! the class's masks and the document's sets -/
def gFor (X : St) (o k : Nat) : Bool := decide (k < cnt X 2) && sFor X k o
def mFor (X : St) (o : Nat) : Int32 := bm (gFor X o) 6
def gApp (X : St) (o k : Nat) : Bool := decide (k < cnt X 2) && (hB (mFor X o) (nI k) && decide (msB X k &&& mFor X o = 0))
theorem gb_sAppl {X : St} (hc : cnt X 2 ≤ 6) (o : Nat) {i : Nat} (hi : i < 32) : gb (sAppl X o) i = (decide (i < cnt X 2) && sApp X i o) := by
  refine bool_iff ?_
  unfold sAppl
  rw [gb_orA, gb_0, Bool.and_eq_true, decide_eq_true_eq]
  constructor
  · rintro (h | ⟨k, hk, h⟩)
    · cases h
    · unfold fAppl at h
      by_cases hs : sApp X k o = true
      · rw [if_pos hs, gb_shl (by omega) hi, decide_eq_true_eq] at h
        subst h; exact ⟨hk, hs⟩
      · rw [if_neg hs, gb_0] at h; cases h
  · rintro ⟨h1, h2⟩
    refine Or.inr ⟨i, h1, ?_⟩
    unfold fAppl
    rw [if_pos h2, gb_shl hi hi]; simp
theorem app_eq {X : St} (hc : cnt X 2 ≤ 6) (o : Nat) : bm (gApp X o) 6 = sAppl X o := by
  refine gb_ext fun i hi => ?_
  rw [gb_bm _ 6 (by decide) i hi, gb_sAppl hc o hi]
  by_cases h : i < cnt X 2
  · have h6 : i < 6 := by omega
    rw [decide_eq_true h6, decide_eq_true h, Bool.true_and, Bool.true_and]
    unfold gApp
    rw [decide_eq_true h, Bool.true_and, hB_gb _ hi]
    refine bool_iff ?_
    rw [Bool.and_eq_true, decide_eq_true_eq, and0_iff]
    unfold sApp mFor
    rw [allA_iff, gb_bm _ 6 (by decide) i hi, decide_eq_true h6, Bool.true_and]
    unfold gFor
    rw [decide_eq_true h, Bool.true_and]
    refine and_congr Iff.rfl ⟨fun q k hk => ?_, fun q j hj => ?_⟩
    · unfold pApp
      have := q k (by omega)
      unfold msB at this
      rw [gb_bm _ 6 (by decide) k (by omega), gb_bm _ 6 (by decide) k (by omega), decide_eq_true (show k < 6 by omega), decide_eq_true hk] at this
      simp at this ⊢
      exact Decidable.or_iff_not_imp_left.mpr this
    · rintro ⟨h1, h2⟩
      unfold msB at h1
      rw [gb_bm _ 6 (by decide) j hj] at h1 h2
      simp at h1 h2
      have := q j h2.2.1
      unfold pApp at this
      simp [h2.2.2, h1.2] at this
  · rw [decide_eq_false h, Bool.false_and]
    unfold gApp
    rw [decide_eq_false h]; simp
def fDmC (X : St) (o k : Nat) : Int32 := if (decide (k < cnt X 2) && hB (sAppl X o) (nI k)) = true then X 5 k else 0
theorem asks_eq {X : St} (hc : cnt X 2 ≤ 6) (o : Nat) : orA 0 (fDmC X o) 6 = sAsks X o := by
  refine gb_ext fun i hi => bool_iff ?_
  unfold sAsks
  rw [gb_orA, gb_orA]
  refine or_congr Iff.rfl ⟨fun ⟨k, hk, h⟩ => ?_, fun ⟨k, hk, h⟩ => ?_⟩
  · unfold fDmC at h
    by_cases hq : (decide (k < cnt X 2) && hB (sAppl X o) (nI k)) = true
    · rw [if_pos hq] at h
      rw [Bool.and_eq_true, decide_eq_true_eq, hB_gb _ (by omega), gb_sAppl hc o (by omega), Bool.and_eq_true] at hq
      exact ⟨k, hq.1, by unfold fAsks; rw [if_pos hq.2.2]; exact h⟩
    · rw [if_neg hq, gb_0] at h; cases h
  · unfold fAsks at h
    by_cases hq : sApp X k o = true
    · rw [if_pos hq] at h
      refine ⟨k, by omega, ?_⟩
      unfold fDmC
      rw [if_pos]
      · exact h
      · rw [hB_gb _ (by omega), gb_sAppl hc o (by omega), hq, decide_eq_true hk]; rfl
    · rw [if_neg hq, gb_0] at h; cases h
theorem gb_asks8 {X : St} (h5 : ∀ i, i < cnt X 2 → 0 ≤ (X 5 i).toInt ∧ (X 5 i).toInt ≤ 255) (o : Nat) {i : Nat} (h8 : 8 ≤ i) (hi : i < 32) : gb (sAsks X o) i = false := by
  refine Bool.eq_false_iff.mpr fun h => ?_
  unfold sAsks at h
  rw [gb_orA, gb_0] at h
  rcases h with h | ⟨k, hk, h⟩
  · cases h
  · unfold fAsks at h
    by_cases hq : sApp X k o = true
    · rw [if_pos hq, gb_small (h5 k hk).1 (h5 k hk).2 h8 hi] at h; cases h
    · rw [if_neg hq, gb_0] at h; cases h
theorem gb_nbit {h i : Nat} (hh : h < 32) (hi : i < 32) : gb (nbit h) i = !decide (i = h) := by
  unfold nbit; rw [gb_not _ hi, gb_shl hh hi]
theorem le_toInt {x y : Int32} : x ≤ y ↔ x.toInt ≤ y.toInt := Int32.le_iff_toInt_le
theorem gb_sDem {X : St} (h5 : ∀ i, i < cnt X 2 → 0 ≤ (X 5 i).toInt ∧ (X 5 i).toInt ≤ 255) (o : Nat) {i : Nat} (hi : i < 32) : (gb (sDem X o) i = true ↔ (i < 8 ∧ gb (sAsks X o) i = true ∧ ¬ X 16 (8 * o + i) = 0)) := by
  unfold sDem
  rw [gb_anA]
  constructor
  · rintro ⟨h1, h2⟩
    by_cases h8 : i < 8
    · refine ⟨h8, h1, fun z => ?_⟩
      have := h2 i h8
      unfold fDem at this
      rw [if_pos z, gb_nbit hi hi] at this
      simp at this
    · rw [gb_asks8 h5 o (by omega) hi] at h1; cases h1
  · rintro ⟨h8, h1, h2⟩
    refine ⟨h1, fun k hk => ?_⟩
    unfold fDem
    by_cases z : X 16 (8 * o + k) = 0
    · rw [if_pos z, gb_nbit (by omega) hi]
      have : ¬ i = k := fun e => h2 (by rw [e]; exact z)
      simp [this]
    · rw [if_neg z, gb_m1 hi]
theorem dem_eq {X : St} (h5 : ∀ i, i < cnt X 2 → 0 ≤ (X 5 i).toInt ∧ (X 5 i).toInt ≤ 255) {o : Nat} (h16 : ∀ j, j < 8 → 0 ≤ (X 16 (8 * o + j)).toInt) : sAsks X o &&& bm (gB X o 0) 8 = sDem X o := by
  refine gb_ext fun i hi => bool_iff ?_
  rw [gb_sDem h5 o hi, gb_and, Bool.and_eq_true, gb_bm _ 8 (by decide) i hi, Bool.and_eq_true, decide_eq_true_eq]
  unfold gB
  rw [decide_eq_true_eq]
  constructor
  · rintro ⟨h1, h2, h3⟩
    exact ⟨h2, h1, fun z => h3 (by rw [z]; decide)⟩
  · rintro ⟨h1, h2, h3⟩
    refine ⟨h2, h1, fun z => h3 ?_⟩
    rw [le_toInt] at z
    have := h16 i h1
    exact Int32.toInt_inj.mp (by rw [Int32.toInt_zero] at z ⊢; omega)
theorem gb_sLow {X : St} (h5 : ∀ i, i < cnt X 2 → 0 ≤ (X 5 i).toInt ∧ (X 5 i).toInt ≤ 255) (o : Nat) {i : Nat} (hi : i < 32) : (gb (sLow X o) i = true ↔ (gb (sDem X o) i = true ∧ X 17 (8 * o + i) ≤ 4)) := by
  unfold sLow
  rw [gb_anA]
  refine ⟨fun ⟨h1, h2⟩ => ⟨h1, ?_⟩, fun ⟨h1, h2⟩ => ⟨h1, fun k hk => ?_⟩⟩
  · have h8 := ((gb_sDem h5 o hi).mp h1).1
    have := h2 i h8
    unfold fLow at this
    by_cases z : X 17 (8 * o + i) ≤ 4
    · exact z
    · rw [if_neg z, gb_nbit hi hi] at this
      simp at this
  · unfold fLow
    by_cases z : X 17 (8 * o + k) ≤ 4
    · rw [if_pos z, gb_m1 hi]
    · rw [if_neg z, gb_nbit (by omega) hi]
      have : ¬ i = k := fun e => z (by rw [← e]; exact h2)
      simp [this]
theorem low_iff {X : St} (h5 : ∀ i, i < cnt X 2 → 0 ≤ (X 5 i).toInt ∧ (X 5 i).toInt ≤ 255) (o : Nat) : (sDem X o &&& bm (gA X o 4) 8 = 0 ↔ sLow X o = sDem X o) := by
  rw [and0_iff]
  constructor
  · intro h
    refine gb_ext fun i hi => bool_iff ?_
    rw [gb_sLow h5 o hi]
    refine ⟨fun q => q.1, fun q => ⟨q, ?_⟩⟩
    have h8 := ((gb_sDem h5 o hi).mp q).1
    refine Decidable.byContradiction fun z => h i hi ⟨q, ?_⟩
    rw [gb_bm _ 8 (by decide) i hi, decide_eq_true h8]
    unfold gA; simp [z]
  · intro h i hi ⟨h1, h2⟩
    rw [gb_bm _ 8 (by decide) i hi, Bool.and_eq_true] at h2
    rw [← h, gb_sLow h5 o hi] at h1
    unfold gA at h2
    have := h2.2
    rw [decide_eq_true_eq] at this
    exact this h1.2
def lsC (X : St) (k : Nat) : Bool := decide (X 11 k ≤ X 1 0) && (decide (unt X k = -1) || decide (X 1 0 ≤ unt X k))
def fShC (X : St) (o k : Nat) : Int32 := if (decide (k < cnt X 9) && lsC X k) = true then X 18 (12 * o + k) &&& X 10 k else 0
theorem ls_eq {X : St} {k : Nat} (h1 : 0 ≤ (X 1 0).toInt ∧ (X 1 0).toInt ≤ 5000) (h12 : X 12 k = 1000000 ∨ (0 ≤ (X 12 k).toInt ∧ (X 12 k).toInt ≤ 5000)) : lsC X k = sIn (X 1 0) (X 11 k) (X 12 k) := by
  unfold lsC sIn unt
  rcases h12 with h | h
  · rw [if_pos h, h]
    have : X 1 0 ≤ 1000000 := by rw [le_toInt, show (1000000 : Int32).toInt = 1000000 from rfl]; omega
    simp [this]
  · have n1 : ¬ X 12 k = 1000000 := fun z => by rw [z, show (1000000 : Int32).toInt = 1000000 from rfl] at h; omega
    have n2 : ¬ X 12 k = -1 := fun z => by rw [z, show (-1 : Int32).toInt = -1 from rfl] at h; omega
    rw [if_neg n1]
    simp [n2]
theorem shown_eq {X : St} (hs : cnt X 9 ≤ 12) (h1 : 0 ≤ (X 1 0).toInt ∧ (X 1 0).toInt ≤ 5000) (h12 : ∀ i, i < cnt X 9 → X 12 i = 1000000 ∨ (0 ≤ (X 12 i).toInt ∧ (X 12 i).toInt ≤ 5000)) (o : Nat) : orA (X 19 o) (fShC X o) 12 = sShown X o := by
  refine gb_ext fun i hi => bool_iff ?_
  unfold sShown
  rw [gb_orA, gb_orA]
  refine or_congr Iff.rfl ⟨fun ⟨k, hk, h⟩ => ?_, fun ⟨k, hk, h⟩ => ?_⟩
  · unfold fShC at h
    by_cases hq : (decide (k < cnt X 9) && lsC X k) = true
    · rw [if_pos hq] at h
      rw [Bool.and_eq_true, decide_eq_true_eq] at hq
      refine ⟨k, hq.1, ?_⟩
      unfold fShown
      rw [if_pos (by rw [← ls_eq h1 (h12 k hq.1)]; exact hq.2)]; exact h
    · rw [if_neg hq, gb_0] at h; cases h
  · refine ⟨k, by omega, ?_⟩
    unfold fShown at h
    unfold fShC
    rw [decide_eq_true hk, Bool.true_and, ls_eq h1 (h12 k hk)]
    exact h
theorem kept_eq {X : St} (h5 : ∀ i, i < cnt X 2 → 0 ≤ (X 5 i).toInt ∧ (X 5 i).toInt ≤ 255) (o : Nat) : (sDem X o &&& sShown X o) &&& (bm (gA X o 4) 8 ^^^ (-1)) = sKept X o := by
  refine gb_ext fun i hi => bool_iff ?_
  unfold sKept
  rw [gb_and, gb_and, gb_and, gb_not _ hi, gb_bm _ 8 (by decide) i hi]
  simp only [Bool.and_eq_true]
  rw [gb_sLow h5 o hi]
  constructor
  · rintro ⟨⟨h1, h2⟩, h3⟩
    have h8 := ((gb_sDem h5 o hi).mp h1).1
    refine ⟨⟨h1, ?_⟩, h2⟩
    unfold gA at h3
    simpa [h8] using h3
  · rintro ⟨⟨h1, h3⟩, h2⟩
    refine ⟨⟨h1, h2⟩, ?_⟩
    unfold gA
    simp [h3]
theorem most_le {X : St} (o : Nat) {w : Int32} (hw : 0 ≤ w) : ∀ n, (sMost X o n ≤ w ↔ ∀ h, h < n → sRisk X o h ≤ w)
  | 0 => by unfold sMost; exact ⟨fun _ h hh => absurd hh (by omega), fun _ => hw⟩
  | n + 1 => by
    have ih := most_le (X := X) o hw n
    unfold sMost
    by_cases hq : sRisk X o n ≤ sMost X o n
    · rw [if_pos hq, ih]
      refine ⟨fun h k hk => ?_, fun h k hk => h k (by omega)⟩
      by_cases e : k = n
      · subst e; exact Int32.le_trans hq (ih.mpr h)
      · exact h k (by omega)
    · rw [if_neg hq]
      refine ⟨fun h k hk => ?_, fun h => h n (by omega)⟩
      by_cases e : k = n
      · subst e; exact h
      · refine ih.mp ?_ k (by omega)
        rw [le_toInt] at hq h ⊢
        omega
theorem way_iff {X : St} (h5 : ∀ i, i < cnt X 2 → 0 ≤ (X 5 i).toInt ∧ (X 5 i).toInt ≤ 255) (o : Nat) {w : Int32} (hw : 0 ≤ w) : (sDem X o &&& bm (gB X o w) 8 = 0 ↔ sMost X o 8 ≤ w) := by
  rw [and0_iff, most_le o hw]
  constructor
  · intro h k hk
    unfold sRisk
    rw [bit_eq _ (by omega)]
    by_cases g : gb (sDem X o) k = true
    · rw [g]
      refine Decidable.byContradiction fun z => h k (by omega) ⟨g, ?_⟩
      rw [gb_bm _ 8 (by decide) k (by omega), decide_eq_true hk]
      unfold gB
      simpa using z
    · rw [Bool.eq_false_iff.mpr g]; exact hw
  · intro h i hi ⟨h1, h2⟩
    rw [gb_bm _ 8 (by decide) i hi, Bool.and_eq_true, decide_eq_true_eq] at h2
    have := h i h2.1
    unfold sRisk at this
    rw [bit_eq _ hi, h1] at this
    unfold gB at h2
    have h3 := h2.2
    rw [decide_eq_true_eq] at h3
    exact h3 this
def fMkC (X : St) (w : Int32) (k : Nat) : Int32 := if (decide (k < cnt X 28) && (decide (X 29 k = w) && decide (X 34 k = 0))) = true then X 30 k else 0
theorem adA_tail (a : Int32) (f : Nat → Int32) (n : Nat) : ∀ d, (∀ k, n ≤ k → f k = 0) → adA a f (n + d) = adA a f n
  | 0, _ => rfl
  | d + 1, h => by
    have e : adA a f (n + (d + 1)) = adA a f (n + d) + f (n + d) := rfl
    rw [e, h (n + d) (by omega), Int32.add_zero, adA_tail a f n d h]
theorem adA_congr (a : Int32) {f g : Nat → Int32} : ∀ n, (∀ k, k < n → f k = g k) → adA a f n = adA a g n
  | 0, _ => rfl
  | n + 1, h => by
    unfold adA
    rw [adA_congr a n (fun k hk => h k (by omega)), h n (by omega)]
theorem mk_eq {X : St} (hm : cnt X 28 ≤ 40) (o : Nat) : adA 0 (fMkC X (nI o)) 40 = sMk X o := by
  have e : 40 = cnt X 28 + (40 - cnt X 28) := by omega
  rw [e, adA_tail 0 (fMkC X (nI o)) (cnt X 28) (40 - cnt X 28) (fun k hk => by unfold fMkC; rw [decide_eq_false (show ¬ k < cnt X 28 by omega)]; rfl)]
  unfold sMk
  refine adA_congr 0 _ fun k hk => ?_
  unfold fMkC fMk
  rw [decide_eq_true hk, Bool.true_and]
  by_cases h1 : X 29 k = nI o <;> by_cases h2 : X 34 k = 0 <;> simp [h1, h2]
