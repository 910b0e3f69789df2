/-! who is more special than whom -/
def cl (E : Nat → Nat → Bool) (I : Nat → Bool) : Nat → Nat → Bool
  | 0, j => I j
  | n + 1, j => cl E I n j || ((cl E I n 0 && E 0 j) || ((cl E I n 1 && E 1 j) || ((cl E I n 2 && E 2 j) || ((cl E I n 3 && E 3 j) || ((cl E I n 4 && E 4 j) || (cl E I n 5 && E 5 j))))))
theorem cl_mono {E : Nat → Nat → Bool} {I : Nat → Bool} {n j : Nat} (h : cl E I n j = true) : cl E I (n + 1) j = true := by unfold cl; rw [h]; rfl
theorem cl_step {E : Nat → Nat → Bool} {I : Nat → Bool} {n k j : Nat} (hk : k < 6) (h : cl E I n k = true) (h2 : E k j = true) : cl E I (n + 1) j = true := by
  unfold cl
  rcases k with _ | _ | _ | _ | _ | _ | k
  all_goals first | (simp [h, h2]; done) | (exfalso; omega)
theorem cl_inv {E : Nat → Nat → Bool} {I : Nat → Bool} {n j : Nat} (h : cl E I (n + 1) j = true) : cl E I n j = true ∨ ∃ k, k < 6 ∧ cl E I n k = true ∧ E k j = true := by
  unfold cl at h
  simp only [Bool.or_eq_true, Bool.and_eq_true] at h
  rcases h with h | h | h | h | h | h | h
  · exact Or.inl h
  · exact Or.inr ⟨0, by decide, h⟩
  · exact Or.inr ⟨1, by decide, h⟩
  · exact Or.inr ⟨2, by decide, h⟩
  · exact Or.inr ⟨3, by decide, h⟩
  · exact Or.inr ⟨4, by decide, h⟩
  · exact Or.inr ⟨5, by decide, h⟩
def b2n (b : Bool) : Nat := if b then 1 else 0
def cts (A : Nat → Bool) : Nat := b2n (A 0) + b2n (A 1) + b2n (A 2) + b2n (A 3) + b2n (A 4) + b2n (A 5)
theorem b2n_le (b : Bool) : b2n b ≤ 1 := by cases b <;> decide
theorem b2n_mono {a b : Bool} (h : a = true → b = true) : b2n a ≤ b2n b := by
  cases a <;> cases b <;> first | decide | exact absurd (h rfl) (by decide)
theorem cts_eq {A B : Nat → Bool} (h : ∀ j, A j = true → B j = true) (e : cts B ≤ cts A) : ∀ j, j < 6 → A j = B j := by
  have key : ∀ a b : Bool, (a = true → b = true) → b2n b ≤ b2n a → a = b := by
    intro a b h1 h2
    cases a <;> cases b <;> first | rfl | exact absurd (h1 rfl) (by decide) | exact absurd h2 (by decide)
  unfold cts at e
  have h0 := b2n_mono (h 0); have h1 := b2n_mono (h 1); have h2 := b2n_mono (h 2); have h3 := b2n_mono (h 3); have h4 := b2n_mono (h 4); have h5 := b2n_mono (h 5)
  intro j hj
  have h6 : j = 0 ∨ j = 1 ∨ j = 2 ∨ j = 3 ∨ j = 4 ∨ j = 5 := by omega
  rcases h6 with rfl | rfl | rfl | rfl | rfl | rfl
  · exact key _ _ (h 0) (by omega)
  · exact key _ _ (h 1) (by omega)
  · exact key _ _ (h 2) (by omega)
  · exact key _ _ (h 3) (by omega)
  · exact key _ _ (h 4) (by omega)
  · exact key _ _ (h 5) (by omega)
theorem cts_le (A : Nat → Bool) : cts A ≤ 6 := by
  unfold cts
  have h0 := b2n_le (A 0); have h1 := b2n_le (A 1); have h2 := b2n_le (A 2); have h3 := b2n_le (A 3); have h4 := b2n_le (A 4); have h5 := b2n_le (A 5)
  omega
theorem cts_0 {A : Nat → Bool} (h : cts A = 0) : ∀ j, j < 6 → A j = false := by
  have key : ∀ a : Bool, b2n a = 0 → a = false := by intro a h; cases a <;> first | rfl | exact absurd h (by decide)
  unfold cts at h
  intro j hj
  have h6 : j = 0 ∨ j = 1 ∨ j = 2 ∨ j = 3 ∨ j = 4 ∨ j = 5 := by omega
  rcases h6 with rfl | rfl | rfl | rfl | rfl | rfl
  all_goals exact key _ (by omega)
/-- once nothing comes in a round, nothing comes later -/
theorem cl_stop {E : Nat → Nat → Bool} {I : Nat → Bool} {n : Nat} (h : ∀ j, j < 6 → cl E I n j = cl E I (n + 1) j) : ∀ j, j < 6 → cl E I (n + 1) j = cl E I (n + 2) j := by
  intro j hj
  refine bool_iff ⟨fun q => cl_mono q, fun q => ?_⟩
  rcases cl_inv q with q | ⟨k, hk, q1, q2⟩
  · exact q
  · rw [← h k hk] at q1; exact cl_step hk q1 q2
theorem cl_stop2 {E : Nat → Nat → Bool} {I : Nat → Bool} {n : Nat} (h : ∀ j, j < 6 → cl E I n j = cl E I (n + 1) j) : ∀ d, ∀ j, j < 6 → cl E I (n + d) j = cl E I (n + d + 1) j
  | 0 => h
  | d + 1 => cl_stop (cl_stop2 h d)
/-- five rounds are enough -/
theorem cl_five {E : Nat → Nat → Bool} {I : Nat → Bool} : ∀ j, j < 6 → cl E I 5 j = cl E I 6 j := by
  by_cases h0 : cts (cl E I 0) = 0
  · have z := cts_0 h0
    have all : ∀ n, ∀ j, j < 6 → cl E I n j = false := by
      intro n
      induction n with
      | zero => exact z
      | succ n ih =>
        intro j hj
        refine Bool.eq_false_iff.mpr fun q => ?_
        rcases cl_inv q with q | ⟨k, hk, q1, _⟩
        · rw [ih j hj] at q; cases q
        · rw [ih k hk] at q1; cases q1
    intro j hj
    rw [all 5 j hj, all 6 j hj]
  · have g : ∀ n, (∃ m, m ≤ n ∧ ∀ j, j < 6 → cl E I m j = cl E I (m + 1) j) ∨ n + 2 ≤ cts (cl E I (n + 1)) := by
      intro n
      induction n with
      | zero =>
        by_cases h : cts (cl E I 1) ≤ cts (cl E I 0)
        · exact Or.inl ⟨0, by omega, cts_eq (fun j q => cl_mono q) h⟩
        · refine Or.inr ?_
          show 2 ≤ cts (cl E I 1)
          omega
      | succ n ih =>
        rcases ih with ⟨m, hm, h⟩ | h
        · exact Or.inl ⟨m, by omega, h⟩
        · by_cases h2 : cts (cl E I (n + 1 + 1)) ≤ cts (cl E I (n + 1))
          · exact Or.inl ⟨n + 1, by omega, cts_eq (fun j q => cl_mono q) h2⟩
          · exact Or.inr (by omega)
    rcases g 5 with ⟨m, hm, h⟩ | h
    · have := cl_stop2 h (5 - m)
      rw [show m + (5 - m) = 5 by omega] at this
      exact this
    · have := cts_le (cl E I (5 + 1))
      omega
theorem cl_all {E : Nat → Nat → Bool} {I : Nat → Bool} {n : Nat} : ∀ j, j < 6 → cl E I n j = true → cl E I 5 j = true := by
  have up : ∀ d, ∀ j, j < 6 → cl E I (5 + d) j = true → cl E I 5 j = true := by
    intro d
    induction d with
    | zero => exact fun j _ h => h
    | succ d ih => exact fun j hj h => ih j hj ((cl_stop2 cl_five d j hj).trans h)
  intro j hj h
  by_cases hn : 5 ≤ n
  · exact up (n - 5) j hj (by rw [show 5 + (n - 5) = n by omega]; exact h)
  · have lift : ∀ d, cl E I (n + d) j = true := by
      intro d
      induction d with
      | zero => exact h
      | succ d ih => exact cl_mono ih
    have := lift (5 - n)
    rw [show n + (5 - n) = 5 by omega] at this
    exact this
/-- a way of n + 1 steps -/
def wy (E : Nat → Nat → Bool) : Nat → Nat → Nat → Prop
  | 0, k, j => E k j = true
  | n + 1, k, j => ∃ m, m < 6 ∧ wy E n k m ∧ E m j = true
theorem wy_front {E : Nat → Nat → Bool} : ∀ n k m j, m < 6 → E k m = true → wy E n m j → wy E (n + 1) k j
  | 0, k, m, j, hm, h1, h2 => ⟨m, hm, h1, h2⟩
  | n + 1, k, m, j, hm, h1, ⟨x, hx, h2, h3⟩ => ⟨x, hx, wy_front n k m x hm h1 h2, h3⟩
theorem wy_split {E : Nat → Nat → Bool} : ∀ n k j, wy E (n + 1) k j → ∃ m, m < 6 ∧ E k m = true ∧ wy E n m j
  | 0, k, j, ⟨m, hm, h1, h2⟩ => ⟨m, hm, h1, h2⟩
  | n + 1, k, j, ⟨x, hx, h1, h2⟩ => by
    obtain ⟨m, hm, q1, q2⟩ := wy_split n k x h1
    exact ⟨m, hm, q1, x, hx, q2, h2⟩
theorem fwd {E : Nat → Nat → Bool} {b : Nat} : ∀ n j, cl E (E b) n j = true → ∃ m, wy E m b j
  | 0, j, h => ⟨0, h⟩
  | n + 1, j, h => by
    rcases cl_inv h with h | ⟨k, hk, h1, h2⟩
    · exact fwd n j h
    · obtain ⟨m, hm⟩ := fwd n k h1
      exact ⟨m + 1, k, hk, hm, h2⟩
theorem fwd2 {E : Nat → Nat → Bool} {b : Nat} : ∀ n j, wy E n b j → cl E (E b) n j = true
  | 0, _, h => h
  | n + 1, _, ⟨m, hm, h1, h2⟩ => cl_step hm (fwd2 n m h1) h2
theorem bwd {E : Nat → Nat → Bool} {a : Nat} : ∀ n j, cl (fun k j => E j k) (fun j => E j a) n j = true → ∃ m, wy E m j a
  | 0, j, h => ⟨0, h⟩
  | n + 1, j, h => by
    rcases cl_inv h with h | ⟨k, hk, h1, h2⟩
    · exact bwd n j h
    · obtain ⟨m, hm⟩ := bwd n k h1
      exact ⟨m + 1, wy_front m j k a hk h2 hm⟩
theorem bwd2 {E : Nat → Nat → Bool} {a : Nat} : ∀ n j, wy E n j a → cl (fun k j => E j k) (fun j => E j a) n j = true
  | 0, _, h => h
  | n + 1, j, h => by
    obtain ⟨m, hm, h1, h2⟩ := wy_split n j a h
    exact cl_step hm (bwd2 n m h2) h1
theorem both {E : Nat → Nat → Bool} {a b : Nat} (ha : a < 6) (hb : b < 6) : cl E (E b) 5 a = cl (fun k j => E j k) (fun j => E j a) 5 b := by
  refine bool_iff ⟨fun h => ?_, fun h => ?_⟩
  · obtain ⟨m, hm⟩ := fwd 5 a h
    exact cl_all b hb (bwd2 m b hm)
  · obtain ⟨m, hm⟩ := bwd 5 b h
    exact cl_all a ha (fwd2 m a hm)
/-! the reference: field 8 -/
def RR (X : St) (k j : Nat) : Bool := decide (¬ X 7 (6 * k + j) = 0)
def m8 (X : St) (j : Nat) : Bool := decide (¬ X 8 j = 0)
theorem m8_up {X : St} {i j : Nat} {v : Int32} : m8 (sU X 8 i v) j = if j = i then decide (¬ v = 0) else m8 X j := by
  unfold m8 sU upd
  rw [if_pos rfl]
  by_cases h : j = i
  · rw [if_pos h]; simp [h]
  · rw [if_neg h]; simp [h]
theorem RR_8 {X : St} {i : Nat} {v : Int32} : RR (sU X 8 i v) = RR X := by
  unfold RR; rw [sU_ne (by decide)]
theorem RR_j (X : St) (k : Nat) : ∀ n, RR (jL X k n) = RR X
  | 0 => rfl
  | n + 1 => RR_8.trans (RR_j X k n)
theorem RR_k (X : St) : ∀ n, RR (kL X n) = RR X
  | 0 => rfl
  | n + 1 => by rw [kL_s, RR_j, RR_k X n]
theorem RR_r (X : St) : ∀ n, RR (rL X n) = RR X
  | 0 => rfl
  | n + 1 => by rw [rL_s, RR_k, RR_r X n]
theorem RR_a (X : St) (a : Nat) : ∀ n, RR (aI X a n) = RR X
  | 0 => rfl
  | n + 1 => by rw [aI_s]; exact RR_8.trans (RR_a X a n)
theorem m8_a (X : St) (a : Nat) : ∀ n j, j < n → m8 (aI X a n) j = RR X a j
  | 0, j, h => absurd h (by omega)
  | n + 1, j, h => by
    rw [aI_s, m8_up]
    by_cases e : j = n
    · subst e; rw [if_pos rfl, aI_7]; rfl
    · rw [if_neg e]; exact m8_a X a n j (by omega)
theorem m8_j (X : St) (k : Nat) : ∀ n j, m8 (jL X k n) j = (m8 X j || (decide (j < n) && (m8 X k && RR X k j)))
  | 0, j => by rw [jL_0]; simp
  | n + 1, j => by
    have e : jL X k (n + 1) = sU (jL X k n) 8 n (bV (jL X k n) k n) := rfl
    rw [e, m8_up]
    by_cases h : j = n
    · subst h
      rw [if_pos rfl]
      have e2 : decide (¬ bV (jL X k j) k j = 0) = (m8 (jL X k j) j || (m8 (jL X k j) k && RR (jL X k j) k j)) := by
        unfold bV
        rw [show (decide (¬ jL X k j 8 j = 0) || (decide (¬ jL X k j 8 k = 0) && decide (¬ jL X k j 7 (6 * k + j) = 0))) = (m8 (jL X k j) j || (m8 (jL X k j) k && RR (jL X k j) k j)) from rfl]
        cases (m8 (jL X k j) j || (m8 (jL X k j) k && RR (jL X k j) k j)) <;> rfl
      rw [e2, RR_j, m8_j X k j j, m8_j X k j k]
      simp
      cases m8 X k <;> simp
    · rw [if_neg h, m8_j X k n j]
      have : (j < n + 1) ↔ (j < n) := by omega
      simp [this]
theorem m8_k_mono (X : St) (j : Nat) : ∀ n, m8 X j = true → m8 (kL X n) j = true
  | 0, h => h
  | n + 1, h => by rw [kL_s, m8_j, m8_k_mono X j n h]; rfl
theorem m8_k_step (X : St) {k j : Nat} (hj : j < 6) : ∀ n, k < n → m8 X k = true → RR X k j = true → m8 (kL X n) j = true
  | 0, h, _, _ => absurd h (by omega)
  | n + 1, h, h1, h2 => by
    rw [kL_s, m8_j]
    by_cases e : k = n
    · subst e
      rw [m8_k_mono X k k h1, RR_k, h2]; simp [hj]
    · rw [m8_k_step X hj n (by omega) h1 h2]; rfl
theorem m8_k_sound (X : St) (T : Nat → Prop) (hT : ∀ k j, k < 6 → T k → RR X k j = true → T j) (h0 : ∀ j, m8 X j = true → T j) : ∀ n, n ≤ 6 → ∀ j, m8 (kL X n) j = true → T j
  | 0, _, j, h => h0 j h
  | n + 1, hn, j, h => by
    rw [kL_s, m8_j, RR_k] at h
    simp only [Bool.or_eq_true, Bool.and_eq_true] at h
    rcases h with h | ⟨_, h1, h2⟩
    · exact m8_k_sound X T hT h0 n (by omega) j h
    · exact hT n j (by omega) (m8_k_sound X T hT h0 n (by omega) n h1) h2
theorem m8_r_full (X : St) (I : Nat → Bool) (h0 : ∀ j, j < 6 → I j = true → m8 X j = true) : ∀ n j, j < 6 → cl (RR X) I n j = true → m8 (rL X n) j = true
  | 0, j, hj, h => h0 j hj h
  | n + 1, j, hj, h => by
    rw [rL_s]
    rcases cl_inv h with h | ⟨k, hk, h1, h2⟩
    · exact m8_k_mono _ j 6 (m8_r_full X I h0 n j hj h)
    · exact m8_k_step _ hj 6 hk (m8_r_full X I h0 n k hk h1) (by rw [RR_r]; exact h2)
theorem m8_r_sound (X : St) (T : Nat → Prop) (hT : ∀ k j, k < 6 → T k → RR X k j = true → T j) (h0 : ∀ j, m8 X j = true → T j) : ∀ n j, m8 (rL X n) j = true → T j
  | 0, j, h => h0 j h
  | n + 1, j, h => by
    rw [rL_s] at h
    exact m8_k_sound (rL X n) T (fun k j hk q1 q2 => hT k j hk q1 (by rw [RR_r] at q2; exact q2)) (m8_r_sound X T hT h0 n) 6 (by decide) j h
theorem ref_reach {X : St} {a b : Nat} (ha : a < 6) : m8 (uReach b X) a = cl (RR X) (RR X b) 5 a := by
  have e : RR (aI X b 6) = RR X := RR_a X b 6
  refine bool_iff ⟨fun h => ?_, fun h => ?_⟩
  · refine m8_r_sound (aI X b 6) (fun j => j < 6 → cl (RR X) (RR X b) 5 j = true) (fun k j hk q1 q2 hj => ?_) (fun j q hj => ?_) 6 a h ha
    · rw [e] at q2
      exact cl_all j hj (cl_step hk (q1 hk) q2)
    · rw [m8_a X b 6 j hj] at q
      exact cl_all (n := 0) j hj q
  · refine m8_r_full (aI X b 6) (RR X b) (fun j hj q => by rw [m8_a X b 6 j hj]; exact q) 6 a ha ?_
    rw [e]
    exact cl_mono h
/-! the class: sets of bits -/
def mI (X : St) (f : Int32) : Nat → Int32
  | 0 => f
  | n + 1 => if (decide (n < cnt X 2) && hB (mI X f n) (nI n)) = true then mI X f n ||| msB X n else mI X f n
def mO (X : St) (f : Int32) : Nat → Int32
  | 0 => f
  | r + 1 => mI X (mO X f r) 6
theorem gb_ms (X : St) (n : Nat) {j : Nat} (hj : j < 6) : gb (msB X n) j = RR X j n := by
  unfold msB RR
  rw [gb_bm _ 6 (by decide) j (by omega), decide_eq_true hj]
  by_cases h : X 7 (6 * j + n) = 0 <;> simp [h]
theorem gb_mI (X : St) (f : Int32) (n : Nat) {j : Nat} (hn : n < 6) (hj : j < 6) : gb (mI X f (n + 1)) j = (gb (mI X f n) j || (decide (n < cnt X 2) && (gb (mI X f n) n && RR X j n))) := by
  have e : mI X f (n + 1) = if (decide (n < cnt X 2) && hB (mI X f n) (nI n)) = true then mI X f n ||| msB X n else mI X f n := rfl
  rw [e, hB_gb _ (by omega)]
  by_cases h : (decide (n < cnt X 2) && gb (mI X f n) n) = true
  · rw [if_pos h, gb_or, gb_ms X n hj]
    rw [Bool.and_eq_true] at h
    rw [h.1, h.2]; rfl
  · rw [if_neg h]
    cases h1 : decide (n < cnt X 2) <;> cases h2 : gb (mI X f n) n <;> simp [h1, h2] at h ⊢
theorem gI_mono (X : St) (f : Int32) {j : Nat} (hj : j < 6) : ∀ n, n ≤ 6 → gb f j = true → gb (mI X f n) j = true
  | 0, _, h => h
  | n + 1, hn, h => by rw [gb_mI X f n (by omega) hj, gI_mono X f hj n (by omega) h]; rfl
theorem gI_step (X : St) (f : Int32) {k j : Nat} (hk : k < cnt X 2) (hj : j < 6) (h1 : gb f k = true) (h2 : RR X j k = true) : ∀ n, n ≤ 6 → k < n → gb (mI X f n) j = true
  | 0, _, h => absurd h (by omega)
  | n + 1, hn, h => by
    rw [gb_mI X f n (by omega) hj]
    by_cases e : k = n
    · subst e
      rw [gI_mono X f (by omega) k (by omega) h1, h2, decide_eq_true hk]; simp
    · rw [gI_step X f hk hj h1 h2 n (by omega) (by omega)]; rfl
theorem gI_sound (X : St) (f : Int32) (T : Nat → Prop) (hT : ∀ k j, k < 6 → j < 6 → T k → RR X j k = true → T j) (h0 : ∀ j, j < 6 → gb f j = true → T j) : ∀ n, n ≤ 6 → ∀ j, j < 6 → gb (mI X f n) j = true → T j
  | 0, _, j, hj, h => h0 j hj h
  | n + 1, hn, j, hj, h => by
    rw [gb_mI X f n (by omega) hj] at h
    simp only [Bool.or_eq_true, Bool.and_eq_true] at h
    rcases h with h | ⟨_, h1, h2⟩
    · exact gI_sound X f T hT h0 n (by omega) j hj h
    · exact hT n j (by omega) hj (gI_sound X f T hT h0 n (by omega) n (by omega) h1) h2
theorem gO_full (X : St) (f : Int32) (I : Nat → Bool) (hc : ∀ j k, j < 6 → k < 6 → RR X j k = true → k < cnt X 2) (h0 : ∀ j, j < 6 → I j = true → gb f j = true) : ∀ n j, j < 6 → cl (fun k j => RR X j k) I n j = true → gb (mO X f n) j = true
  | 0, j, hj, h => h0 j hj h
  | n + 1, j, hj, h => by
    have e : mO X f (n + 1) = mI X (mO X f n) 6 := rfl
    rw [e]
    rcases cl_inv h with h | ⟨k, hk, h1, h2⟩
    · exact gI_mono X _ hj 6 (by decide) (gO_full X f I hc h0 n j hj h)
    · exact gI_step X _ (hc j k hj hk h2) hj (gO_full X f I hc h0 n k hk h1) h2 6 (by decide) hk
theorem gO_sound (X : St) (f : Int32) (T : Nat → Prop) (hT : ∀ k j, k < 6 → j < 6 → T k → RR X j k = true → T j) (h0 : ∀ j, j < 6 → gb f j = true → T j) : ∀ n j, j < 6 → gb (mO X f n) j = true → T j
  | 0, j, hj, h => h0 j hj h
  | n + 1, j, hj, h => gI_sound X (mO X f n) T hT (gO_sound X f T hT h0 n) 6 (by decide) j hj h
theorem cls_reach {X : St} {a b : Nat} (hb : b < 6) (hc : ∀ j k, j < 6 → k < 6 → RR X j k = true → k < cnt X 2) : gb (mO X (msB X a) 5) b = cl (fun k j => RR X j k) (fun j => RR X j a) 5 b := by
  refine bool_iff ⟨fun h => ?_, fun h => ?_⟩
  · refine gO_sound X (msB X a) (fun j => j < 6 → cl (fun k j => RR X j k) (fun j => RR X j a) 5 j = true) (fun k j hk hj q1 q2 _ => ?_) (fun j hj q _ => ?_) 5 b hb h hb
    · exact cl_all j hj (cl_step hk (q1 hk) q2)
    · rw [gb_ms X a hj] at q
      exact cl_all (n := 0) j hj q
  · exact gO_full X (msB X a) (fun j => RR X j a) hc (fun j hj q => by rw [gb_ms X a hj]; exact q) 5 b hb h
/-- the class's test for a ring is the reference's -/
theorem ring_eq {n : Nat} {X : St} (hi : INV n X) {a b : Nat} (ha : a < 6) (hb : b < 6) : hB (mO X (msB X a) 5) (nI b) = decide (¬ uReach b X 8 a = 0) := by
  have hclo := hi.2.2.2.2.2.2.2.2.2.2.2.1
  have hc : ∀ j k, j < 6 → k < 6 → RR X j k = true → k < cnt X 2 := fun j k hj hk q => Nat.lt_of_not_le fun z => by
    have := hclo j k hj hk (Or.inr z)
    unfold RR at q
    simp [this] at q
  rw [hB_gb _ (by omega), cls_reach hb hc, ← both ha hb, ← ref_reach ha]
  rfl
