theorem sU_eq {S : St} {f i j : Nat} {v : Int32} : sU S f i v f j = if j = i then v else S f j := by unfold sU upd; rw [if_pos rfl]
theorem INV_up {n : Nat} {S : St} (h : INV n S) : INV (n + 1) S := by
  obtain ⟨h1, h2, h3, h4, h5, h6, h7, h8, h9, h10, h11, h12, h13, h14, h15, h16, h17, h18, h19⟩ := h
  refine ⟨h1, h2, h3, h4, h5, h6, h7, h8, h9, fun b hb => ⟨(h10 b hb).1, ?_⟩, h11, h12, h13, h14, h15, h16, h17, h18, h19⟩
  have := (h10 b hb).2
  omega
theorem INV_free {n : Nat} {S : St} {f i : Nat} {v : Int32} (hf : ([1, 2, 5, 7, 8, 9, 12, 13, 15, 16, 17, 18, 19, 20, 21, 24, 25, 28, 30, 34, 36, 37] : List Nat).all (· != f) = true) (h : INV n S) : INV n (sU S f i v) := by
  have e : ∀ g, g ∈ ([1, 2, 5, 7, 8, 9, 12, 13, 15, 16, 17, 18, 19, 20, 21, 24, 25, 28, 30, 34, 36, 37] : List Nat) → sU S f i v g = S g := fun g hg => sU_ne (by have := List.all_eq_true.mp hf g hg; simpa using this)
  unfold INV CN B01 BO cnt at h ⊢
  rw [e 1 (by decide), e 2 (by decide), e 5 (by decide), e 7 (by decide), e 8 (by decide), e 9 (by decide), e 12 (by decide), e 13 (by decide), e 15 (by decide), e 16 (by decide), e 17 (by decide), e 18 (by decide), e 19 (by decide), e 20 (by decide), e 21 (by decide), e 24 (by decide), e 25 (by decide), e 28 (by decide), e 30 (by decide), e 34 (by decide), e 36 (by decide), e 37 (by decide)]
  exact h
theorem INV_f12 {n : Nat} {S : St} {i : Nat} {v : Int32} (h : INV n S) (hv : i < cnt S 9 → v = 1000000 ∨ (0 ≤ v.toInt ∧ v.toInt ≤ 5000)) : INV n (sU S 12 i v) := by
  have e : ∀ g, g ≠ 12 → sU S 12 i v g = S g := fun g hg => sU_ne hg
  obtain ⟨h1, h2, h3, h4, h5, h6, h7, h8, h9, h10, h11, h12, h13, h14, h15, h16, h17, h18, h19⟩ := h
  unfold CN B01 BO cnt at *
  unfold INV CN B01 BO cnt
  rw [e 1 (by decide), e 2 (by decide), e 5 (by decide), e 7 (by decide), e 8 (by decide), e 9 (by decide), e 13 (by decide), e 15 (by decide), e 16 (by decide), e 17 (by decide), e 18 (by decide), e 19 (by decide), e 20 (by decide), e 21 (by decide), e 24 (by decide), e 25 (by decide), e 28 (by decide), e 30 (by decide), e 34 (by decide), e 36 (by decide), e 37 (by decide)]
  refine ⟨h1, h2, h3, h4, h5, h6, h7, h8, h9, h10, h11, h12, h13, ?_, h15, h16, h17, h18, h19⟩
  · intro j hj
    rw [sU_eq]
    by_cases e2 : j = i
    · subst e2; rw [if_pos rfl]; exact hv hj
    · rw [if_neg e2]; exact h14 j hj
theorem INV_f5 {n : Nat} {S : St} {i : Nat} {v : Int32} (h : INV n S) (hv : i < cnt S 2 → 0 ≤ v.toInt ∧ v.toInt ≤ 255) : INV n (sU S 5 i v) := by
  have e : ∀ g, g ≠ 5 → sU S 5 i v g = S g := fun g hg => sU_ne hg
  obtain ⟨h1, h2, h3, h4, h5, h6, h7, h8, h9, h10, h11, h12, h13, h14, h15, h16, h17, h18, h19⟩ := h
  unfold CN B01 BO cnt at *
  unfold INV CN B01 BO cnt
  rw [e 1 (by decide), e 2 (by decide), e 7 (by decide), e 8 (by decide), e 9 (by decide), e 12 (by decide), e 13 (by decide), e 15 (by decide), e 16 (by decide), e 17 (by decide), e 18 (by decide), e 19 (by decide), e 20 (by decide), e 21 (by decide), e 24 (by decide), e 25 (by decide), e 28 (by decide), e 30 (by decide), e 34 (by decide), e 36 (by decide), e 37 (by decide)]
  refine ⟨h1, h2, h3, h4, h5, h6, h7, h8, h9, h10, h11, h12, ?_, h14, h15, h16, h17, h18, h19⟩
  · intro j hj
    rw [sU_eq]
    by_cases e2 : j = i
    · subst e2; rw [if_pos rfl]; exact hv hj
    · rw [if_neg e2]; exact h13 j hj
theorem INV_f30 {n : Nat} {S : St} {i : Nat} {v : Int32} (h : INV n S) (hv : i < cnt S 28 → 1 ≤ v.toInt ∧ v.toInt ≤ 10000) : INV n (sU S 30 i v) := by
  have e : ∀ g, g ≠ 30 → sU S 30 i v g = S g := fun g hg => sU_ne hg
  obtain ⟨h1, h2, h3, h4, h5, h6, h7, h8, h9, h10, h11, h12, h13, h14, h15, h16, h17, h18, h19⟩ := h
  unfold CN B01 BO cnt at *
  unfold INV CN B01 BO cnt
  rw [e 1 (by decide), e 2 (by decide), e 5 (by decide), e 7 (by decide), e 8 (by decide), e 9 (by decide), e 12 (by decide), e 13 (by decide), e 15 (by decide), e 16 (by decide), e 17 (by decide), e 18 (by decide), e 19 (by decide), e 20 (by decide), e 21 (by decide), e 24 (by decide), e 25 (by decide), e 28 (by decide), e 34 (by decide), e 36 (by decide), e 37 (by decide)]
  refine ⟨h1, h2, h3, h4, h5, h6, h7, h8, ?_, h10, h11, h12, h13, h14, h15, h16, h17, h18, h19⟩
  · intro j hj
    rw [sU_eq]
    by_cases e2 : j = i
    · subst e2; rw [if_pos rfl]; exact hv hj
    · rw [if_neg e2]; exact h9 j hj
theorem INV_f1 {n : Nat} {S : St} {v : Int32} (h : INV n S) (hv : 0 ≤ v.toInt ∧ v.toInt ≤ 5000) : INV n (sU S 1 0 v) := by
  have e : ∀ g, g ≠ 1 → sU S 1 0 v g = S g := fun g hg => sU_ne hg
  obtain ⟨h1, h2, h3, h4, h5, h6, h7, h8, h9, h10, h11, h12, h13, h14, h15, h16, h17, h18, h19⟩ := h
  unfold CN B01 BO cnt at *
  unfold INV CN B01 BO cnt
  rw [e 2 (by decide), e 5 (by decide), e 7 (by decide), e 8 (by decide), e 9 (by decide), e 12 (by decide), e 13 (by decide), e 15 (by decide), e 16 (by decide), e 17 (by decide), e 18 (by decide), e 19 (by decide), e 20 (by decide), e 21 (by decide), e 24 (by decide), e 25 (by decide), e 28 (by decide), e 30 (by decide), e 34 (by decide), e 36 (by decide), e 37 (by decide)]
  refine ⟨h1, h2, h3, h4, h5, h6, h7, h8, h9, h10, ?_, h12, h13, h14, h15, h16, h17, h18, h19⟩
  · rw [sU_eq, if_pos rfl]; exact hv
theorem INV_f24 {n : Nat} {S : St} {i : Nat} {v : Int32} (h : INV n S) (hi : i < cnt S 13) (hv : 0 ≤ v.toInt ∧ v.toInt ≤ 31) : INV n (sU S 24 i v) := by
  have e : ∀ g, g ≠ 24 → sU S 24 i v g = S g := fun g hg => sU_ne hg
  obtain ⟨h1, h2, h3, h4, h5, h6, h7, h8, h9, h10, h11, h12, h13, h14, h15, h16, h17, h18, h19⟩ := h
  unfold CN B01 BO cnt at *
  unfold INV CN B01 BO cnt
  rw [e 1 (by decide), e 2 (by decide), e 5 (by decide), e 7 (by decide), e 8 (by decide), e 9 (by decide), e 12 (by decide), e 13 (by decide), e 15 (by decide), e 16 (by decide), e 17 (by decide), e 18 (by decide), e 19 (by decide), e 20 (by decide), e 21 (by decide), e 25 (by decide), e 28 (by decide), e 30 (by decide), e 34 (by decide), e 36 (by decide), e 37 (by decide)]
  refine ⟨h1, h2, h3, h4, h5, h6, h7, h8, h9, h10, h11, h12, h13, h14, h15, ?_, ?_, h18, h19⟩
  · intro p hp hp2
    obtain ⟨a1, a2, a3, a4, a5⟩ := h16 p hp hp2
    exact ⟨a1, a2, by rw [sU_eq, if_neg (by omega)]; exact a3, a4, a5⟩
  · intro j hj
    rw [sU_eq]
    by_cases e2 : j = i
    · subst e2; rw [if_pos rfl]; exact hv
    · rw [if_neg e2]; exact h17 j hj
theorem INV_f15 {n : Nat} {S : St} {i : Nat} {v : Int32} (h : INV n S) (hi : i < cnt S 13) : INV n (sU S 15 i v) := by
  have e : ∀ g, g ≠ 15 → sU S 15 i v g = S g := fun g hg => sU_ne hg
  obtain ⟨h1, h2, h3, h4, h5, h6, h7, h8, h9, h10, h11, h12, h13, h14, h15, h16, h17, h18, h19⟩ := h
  unfold CN B01 BO cnt at *
  unfold INV CN B01 BO cnt
  rw [e 1 (by decide), e 2 (by decide), e 5 (by decide), e 7 (by decide), e 8 (by decide), e 9 (by decide), e 12 (by decide), e 13 (by decide), e 16 (by decide), e 17 (by decide), e 18 (by decide), e 19 (by decide), e 20 (by decide), e 21 (by decide), e 24 (by decide), e 25 (by decide), e 28 (by decide), e 30 (by decide), e 34 (by decide), e 36 (by decide), e 37 (by decide)]
  refine ⟨h1, h2, h3, h4, h5, h6, h7, h8, h9, h10, h11, h12, h13, h14, h15, ?_, h17, h18, h19⟩
  · intro p hp hp2
    obtain ⟨a1, a2, a3, a4, a5⟩ := h16 p hp hp2
    exact ⟨by rw [sU_eq, if_neg (by omega)]; exact a1, a2, a3, a4, a5⟩
theorem INV_f19 {n : Nat} {S : St} {i : Nat} {v : Int32} (h : INV n S) (hi : i < cnt S 13) : INV n (sU S 19 i v) := by
  have e : ∀ g, g ≠ 19 → sU S 19 i v g = S g := fun g hg => sU_ne hg
  obtain ⟨h1, h2, h3, h4, h5, h6, h7, h8, h9, h10, h11, h12, h13, h14, h15, h16, h17, h18, h19⟩ := h
  unfold CN B01 BO cnt at *
  unfold INV CN B01 BO cnt
  rw [e 1 (by decide), e 2 (by decide), e 5 (by decide), e 7 (by decide), e 8 (by decide), e 9 (by decide), e 12 (by decide), e 13 (by decide), e 15 (by decide), e 16 (by decide), e 17 (by decide), e 18 (by decide), e 20 (by decide), e 21 (by decide), e 24 (by decide), e 25 (by decide), e 28 (by decide), e 30 (by decide), e 34 (by decide), e 36 (by decide), e 37 (by decide)]
  refine ⟨h1, h2, h3, h4, h5, h6, h7, h8, h9, h10, h11, h12, h13, h14, h15, ?_, h17, h18, h19⟩
  · intro p hp hp2
    obtain ⟨a1, a2, a3, a4, a5⟩ := h16 p hp hp2
    exact ⟨a1, by rw [sU_eq, if_neg (by omega)]; exact a2, a3, a4, a5⟩
theorem INV_f18 {n : Nat} {S : St} {q t : Nat} {v : Int32} (h : INV n S) (hq : q < cnt S 13) (ht : t < 12) : INV n (sU S 18 (12 * q + t) v) := by
  have e : ∀ g, g ≠ 18 → sU S 18 (12 * q + t) v g = S g := fun g hg => sU_ne hg
  obtain ⟨h1, h2, h3, h4, h5, h6, h7, h8, h9, h10, h11, h12, h13, h14, h15, h16, h17, h18, h19⟩ := h
  unfold CN B01 BO cnt at *
  unfold INV CN B01 BO cnt
  rw [e 1 (by decide), e 2 (by decide), e 5 (by decide), e 7 (by decide), e 8 (by decide), e 9 (by decide), e 12 (by decide), e 13 (by decide), e 15 (by decide), e 16 (by decide), e 17 (by decide), e 19 (by decide), e 20 (by decide), e 21 (by decide), e 24 (by decide), e 25 (by decide), e 28 (by decide), e 30 (by decide), e 34 (by decide), e 36 (by decide), e 37 (by decide)]
  refine ⟨h1, h2, h3, h4, h5, h6, h7, h8, h9, h10, h11, h12, h13, h14, h15, ?_, h17, h18, h19⟩
  · intro p hp hp2
    obtain ⟨a1, a2, a3, a4, a5⟩ := h16 p hp hp2
    exact ⟨a1, a2, a3, a4, fun j hj => by rw [sU_eq, if_neg (by omega)]; exact a5 j hj⟩
theorem INV_f16 {n : Nat} {S : St} {q t : Nat} {v : Int32} (h : INV n S) (hq : q < cnt S 13) (ht : t < 8) (hv : 0 ≤ v.toInt ∧ v.toInt ≤ 9) : INV n (sU S 16 (8 * q + t) v) := by
  have e : ∀ g, g ≠ 16 → sU S 16 (8 * q + t) v g = S g := fun g hg => sU_ne hg
  obtain ⟨h1, h2, h3, h4, h5, h6, h7, h8, h9, h10, h11, h12, h13, h14, h15, h16, h17, h18, h19⟩ := h
  unfold CN B01 BO cnt at *
  unfold INV CN B01 BO cnt
  rw [e 1 (by decide), e 2 (by decide), e 5 (by decide), e 7 (by decide), e 8 (by decide), e 9 (by decide), e 12 (by decide), e 13 (by decide), e 15 (by decide), e 17 (by decide), e 18 (by decide), e 19 (by decide), e 20 (by decide), e 21 (by decide), e 24 (by decide), e 25 (by decide), e 28 (by decide), e 30 (by decide), e 34 (by decide), e 36 (by decide), e 37 (by decide)]
  refine ⟨h1, h2, h3, h4, h5, h6, h7, h8, h9, h10, h11, h12, h13, h14, h15, ?_, h17, ?_, h19⟩
  · intro p hp hp2
    obtain ⟨a1, a2, a3, a4, a5⟩ := h16 p hp hp2
    exact ⟨a1, a2, a3, fun j hj => ⟨by rw [sU_eq, if_neg (by omega)]; exact (a4 j hj).1, (a4 j hj).2⟩, a5⟩
  · intro p j hp hj
    obtain ⟨b1, b2, b3, b4⟩ := h18 p j hp hj
    by_cases e2 : 8 * p + j = 8 * q + t
    · rw [sU_eq, if_pos e2]; exact ⟨hv.1, hv.2, b3, b4⟩
    · rw [sU_eq, if_neg e2]; exact h18 p j hp hj
theorem INV_f17 {n : Nat} {S : St} {q t : Nat} {v : Int32} (h : INV n S) (hq : q < cnt S 13) (ht : t < 8) (hv : 0 ≤ v.toInt ∧ v.toInt ≤ 9) : INV n (sU S 17 (8 * q + t) v) := by
  have e : ∀ g, g ≠ 17 → sU S 17 (8 * q + t) v g = S g := fun g hg => sU_ne hg
  obtain ⟨h1, h2, h3, h4, h5, h6, h7, h8, h9, h10, h11, h12, h13, h14, h15, h16, h17, h18, h19⟩ := h
  unfold CN B01 BO cnt at *
  unfold INV CN B01 BO cnt
  rw [e 1 (by decide), e 2 (by decide), e 5 (by decide), e 7 (by decide), e 8 (by decide), e 9 (by decide), e 12 (by decide), e 13 (by decide), e 15 (by decide), e 16 (by decide), e 18 (by decide), e 19 (by decide), e 20 (by decide), e 21 (by decide), e 24 (by decide), e 25 (by decide), e 28 (by decide), e 30 (by decide), e 34 (by decide), e 36 (by decide), e 37 (by decide)]
  refine ⟨h1, h2, h3, h4, h5, h6, h7, h8, h9, h10, h11, h12, h13, h14, h15, ?_, h17, ?_, h19⟩
  · intro p hp hp2
    obtain ⟨a1, a2, a3, a4, a5⟩ := h16 p hp hp2
    exact ⟨a1, a2, a3, fun j hj => ⟨(a4 j hj).1, by rw [sU_eq, if_neg (by omega)]; exact (a4 j hj).2⟩, a5⟩
  · intro p j hp hj
    obtain ⟨b1, b2, b3, b4⟩ := h18 p j hp hj
    by_cases e2 : 8 * p + j = 8 * q + t
    · rw [sU_eq, if_pos e2]; exact ⟨b1, b2, hv.1, hv.2⟩
    · rw [sU_eq, if_neg e2]; exact h18 p j hp hj
theorem INV_f20 {n : Nat} {S : St} {i : Nat} {v : Int32} (h : INV n S) (hv : i < cnt S 13 → (v = -1 ∧ S 21 i = -1) ∨ (¬ v = -1 ∧ v = nI v.toNatClampNeg ∧ v.toNatClampNeg < cnt S 25)) : INV n (sU S 20 i v) := by
  have e : ∀ g, g ≠ 20 → sU S 20 i v g = S g := fun g hg => sU_ne hg
  obtain ⟨h1, h2, h3, h4, h5, h6, h7, h8, h9, h10, h11, h12, h13, h14, h15, h16, h17, h18, h19⟩ := h
  unfold CN B01 BO cnt at *
  unfold INV CN B01 BO cnt
  rw [e 1 (by decide), e 2 (by decide), e 5 (by decide), e 7 (by decide), e 8 (by decide), e 9 (by decide), e 12 (by decide), e 13 (by decide), e 15 (by decide), e 16 (by decide), e 17 (by decide), e 18 (by decide), e 19 (by decide), e 21 (by decide), e 24 (by decide), e 25 (by decide), e 28 (by decide), e 30 (by decide), e 34 (by decide), e 36 (by decide), e 37 (by decide)]
  refine ⟨h1, h2, h3, h4, h5, h6, h7, ?_, h9, h10, h11, h12, h13, h14, ?_, h16, h17, h18, h19⟩
  · intro j hj
    rw [sU_eq]
    by_cases e2 : j = i
    · subst e2; rw [if_pos rfl]; rcases hv hj with ⟨a, _⟩ | ⟨_, a⟩; exact Or.inl a; exact Or.inr a
    · rw [if_neg e2]; exact h8 j hj
  · intro j hj
    rw [sU_eq]
    by_cases e2 : j = i
    · subst e2; rw [if_pos rfl]; intro z
      rcases hv hj with ⟨_, a⟩ | ⟨a, _⟩
      · exact a
      · exact absurd z a
    · rw [if_neg e2]; exact h15 j hj
theorem INV_f21 {n : Nat} {S : St} {i : Nat} {v : Int32} (h : INV n S) (hv : i < cnt S 13 → S 20 i = -1 → v = -1) : INV n (sU S 21 i v) := by
  have e : ∀ g, g ≠ 21 → sU S 21 i v g = S g := fun g hg => sU_ne hg
  obtain ⟨h1, h2, h3, h4, h5, h6, h7, h8, h9, h10, h11, h12, h13, h14, h15, h16, h17, h18, h19⟩ := h
  unfold CN B01 BO cnt at *
  unfold INV CN B01 BO cnt
  rw [e 1 (by decide), e 2 (by decide), e 5 (by decide), e 7 (by decide), e 8 (by decide), e 9 (by decide), e 12 (by decide), e 13 (by decide), e 15 (by decide), e 16 (by decide), e 17 (by decide), e 18 (by decide), e 19 (by decide), e 20 (by decide), e 24 (by decide), e 25 (by decide), e 28 (by decide), e 30 (by decide), e 34 (by decide), e 36 (by decide), e 37 (by decide)]
  refine ⟨h1, h2, h3, h4, h5, h6, h7, h8, h9, h10, h11, h12, h13, h14, ?_, h16, h17, h18, h19⟩
  · intro j hj
    rw [sU_eq]
    by_cases e2 : j = i
    · subst e2; rw [if_pos rfl]; exact hv hj
    · rw [if_neg e2]; exact h15 j hj
theorem INV_f34 {n : Nat} {S : St} {i : Nat} {v : Int32} (h : INV n S) (hi : i < cnt S 28) : INV n (sU S 34 i v) := by
  have e : ∀ g, g ≠ 34 → sU S 34 i v g = S g := fun g hg => sU_ne hg
  obtain ⟨h1, h2, h3, h4, h5, h6, h7, h8, h9, h10, h11, h12, h13, h14, h15, h16, h17, h18, h19⟩ := h
  unfold CN B01 BO cnt at *
  unfold INV CN B01 BO cnt
  rw [e 1 (by decide), e 2 (by decide), e 5 (by decide), e 7 (by decide), e 8 (by decide), e 9 (by decide), e 12 (by decide), e 13 (by decide), e 15 (by decide), e 16 (by decide), e 17 (by decide), e 18 (by decide), e 19 (by decide), e 20 (by decide), e 21 (by decide), e 24 (by decide), e 25 (by decide), e 28 (by decide), e 30 (by decide), e 36 (by decide), e 37 (by decide)]
  refine ⟨h1, h2, h3, h4, h5, h6, h7, h8, h9, h10, h11, h12, h13, h14, h15, h16, h17, h18, ?_⟩
  · intro b hb hb2
    obtain ⟨a1, a2, a3⟩ := h19 b hb hb2
    exact ⟨by rw [sU_eq, if_neg (by omega)]; exact a1, a2, a3⟩
theorem INV_f36 {n : Nat} {S : St} {i : Nat} {v : Int32} (h : INV n S) (hi : i < cnt S 28) : INV n (sU S 36 i v) := by
  have e : ∀ g, g ≠ 36 → sU S 36 i v g = S g := fun g hg => sU_ne hg
  obtain ⟨h1, h2, h3, h4, h5, h6, h7, h8, h9, h10, h11, h12, h13, h14, h15, h16, h17, h18, h19⟩ := h
  unfold CN B01 BO cnt at *
  unfold INV CN B01 BO cnt
  rw [e 1 (by decide), e 2 (by decide), e 5 (by decide), e 7 (by decide), e 8 (by decide), e 9 (by decide), e 12 (by decide), e 13 (by decide), e 15 (by decide), e 16 (by decide), e 17 (by decide), e 18 (by decide), e 19 (by decide), e 20 (by decide), e 21 (by decide), e 24 (by decide), e 25 (by decide), e 28 (by decide), e 30 (by decide), e 34 (by decide), e 37 (by decide)]
  refine ⟨h1, h2, h3, h4, h5, h6, h7, h8, h9, h10, h11, h12, h13, h14, h15, h16, h17, h18, ?_⟩
  · intro b hb hb2
    obtain ⟨a1, a2, a3⟩ := h19 b hb hb2
    exact ⟨a1, by rw [sU_eq, if_neg (by omega)]; exact a2, a3⟩
theorem INV_f37 {n : Nat} {S : St} {i : Nat} {v : Int32} (h : INV n S) (hi : i < cnt S 28) (hv : 0 ≤ v.toInt ∧ v.toInt ≤ 1000 * n) : INV n (sU S 37 i v) := by
  have e : ∀ g, g ≠ 37 → sU S 37 i v g = S g := fun g hg => sU_ne hg
  obtain ⟨h1, h2, h3, h4, h5, h6, h7, h8, h9, h10, h11, h12, h13, h14, h15, h16, h17, h18, h19⟩ := h
  unfold CN B01 BO cnt at *
  unfold INV CN B01 BO cnt
  rw [e 1 (by decide), e 2 (by decide), e 5 (by decide), e 7 (by decide), e 8 (by decide), e 9 (by decide), e 12 (by decide), e 13 (by decide), e 15 (by decide), e 16 (by decide), e 17 (by decide), e 18 (by decide), e 19 (by decide), e 20 (by decide), e 21 (by decide), e 24 (by decide), e 25 (by decide), e 28 (by decide), e 30 (by decide), e 34 (by decide), e 36 (by decide)]
  refine ⟨h1, h2, h3, h4, h5, h6, h7, h8, h9, ?_, h11, h12, h13, h14, h15, h16, h17, h18, ?_⟩
  · intro j hj
    rw [sU_eq]
    by_cases e2 : j = i
    · subst e2; rw [if_pos rfl]; exact hv
    · rw [if_neg e2]; exact h10 j hj
  · intro b hb hb2
    obtain ⟨a1, a2, a3⟩ := h19 b hb hb2
    exact ⟨a1, a2, by rw [sU_eq, if_neg (by omega)]; exact a3⟩
theorem INV_f7 {n : Nat} {S : St} {a b : Nat} (h : INV n S) (ha : a < cnt S 2) (hb : b < cnt S 2) : INV n (sU S 7 (6 * a + b) 1) := by
  have e : ∀ g, g ≠ 7 → sU S 7 (6 * a + b) 1 g = S g := fun g hg => sU_ne hg
  obtain ⟨h1, h2, h3, h4, h5, h6, h7, h8, h9, h10, h11, h12, h13, h14, h15, h16, h17, h18, h19⟩ := h
  unfold CN B01 BO cnt at *
  unfold INV CN B01 BO cnt
  rw [e 1 (by decide), e 2 (by decide), e 5 (by decide), e 8 (by decide), e 9 (by decide), e 12 (by decide), e 13 (by decide), e 15 (by decide), e 16 (by decide), e 17 (by decide), e 18 (by decide), e 19 (by decide), e 20 (by decide), e 21 (by decide), e 24 (by decide), e 25 (by decide), e 28 (by decide), e 30 (by decide), e 34 (by decide), e 36 (by decide), e 37 (by decide)]
  refine ⟨h1, h2, h3, h4, h5, ?_, h7, h8, h9, h10, h11, ?_, h13, h14, h15, h16, h17, h18, h19⟩
  · intro j
    rw [sU_eq]
    by_cases e2 : j = 6 * a + b
    · rw [if_pos e2]; exact Or.inr rfl
    · rw [if_neg e2]; exact h6 j
  · intro k c hk hc hh
    have q1 := h1.2
    rw [sU_eq, if_neg (by omega)]
    exact h12 k c hk hc hh
theorem INV_c2 {n : Nat} {S : St} (h : INV n S) (hlt : cnt S 2 < 6) (hv : 0 ≤ (S 5 (cnt S 2)).toInt ∧ (S 5 (cnt S 2)).toInt ≤ 255) : INV n (sU S 2 0 (S 2 0 + 1)) := by
  have e : ∀ g, g ≠ 2 → sU S 2 0 (S 2 0 + 1) g = S g := fun g hg => sU_ne hg
  obtain ⟨h1, h2, h3, h4, h5, h6, h7, h8, h9, h10, h11, h12, h13, h14, h15, h16, h17, h18, h19⟩ := h
  unfold CN B01 BO cnt at *
  have ec : (sU S 2 0 (S 2 0 + 1) 2 0).toNatClampNeg = (S 2 0).toNatClampNeg + 1 := by rw [sU_eq, if_pos rfl]; exact cnt_inc h1.1 (by omega)
  have ev : sU S 2 0 (S 2 0 + 1) 2 0 = nI ((S 2 0).toNatClampNeg + 1) := by rw [sU_eq, if_pos rfl]; exact (congrArg (· + 1) h1.1).trans (nI_succ _).symm
  unfold INV CN B01 BO cnt
  rw [e 1 (by decide), e 5 (by decide), e 7 (by decide), e 8 (by decide), e 9 (by decide), e 12 (by decide), e 13 (by decide), e 15 (by decide), e 16 (by decide), e 17 (by decide), e 18 (by decide), e 19 (by decide), e 20 (by decide), e 21 (by decide), e 24 (by decide), e 25 (by decide), e 28 (by decide), e 30 (by decide), e 34 (by decide), e 36 (by decide), e 37 (by decide), ec]
  refine ⟨?_, h2, h3, h4, h5, h6, h7, h8, h9, h10, h11, ?_, ?_, h14, h15, h16, h17, h18, h19⟩

  · exact ⟨ev, by omega⟩
  · exact fun k a hk ha hh => h12 k a hk ha (by omega)
  · intro j hj
    by_cases e2 : j = (S 2 0).toNatClampNeg
    · subst e2; exact hv
    · exact h13 j (by omega)
theorem INV_c9 {n : Nat} {S : St} (h : INV n S) (hlt : cnt S 9 < 12) (hv : S 12 (cnt S 9) = 1000000) : INV n (sU S 9 0 (S 9 0 + 1)) := by
  have e : ∀ g, g ≠ 9 → sU S 9 0 (S 9 0 + 1) g = S g := fun g hg => sU_ne hg
  obtain ⟨h1, h2, h3, h4, h5, h6, h7, h8, h9, h10, h11, h12, h13, h14, h15, h16, h17, h18, h19⟩ := h
  unfold CN B01 BO cnt at *
  have ec : (sU S 9 0 (S 9 0 + 1) 9 0).toNatClampNeg = (S 9 0).toNatClampNeg + 1 := by rw [sU_eq, if_pos rfl]; exact cnt_inc h2.1 (by omega)
  have ev : sU S 9 0 (S 9 0 + 1) 9 0 = nI ((S 9 0).toNatClampNeg + 1) := by rw [sU_eq, if_pos rfl]; exact (congrArg (· + 1) h2.1).trans (nI_succ _).symm
  unfold INV CN B01 BO cnt
  rw [e 1 (by decide), e 2 (by decide), e 5 (by decide), e 7 (by decide), e 8 (by decide), e 12 (by decide), e 13 (by decide), e 15 (by decide), e 16 (by decide), e 17 (by decide), e 18 (by decide), e 19 (by decide), e 20 (by decide), e 21 (by decide), e 24 (by decide), e 25 (by decide), e 28 (by decide), e 30 (by decide), e 34 (by decide), e 36 (by decide), e 37 (by decide), ec]
  refine ⟨h1, ?_, h3, h4, h5, h6, h7, h8, h9, h10, h11, h12, h13, ?_, h15, h16, h17, h18, h19⟩

  · exact ⟨ev, by omega⟩
  · intro j hj
    by_cases e2 : j = (S 9 0).toNatClampNeg
    · subst e2; exact Or.inl hv
    · exact h14 j (by omega)
theorem INV_c25 {n : Nat} {S : St} (h : INV n S) (hlt : cnt S 25 < 5)  : INV n (sU S 25 0 (S 25 0 + 1)) := by
  have e : ∀ g, g ≠ 25 → sU S 25 0 (S 25 0 + 1) g = S g := fun g hg => sU_ne hg
  obtain ⟨h1, h2, h3, h4, h5, h6, h7, h8, h9, h10, h11, h12, h13, h14, h15, h16, h17, h18, h19⟩ := h
  unfold CN B01 BO cnt at *
  have ec : (sU S 25 0 (S 25 0 + 1) 25 0).toNatClampNeg = (S 25 0).toNatClampNeg + 1 := by rw [sU_eq, if_pos rfl]; exact cnt_inc h4.1 (by omega)
  have ev : sU S 25 0 (S 25 0 + 1) 25 0 = nI ((S 25 0).toNatClampNeg + 1) := by rw [sU_eq, if_pos rfl]; exact (congrArg (· + 1) h4.1).trans (nI_succ _).symm
  unfold INV CN B01 BO cnt
  rw [e 1 (by decide), e 2 (by decide), e 5 (by decide), e 7 (by decide), e 8 (by decide), e 9 (by decide), e 12 (by decide), e 13 (by decide), e 15 (by decide), e 16 (by decide), e 17 (by decide), e 18 (by decide), e 19 (by decide), e 20 (by decide), e 21 (by decide), e 24 (by decide), e 28 (by decide), e 30 (by decide), e 34 (by decide), e 36 (by decide), e 37 (by decide), ec]
  refine ⟨h1, h2, h3, ?_, h5, h6, h7, ?_, h9, h10, h11, h12, h13, h14, h15, h16, h17, h18, h19⟩

  · exact ⟨ev, by omega⟩
  · exact fun p hp => (h8 p hp).imp id fun z => ⟨z.1, Nat.lt_succ_of_lt z.2⟩
theorem INV_c28 {n : Nat} {S : St} (h : INV n S) (hlt : cnt S 28 < 40) (hv : 1 ≤ (S 30 (cnt S 28)).toInt ∧ (S 30 (cnt S 28)).toInt ≤ 10000) : INV n (sU S 28 0 (S 28 0 + 1)) := by
  have e : ∀ g, g ≠ 28 → sU S 28 0 (S 28 0 + 1) g = S g := fun g hg => sU_ne hg
  obtain ⟨h1, h2, h3, h4, h5, h6, h7, h8, h9, h10, h11, h12, h13, h14, h15, h16, h17, h18, h19⟩ := h
  unfold CN B01 BO cnt at *
  have ec : (sU S 28 0 (S 28 0 + 1) 28 0).toNatClampNeg = (S 28 0).toNatClampNeg + 1 := by rw [sU_eq, if_pos rfl]; exact cnt_inc h5.1 (by omega)
  have ev : sU S 28 0 (S 28 0 + 1) 28 0 = nI ((S 28 0).toNatClampNeg + 1) := by rw [sU_eq, if_pos rfl]; exact (congrArg (· + 1) h5.1).trans (nI_succ _).symm
  unfold INV CN B01 BO cnt
  rw [e 1 (by decide), e 2 (by decide), e 5 (by decide), e 7 (by decide), e 8 (by decide), e 9 (by decide), e 12 (by decide), e 13 (by decide), e 15 (by decide), e 16 (by decide), e 17 (by decide), e 18 (by decide), e 19 (by decide), e 20 (by decide), e 21 (by decide), e 24 (by decide), e 25 (by decide), e 30 (by decide), e 34 (by decide), e 36 (by decide), e 37 (by decide), ec]
  refine ⟨h1, h2, h3, h4, ?_, h6, h7, h8, ?_, ?_, h11, h12, h13, h14, h15, h16, h17, h18, ?_⟩

  · exact ⟨ev, by omega⟩
  · intro j hj
    by_cases e2 : j = (S 28 0).toNatClampNeg
    · subst e2; exact hv
    · exact h9 j (by omega)
  · intro j hj
    by_cases e2 : j = (S 28 0).toNatClampNeg
    · subst e2; rw [(h19 _ (Nat.le_refl _) hlt).2.2, Int32.toInt_zero]; omega
    · exact h10 j (by omega)
  · exact fun b hb hb2 => h19 b (by omega) hb2
theorem INV_c13 {n : Nat} {S : St} (h : INV n S) (hlt : cnt S 13 < 10) (hv : S 20 (cnt S 13) = -1 ∧ S 21 (cnt S 13) = -1) : INV n (sU S 13 0 (S 13 0 + 1)) := by
  have e : ∀ g, g ≠ 13 → sU S 13 0 (S 13 0 + 1) g = S g := fun g hg => sU_ne hg
  obtain ⟨h1, h2, h3, h4, h5, h6, h7, h8, h9, h10, h11, h12, h13, h14, h15, h16, h17, h18, h19⟩ := h
  unfold CN B01 BO cnt at *
  have ec : (sU S 13 0 (S 13 0 + 1) 13 0).toNatClampNeg = (S 13 0).toNatClampNeg + 1 := by rw [sU_eq, if_pos rfl]; exact cnt_inc h3.1 (by omega)
  have ev : sU S 13 0 (S 13 0 + 1) 13 0 = nI ((S 13 0).toNatClampNeg + 1) := by rw [sU_eq, if_pos rfl]; exact (congrArg (· + 1) h3.1).trans (nI_succ _).symm
  unfold INV CN B01 BO cnt
  rw [e 1 (by decide), e 2 (by decide), e 5 (by decide), e 7 (by decide), e 8 (by decide), e 9 (by decide), e 12 (by decide), e 15 (by decide), e 16 (by decide), e 17 (by decide), e 18 (by decide), e 19 (by decide), e 20 (by decide), e 21 (by decide), e 24 (by decide), e 25 (by decide), e 28 (by decide), e 30 (by decide), e 34 (by decide), e 36 (by decide), e 37 (by decide), ec]
  refine ⟨h1, h2, ?_, h4, h5, h6, h7, ?_, h9, h10, h11, h12, h13, h14, ?_, ?_, ?_, ?_, h19⟩

  · exact ⟨ev, by omega⟩
  · intro j hj
    by_cases e2 : j = (S 13 0).toNatClampNeg
    · subst e2; exact Or.inl hv.1
    · exact h8 j (by omega)
  · intro j hj
    by_cases e2 : j = (S 13 0).toNatClampNeg
    · subst e2; exact fun _ => hv.2
    · exact h15 j (by omega)
  · exact fun p hp hp2 => h16 p (by omega) hp2
  · intro j hj
    by_cases e2 : j = (S 13 0).toNatClampNeg
    · subst e2; rw [(h16 _ (Nat.le_refl _) hlt).2.2.1, Int32.toInt_zero]; omega
    · exact h17 j (by omega)
  · intro j t hj ht
    by_cases e2 : j = (S 13 0).toNatClampNeg
    · subst e2
      obtain ⟨z1, z2⟩ := (h16 _ (Nat.le_refl _) hlt).2.2.2.1 t ht
      rw [z1, z2, Int32.toInt_zero]; omega
    · exact h18 j t (by omega) ht
theorem INV_8 {n : Nat} {S S' : St} (h : INV n S) (e : ∀ g, g ≠ 8 → S' g = S g) (h8' : B01 S' 8) : INV n S' := by
  obtain ⟨h1, h2, h3, h4, h5, h6, h7, h8, h9, h10, h11, h12, h13, h14, h15, h16, h17, h18, h19⟩ := h
  unfold CN B01 BO cnt at *
  unfold INV CN B01 BO cnt
  rw [e 1 (by decide), e 2 (by decide), e 5 (by decide), e 7 (by decide), e 9 (by decide), e 12 (by decide), e 13 (by decide), e 15 (by decide), e 16 (by decide), e 17 (by decide), e 18 (by decide), e 19 (by decide), e 20 (by decide), e 21 (by decide), e 24 (by decide), e 25 (by decide), e 28 (by decide), e 30 (by decide), e 34 (by decide), e 36 (by decide), e 37 (by decide)]
  exact ⟨h1, h2, h3, h4, h5, h6, h8', h8, h9, h10, h11, h12, h13, h14, h15, h16, h17, h18, h19⟩
theorem INV_0 {n : Nat} {S : St} {w : Int32} (h : INV n S) : INV n (sU S 0 0 w) := INV_free (by decide) h
theorem INV_reach {n : Nat} {S : St} (a : Nat) (h : INV n S) : INV n (uReach a S) := INV_8 h (fun g hg => uReach_ne hg) ((B01.aI h.2.2.2.2.2.1 h.2.2.2.2.2.2.1 a 6).rL 6)
theorem INV_z {n : Nat} {S : St} {q : Nat} (h : INV n S) (hq : q < cnt S 13) : ∀ k, k ≤ 12 → INV n (zF S 18 (12 * q) k)
  | 0, _ => h
  | k + 1, hk => by rw [zF_s]; exact INV_f18 (INV_z h hq k (by omega)) (lt_z hq) (by omega)
theorem INV_next {n : Nat} {S : St} {q : Nat} (h : INV n S) (hq : q < cnt S 13) : INV n (uNext q S) := by
  have a1 : INV n (sU (zF (sU S 15 q (S 15 q + 1)) 18 (12 * q) 12) 19 q 0) := INV_f19 (INV_z (INV_f15 h hq) (lt_u hq) 12 (Nat.le_refl _)) (lt_z (lt_u hq))
  have a2 := INV_f21 (i := q) (v := -1) a1 (fun _ _ => rfl)
  have a3 := INV_f20 (i := q) (v := -1) a2 (fun _ => Or.inl ⟨rfl, by rw [sU_eq, if_pos rfl]⟩)
  have a4 := INV_free (f := 23) (i := q) (v := -1) (by decide) (INV_free (f := 22) (i := q) (v := -1) (by decide) a3)
  unfold uNext
  rw [sU_comm (S := sU (zF (sU S 15 q (S 15 q + 1)) 18 (12 * q) 12) 19 q 0) (f := 20) (g := 21) (by decide)]
  exact a4
theorem INV_rc {n : Nat} {S : St} {v : Int32} {a : Nat} (h : INV n S) : ∀ c, (∀ j, j < c → a + j < cnt S 28) → INV n (rcU S v a c)
  | 0, _ => h
  | c + 1, hc => by rw [rcU_s]; exact INV_f34 (INV_rc h c (fun j hj => hc j (by omega))) (lt_r (hc c (by omega)))
