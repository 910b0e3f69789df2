/-! stores into the class's cells -/
section CST
variable {TC : Nat → ClassId} {X X' S : St} {o : Nat → Int64}
theorem mk_lt {N : Nat} {g : Nat → Int32} {j : Nat} (h : j < N) : mk N g j = g j := if_pos h
theorem rarr_t {b n j : Nat} (h : j < n) : va_rf (rarr b n j) = .ref (b + j) := by unfold rarr; rw [if_pos h]; rfl
theorem rarr_f {b n j : Nat} (h : ¬ j < n) : va_rf (rarr b n j) = .null := by unfold rarr; rw [if_neg h]; rfl
theorem cert_n {p : Nat} (h : X 20 p = -1) : cert X p = .null := if_pos h
theorem cert_r {p : Nat} (h : ¬ X 20 p = -1) : cert X p = .ref (1300 + (X 20 p).toNatClampNeg) := if_neg h
theorem rarr_up (b n : Nat) : va_up (rarr b n) n (some (b + n)) = rarr b (n + 1) := by
  funext j
  unfold va_up rarr
  by_cases h : j = n
  · rw [if_pos h, if_pos (show j < n + 1 by omega), h]
  · rw [if_neg h]
    by_cases h2 : j < n
    · rw [if_pos h2, if_pos (show j < n + 1 by omega)]
    · rw [if_neg h2, if_neg (show ¬ j < n + 1 by omega)]
theorem hall_ge (n : Nat) (hn : ¬ n < 200) (c0 : ∀ i, n = 1000 + i → kc0 X i = kc0 X' i) (c1 : ∀ i, n = 1100 + i → kc1 X i = kc1 X' i) (c2 : ∀ i, n = 1200 + i → kc2 X i = kc2 X' i) (c3 : ∀ i, n = 1300 + i → kc3 X i = kc3 X' i) (c4 : ∀ i, n = 1400 + i → kc4 X i = kc4 X' i)
    (c5 : ∀ i, n = 1500 + i → kc5 TC X i = kc5 TC X' i) (c6 : ∀ i, n = 1600 + i → kc6 TC X i = kc6 TC X' i) (c7 : ∀ i, n = 1700 + i → kc7 TC X i = kc7 TC X' i) : hall TC X S o n = hall TC X' S o n := by
  unfold hall
  rw [if_neg (show ¬ n < 100 by omega), if_neg (show ¬ n < 100 by omega), if_neg hn, if_neg hn]
  unfold hC
  by_cases a0 : n < 1000
  · rw [if_pos a0, if_pos a0]
  rw [if_neg a0, if_neg a0]
  by_cases a1 : n < 1100
  · rw [if_pos a1, if_pos a1]; exact c0 _ (by omega)
  rw [if_neg a1, if_neg a1]
  by_cases a2 : n < 1200
  · rw [if_pos a2, if_pos a2]; exact c1 _ (by omega)
  rw [if_neg a2, if_neg a2]
  by_cases a3 : n < 1300
  · rw [if_pos a3, if_pos a3]; exact c2 _ (by omega)
  rw [if_neg a3, if_neg a3]
  by_cases a4 : n < 1400
  · rw [if_pos a4, if_pos a4]; exact c3 _ (by omega)
  rw [if_neg a4, if_neg a4]
  by_cases a5 : n < 1500
  · rw [if_pos a5, if_pos a5]; exact c4 _ (by omega)
  rw [if_neg a5, if_neg a5]
  by_cases a6 : n < 1600
  · rw [if_pos a6, if_pos a6]; exact c5 _ (by omega)
  rw [if_neg a6, if_neg a6]
  by_cases a7 : n < 1700
  · rw [if_pos a7, if_pos a7]; exact c6 _ (by omega)
  rw [if_neg a7, if_neg a7]
  by_cases a8 : n < 1800
  · rw [if_pos a8, if_pos a8]; exact c7 _ (by omega)
  rw [if_neg a8, if_neg a8]
theorem hall_eq (e0 : cnfF X = cnfF X') (f0 : cnt X 2 = cnt X' 2) (f1 : cnt X 9 = cnt X' 9) (f2 : cnt X 13 = cnt X' 13) (f3 : cnt X 25 = cnt X' 25) (f4 : cnt X 28 = cnt X' 28) (n : Nat)
    (c0 : ∀ i, n = 1000 + i → kc0 X i = kc0 X' i) (c1 : ∀ i, n = 1100 + i → kc1 X i = kc1 X' i) (c2 : ∀ i, n = 1200 + i → kc2 X i = kc2 X' i) (c3 : ∀ i, n = 1300 + i → kc3 X i = kc3 X' i) (c4 : ∀ i, n = 1400 + i → kc4 X i = kc4 X' i)
    (c5 : ∀ i, n = 1500 + i → kc5 TC X i = kc5 TC X' i) (c6 : ∀ i, n = 1600 + i → kc6 TC X i = kc6 TC X' i) (c7 : ∀ i, n = 1700 + i → kc7 TC X i = kc7 TC X' i) : hall TC X S o n = hall TC X' S o n := by
  by_cases hn : n < 200
  · unfold hall
    by_cases h1 : n < 100
    · rw [if_pos h1, if_pos h1]
      unfold eK0
      rw [e0, f0, f1, f2, f3, f4]
    · rw [if_neg h1, if_neg h1, if_pos hn, if_pos hn]
  · exact hall_ge n hn c0 c1 c2 c3 c4 c5 c6 c7
theorem kc0_of {i : Nat} (h : ∀ g, g ∈ [2, 3, 4, 5, 6, 7] → X g = X' g) : kc0 X i = kc0 X' i := by
  unfold kc0 cnt actF msB
  rw [h 2 (by decide), h 3 (by decide), h 4 (by decide), h 5 (by decide), h 6 (by decide), h 7 (by decide)]
theorem kc0_u {i f a : Nat} {v : Int32} (h : ([2, 3, 4, 5, 6, 7] : List Nat).all (· != f) = true) : kc0 X i = kc0 (sU X f a v) i := kc0_of fun g hg => (sU_ne (by have := List.all_eq_true.mp h g hg; simpa using this)).symm
theorem kc1_of {i : Nat} (h : ∀ g, g ∈ [9, 10, 11, 12] → X g = X' g) : kc1 X i = kc1 X' i := by
  unfold kc1 cnt stdF unt
  rw [h 9 (by decide), h 10 (by decide), h 11 (by decide), h 12 (by decide)]
theorem kc1_u {i f a : Nat} {v : Int32} (h : ([9, 10, 11, 12] : List Nat).all (· != f) = true) : kc1 X i = kc1 (sU X f a v) i := kc1_of fun g hg => (sU_ne (by have := List.all_eq_true.mp h g hg; simpa using this)).symm
theorem kc2_of {i : Nat} (h : ∀ g, g ∈ [13, 14, 15, 19, 20, 21, 22, 23, 24] → X g = X' g) : kc2 X i = kc2 X' i := by
  unfold kc2 cnt prdF cert
  rw [h 13 (by decide), h 14 (by decide), h 15 (by decide), h 19 (by decide), h 20 (by decide), h 21 (by decide), h 22 (by decide), h 23 (by decide), h 24 (by decide)]
theorem kc2_u {i f a : Nat} {v : Int32} (h : ([13, 14, 15, 19, 20, 21, 22, 23, 24] : List Nat).all (· != f) = true) : kc2 X i = kc2 (sU X f a v) i := kc2_of fun g hg => (sU_ne (by have := List.all_eq_true.mp h g hg; simpa using this)).symm
theorem kc3_of {i : Nat} (h : ∀ g, g ∈ [25, 26, 27] → X g = X' g) : kc3 X i = kc3 X' i := by
  unfold kc3 cnt bodF
  rw [h 25 (by decide), h 26 (by decide), h 27 (by decide)]
theorem kc3_u {i f a : Nat} {v : Int32} (h : ([25, 26, 27] : List Nat).all (· != f) = true) : kc3 X i = kc3 (sU X f a v) i := kc3_of fun g hg => (sU_ne (by have := List.all_eq_true.mp h g hg; simpa using this)).symm
theorem kc4_of {i : Nat} (h : ∀ g, g ∈ [28, 29, 30, 31, 32, 33, 34, 35, 36, 37] → X g = X' g) : kc4 X i = kc4 X' i := by
  unfold kc4 cnt batF
  rw [h 28 (by decide), h 29 (by decide), h 30 (by decide), h 31 (by decide), h 32 (by decide), h 33 (by decide), h 34 (by decide), h 35 (by decide), h 36 (by decide), h 37 (by decide)]
theorem kc4_u {i f a : Nat} {v : Int32} (h : ([28, 29, 30, 31, 32, 33, 34, 35, 36, 37] : List Nat).all (· != f) = true) : kc4 X i = kc4 (sU X f a v) i := kc4_of fun g hg => (sU_ne (by have := List.all_eq_true.mp h g hg; simpa using this)).symm
theorem kc5_of {i : Nat} (h : ∀ g, g ∈ [13, 16] → X g = X' g) : kc5 TC X i = kc5 TC X' i := by
  unfold kc5 cnt
  rw [h 13 (by decide), h 16 (by decide)]
theorem kc5_u {i f a : Nat} {v : Int32} (h : ([13, 16] : List Nat).all (· != f) = true) : kc5 TC X i = kc5 TC (sU X f a v) i := kc5_of fun g hg => (sU_ne (by have := List.all_eq_true.mp h g hg; simpa using this)).symm
theorem kc6_of {i : Nat} (h : ∀ g, g ∈ [13, 17] → X g = X' g) : kc6 TC X i = kc6 TC X' i := by
  unfold kc6 cnt
  rw [h 13 (by decide), h 17 (by decide)]
theorem kc6_u {i f a : Nat} {v : Int32} (h : ([13, 17] : List Nat).all (· != f) = true) : kc6 TC X i = kc6 TC (sU X f a v) i := kc6_of fun g hg => (sU_ne (by have := List.all_eq_true.mp h g hg; simpa using this)).symm
theorem kc7_of {i : Nat} (h : ∀ g, g ∈ [13, 18] → X g = X' g) : kc7 TC X i = kc7 TC X' i := by
  unfold kc7 cnt
  rw [h 13 (by decide), h 18 (by decide)]
theorem kc7_u {i f a : Nat} {v : Int32} (h : ([13, 18] : List Nat).all (· != f) = true) : kc7 TC X i = kc7 TC (sU X f a v) i := kc7_of fun g hg => (sU_ne (by have := List.all_eq_true.mp h g hg; simpa using this)).symm
theorem cnf_u {f a : Nat} {v : Int32} (h : ([1, 2, 9, 13, 25, 28] : List Nat).all (· != f) = true) : cnfF X = cnfF (sU X f a v) := by
  have h2 : ∀ g, g ∈ ([1, 2, 9, 13, 25, 28] : List Nat) → X g = sU X f a v g := fun g hg => (sU_ne (by have := List.all_eq_true.mp h g hg; simpa using this)).symm
  unfold cnfF
  rw [h2 1 (by decide), h2 2 (by decide), h2 9 (by decide), h2 13 (by decide), h2 25 (by decide), h2 28 (by decide)]
theorem cnt_u {g f a : Nat} {v : Int32} (h : (g != f) = true) : cnt X g = cnt (sU X f a v) g := by
  unfold cnt
  rw [sU_ne (by simpa using h)]
theorem pu_std_1 {i : Nat} (v : Int32) (hi : i < cnt X 9) (hb : cnt X 9 ≤ 12) : va_up (hall TC X S o) (1100 + i) (some (.inr (4, (stdF X i).set 1 (.int v)))) = hall TC (sU X 10 i v) S o := by
  funext n
  unfold va_up
  by_cases hn : n = 1100 + i
  · rw [if_pos hn, hn, hm_std (X := sU X 10 i v) hi hb, show stdF (sU X 10 i v) i = (stdF X i).set 1 (.int v) from by simp [stdF, sU, upd, unt, cert]]
  · rw [if_neg hn]
    refine hall_eq (cnf_u (by decide)) (cnt_u (by decide)) (cnt_u (by decide)) (cnt_u (by decide)) (cnt_u (by decide)) (cnt_u (by decide)) n (fun _ _ => kc0_u (by decide)) (fun j hj => ?_) (fun _ _ => kc2_u (by decide)) (fun _ _ => kc3_u (by decide)) (fun _ _ => kc4_u (by decide)) (fun _ _ => kc5_u (by decide)) (fun _ _ => kc6_u (by decide)) (fun _ _ => kc7_u (by decide))
    have hji : ¬ j = i := by omega
    unfold kc1
    rw [show stdF (sU X 10 i v) j = stdF X j from by simp [stdF, sU, upd, hji, unt, cert]]
    rfl
theorem pu_prd_3 {i : Nat} (v : Int32) (hi : i < cnt X 13) (hb : cnt X 13 ≤ 10) : va_up (hall TC X S o) (1200 + i) (some (.inr (3, (prdF X i).set 3 (.int v)))) = hall TC (sU X 14 i v) S o := by
  funext n
  unfold va_up
  by_cases hn : n = 1200 + i
  · rw [if_pos hn, hn, hm_prd (X := sU X 14 i v) hi hb, show prdF (sU X 14 i v) i = (prdF X i).set 3 (.int v) from by simp [prdF, sU, upd, unt, cert]]
  · rw [if_neg hn]
    refine hall_eq (cnf_u (by decide)) (cnt_u (by decide)) (cnt_u (by decide)) (cnt_u (by decide)) (cnt_u (by decide)) (cnt_u (by decide)) n (fun _ _ => kc0_u (by decide)) (fun _ _ => kc1_u (by decide)) (fun j hj => ?_) (fun _ _ => kc3_u (by decide)) (fun _ _ => kc4_u (by decide)) (fun _ _ => kc5_u (by decide)) (fun _ _ => kc6_u (by decide)) (fun _ _ => kc7_u (by decide))
    have hji : ¬ j = i := by omega
    unfold kc2
    rw [show prdF (sU X 14 i v) j = prdF X j from by simp [prdF, sU, upd, hji, unt, cert]]
    rfl
theorem pu_prd_4 {i : Nat} (v : Int32) (hi : i < cnt X 13) (hb : cnt X 13 ≤ 10) : va_up (hall TC X S o) (1200 + i) (some (.inr (3, (prdF X i).set 4 (.int v)))) = hall TC (sU X 15 i v) S o := by
  funext n
  unfold va_up
  by_cases hn : n = 1200 + i
  · rw [if_pos hn, hn, hm_prd (X := sU X 15 i v) hi hb, show prdF (sU X 15 i v) i = (prdF X i).set 4 (.int v) from by simp [prdF, sU, upd, unt, cert]]
  · rw [if_neg hn]
    refine hall_eq (cnf_u (by decide)) (cnt_u (by decide)) (cnt_u (by decide)) (cnt_u (by decide)) (cnt_u (by decide)) (cnt_u (by decide)) n (fun _ _ => kc0_u (by decide)) (fun _ _ => kc1_u (by decide)) (fun j hj => ?_) (fun _ _ => kc3_u (by decide)) (fun _ _ => kc4_u (by decide)) (fun _ _ => kc5_u (by decide)) (fun _ _ => kc6_u (by decide)) (fun _ _ => kc7_u (by decide))
    have hji : ¬ j = i := by omega
    unfold kc2
    rw [show prdF (sU X 15 i v) j = prdF X j from by simp [prdF, sU, upd, hji, unt, cert]]
    rfl
theorem pu_prd_5 {i : Nat} (v : Int32) (hi : i < cnt X 13) (hb : cnt X 13 ≤ 10) : va_up (hall TC X S o) (1200 + i) (some (.inr (3, (prdF X i).set 5 (.int v)))) = hall TC (sU X 19 i v) S o := by
  funext n
  unfold va_up
  by_cases hn : n = 1200 + i
  · rw [if_pos hn, hn, hm_prd (X := sU X 19 i v) hi hb, show prdF (sU X 19 i v) i = (prdF X i).set 5 (.int v) from by simp [prdF, sU, upd, unt, cert]]
  · rw [if_neg hn]
    refine hall_eq (cnf_u (by decide)) (cnt_u (by decide)) (cnt_u (by decide)) (cnt_u (by decide)) (cnt_u (by decide)) (cnt_u (by decide)) n (fun _ _ => kc0_u (by decide)) (fun _ _ => kc1_u (by decide)) (fun j hj => ?_) (fun _ _ => kc3_u (by decide)) (fun _ _ => kc4_u (by decide)) (fun _ _ => kc5_u (by decide)) (fun _ _ => kc6_u (by decide)) (fun _ _ => kc7_u (by decide))
    have hji : ¬ j = i := by omega
    unfold kc2
    rw [show prdF (sU X 19 i v) j = prdF X j from by simp [prdF, sU, upd, hji, unt, cert]]
    rfl
theorem pu_prd_6 {i : Nat} (v : Int32) (hi : i < cnt X 13) (hb : cnt X 13 ≤ 10) : va_up (hall TC X S o) (1200 + i) (some (.inr (3, (prdF X i).set 6 (.int v)))) = hall TC (sU X 23 i v) S o := by
  funext n
  unfold va_up
  by_cases hn : n = 1200 + i
  · rw [if_pos hn, hn, hm_prd (X := sU X 23 i v) hi hb, show prdF (sU X 23 i v) i = (prdF X i).set 6 (.int v) from by simp [prdF, sU, upd, unt, cert]]
  · rw [if_neg hn]
    refine hall_eq (cnf_u (by decide)) (cnt_u (by decide)) (cnt_u (by decide)) (cnt_u (by decide)) (cnt_u (by decide)) (cnt_u (by decide)) n (fun _ _ => kc0_u (by decide)) (fun _ _ => kc1_u (by decide)) (fun j hj => ?_) (fun _ _ => kc3_u (by decide)) (fun _ _ => kc4_u (by decide)) (fun _ _ => kc5_u (by decide)) (fun _ _ => kc6_u (by decide)) (fun _ _ => kc7_u (by decide))
    have hji : ¬ j = i := by omega
    unfold kc2
    rw [show prdF (sU X 23 i v) j = prdF X j from by simp [prdF, sU, upd, hji, unt, cert]]
    rfl
theorem pu_prd_8 {i : Nat} (v : Int32) (hi : i < cnt X 13) (hb : cnt X 13 ≤ 10) : va_up (hall TC X S o) (1200 + i) (some (.inr (3, (prdF X i).set 8 (.int v)))) = hall TC (sU X 21 i v) S o := by
  funext n
  unfold va_up
  by_cases hn : n = 1200 + i
  · rw [if_pos hn, hn, hm_prd (X := sU X 21 i v) hi hb, show prdF (sU X 21 i v) i = (prdF X i).set 8 (.int v) from by simp [prdF, sU, upd, unt, cert]]
  · rw [if_neg hn]
    refine hall_eq (cnf_u (by decide)) (cnt_u (by decide)) (cnt_u (by decide)) (cnt_u (by decide)) (cnt_u (by decide)) (cnt_u (by decide)) n (fun _ _ => kc0_u (by decide)) (fun _ _ => kc1_u (by decide)) (fun j hj => ?_) (fun _ _ => kc3_u (by decide)) (fun _ _ => kc4_u (by decide)) (fun _ _ => kc5_u (by decide)) (fun _ _ => kc6_u (by decide)) (fun _ _ => kc7_u (by decide))
    have hji : ¬ j = i := by omega
    unfold kc2
    rw [show prdF (sU X 21 i v) j = prdF X j from by simp [prdF, sU, upd, hji, unt, cert]]
    rfl
theorem pu_prd_9 {i : Nat} (v : Int32) (hi : i < cnt X 13) (hb : cnt X 13 ≤ 10) : va_up (hall TC X S o) (1200 + i) (some (.inr (3, (prdF X i).set 9 (.int v)))) = hall TC (sU X 22 i v) S o := by
  funext n
  unfold va_up
  by_cases hn : n = 1200 + i
  · rw [if_pos hn, hn, hm_prd (X := sU X 22 i v) hi hb, show prdF (sU X 22 i v) i = (prdF X i).set 9 (.int v) from by simp [prdF, sU, upd, unt, cert]]
  · rw [if_neg hn]
    refine hall_eq (cnf_u (by decide)) (cnt_u (by decide)) (cnt_u (by decide)) (cnt_u (by decide)) (cnt_u (by decide)) (cnt_u (by decide)) n (fun _ _ => kc0_u (by decide)) (fun _ _ => kc1_u (by decide)) (fun j hj => ?_) (fun _ _ => kc3_u (by decide)) (fun _ _ => kc4_u (by decide)) (fun _ _ => kc5_u (by decide)) (fun _ _ => kc6_u (by decide)) (fun _ _ => kc7_u (by decide))
    have hji : ¬ j = i := by omega
    unfold kc2
    rw [show prdF (sU X 22 i v) j = prdF X j from by simp [prdF, sU, upd, hji, unt, cert]]
    rfl
theorem pu_prd_10 {i : Nat} (v : Int32) (hi : i < cnt X 13) (hb : cnt X 13 ≤ 10) : va_up (hall TC X S o) (1200 + i) (some (.inr (3, (prdF X i).set 10 (.int v)))) = hall TC (sU X 24 i v) S o := by
  funext n
  unfold va_up
  by_cases hn : n = 1200 + i
  · rw [if_pos hn, hn, hm_prd (X := sU X 24 i v) hi hb, show prdF (sU X 24 i v) i = (prdF X i).set 10 (.int v) from by simp [prdF, sU, upd, unt, cert]]
  · rw [if_neg hn]
    refine hall_eq (cnf_u (by decide)) (cnt_u (by decide)) (cnt_u (by decide)) (cnt_u (by decide)) (cnt_u (by decide)) (cnt_u (by decide)) n (fun _ _ => kc0_u (by decide)) (fun _ _ => kc1_u (by decide)) (fun j hj => ?_) (fun _ _ => kc3_u (by decide)) (fun _ _ => kc4_u (by decide)) (fun _ _ => kc5_u (by decide)) (fun _ _ => kc6_u (by decide)) (fun _ _ => kc7_u (by decide))
    have hji : ¬ j = i := by omega
    unfold kc2
    rw [show prdF (sU X 24 i v) j = prdF X j from by simp [prdF, sU, upd, hji, unt, cert]]
    rfl
theorem pu_bod_2 {i : Nat} (v : Int32) (hi : i < cnt X 25) (hb : cnt X 25 ≤ 5) : va_up (hall TC X S o) (1300 + i) (some (.inr (2, (bodF X i).set 2 (.int v)))) = hall TC (sU X 27 i v) S o := by
  funext n
  unfold va_up
  by_cases hn : n = 1300 + i
  · rw [if_pos hn, hn, hm_bod (X := sU X 27 i v) hi hb, show bodF (sU X 27 i v) i = (bodF X i).set 2 (.int v) from by simp [bodF, sU, upd]]
  · rw [if_neg hn]
    refine hall_eq (cnf_u (by decide)) (cnt_u (by decide)) (cnt_u (by decide)) (cnt_u (by decide)) (cnt_u (by decide)) (cnt_u (by decide)) n (fun _ _ => kc0_u (by decide)) (fun _ _ => kc1_u (by decide)) (fun _ _ => kc2_u (by decide)) (fun j hj => ?_) (fun _ _ => kc4_u (by decide)) (fun _ _ => kc5_u (by decide)) (fun _ _ => kc6_u (by decide)) (fun _ _ => kc7_u (by decide))
    have hji : ¬ j = i := by omega
    unfold kc3
    rw [show bodF (sU X 27 i v) j = bodF X j from by simp [bodF, sU, upd, hji]]
    rfl
theorem pu_bat_5 {i : Nat} (v : Int32) (hi : i < cnt X 28) (hb : cnt X 28 ≤ 40) : va_up (hall TC X S o) (1400 + i) (some (.inr (1, (batF X i).set 5 (.int v)))) = hall TC (sU X 34 i v) S o := by
  funext n
  unfold va_up
  by_cases hn : n = 1400 + i
  · rw [if_pos hn, hn, hm_bat (X := sU X 34 i v) hi hb, show batF (sU X 34 i v) i = (batF X i).set 5 (.int v) from by simp [batF, sU, upd]]
  · rw [if_neg hn]
    refine hall_eq (cnf_u (by decide)) (cnt_u (by decide)) (cnt_u (by decide)) (cnt_u (by decide)) (cnt_u (by decide)) (cnt_u (by decide)) n (fun _ _ => kc0_u (by decide)) (fun _ _ => kc1_u (by decide)) (fun _ _ => kc2_u (by decide)) (fun _ _ => kc3_u (by decide)) (fun j hj => ?_) (fun _ _ => kc5_u (by decide)) (fun _ _ => kc6_u (by decide)) (fun _ _ => kc7_u (by decide))
    have hji : ¬ j = i := by omega
    unfold kc4
    rw [show batF (sU X 34 i v) j = batF X j from by simp [batF, sU, upd, hji]]
    rfl
theorem pu_bat_6 {i : Nat} (v : Int32) (hi : i < cnt X 28) (hb : cnt X 28 ≤ 40) : va_up (hall TC X S o) (1400 + i) (some (.inr (1, (batF X i).set 6 (.int v)))) = hall TC (sU X 35 i v) S o := by
  funext n
  unfold va_up
  by_cases hn : n = 1400 + i
  · rw [if_pos hn, hn, hm_bat (X := sU X 35 i v) hi hb, show batF (sU X 35 i v) i = (batF X i).set 6 (.int v) from by simp [batF, sU, upd]]
  · rw [if_neg hn]
    refine hall_eq (cnf_u (by decide)) (cnt_u (by decide)) (cnt_u (by decide)) (cnt_u (by decide)) (cnt_u (by decide)) (cnt_u (by decide)) n (fun _ _ => kc0_u (by decide)) (fun _ _ => kc1_u (by decide)) (fun _ _ => kc2_u (by decide)) (fun _ _ => kc3_u (by decide)) (fun j hj => ?_) (fun _ _ => kc5_u (by decide)) (fun _ _ => kc6_u (by decide)) (fun _ _ => kc7_u (by decide))
    have hji : ¬ j = i := by omega
    unfold kc4
    rw [show batF (sU X 35 i v) j = batF X j from by simp [batF, sU, upd, hji]]
    rfl
theorem pu_bat_7 {i : Nat} (v : Int32) (hi : i < cnt X 28) (hb : cnt X 28 ≤ 40) : va_up (hall TC X S o) (1400 + i) (some (.inr (1, (batF X i).set 7 (.int v)))) = hall TC (sU X 36 i v) S o := by
  funext n
  unfold va_up
  by_cases hn : n = 1400 + i
  · rw [if_pos hn, hn, hm_bat (X := sU X 36 i v) hi hb, show batF (sU X 36 i v) i = (batF X i).set 7 (.int v) from by simp [batF, sU, upd]]
  · rw [if_neg hn]
    refine hall_eq (cnf_u (by decide)) (cnt_u (by decide)) (cnt_u (by decide)) (cnt_u (by decide)) (cnt_u (by decide)) (cnt_u (by decide)) n (fun _ _ => kc0_u (by decide)) (fun _ _ => kc1_u (by decide)) (fun _ _ => kc2_u (by decide)) (fun _ _ => kc3_u (by decide)) (fun j hj => ?_) (fun _ _ => kc5_u (by decide)) (fun _ _ => kc6_u (by decide)) (fun _ _ => kc7_u (by decide))
    have hji : ¬ j = i := by omega
    unfold kc4
    rw [show batF (sU X 36 i v) j = batF X j from by simp [batF, sU, upd, hji]]
    rfl
theorem pu_bat_8 {i : Nat} (v : Int32) (hi : i < cnt X 28) (hb : cnt X 28 ≤ 40) : va_up (hall TC X S o) (1400 + i) (some (.inr (1, (batF X i).set 8 (.int v)))) = hall TC (sU X 37 i v) S o := by
  funext n
  unfold va_up
  by_cases hn : n = 1400 + i
  · rw [if_pos hn, hn, hm_bat (X := sU X 37 i v) hi hb, show batF (sU X 37 i v) i = (batF X i).set 8 (.int v) from by simp [batF, sU, upd]]
  · rw [if_neg hn]
    refine hall_eq (cnf_u (by decide)) (cnt_u (by decide)) (cnt_u (by decide)) (cnt_u (by decide)) (cnt_u (by decide)) (cnt_u (by decide)) n (fun _ _ => kc0_u (by decide)) (fun _ _ => kc1_u (by decide)) (fun _ _ => kc2_u (by decide)) (fun _ _ => kc3_u (by decide)) (fun j hj => ?_) (fun _ _ => kc5_u (by decide)) (fun _ _ => kc6_u (by decide)) (fun _ _ => kc7_u (by decide))
    have hji : ¬ j = i := by omega
    unfold kc4
    rw [show batF (sU X 37 i v) j = batF X j from by simp [batF, sU, upd, hji]]
    rfl
theorem pu_std_2 {i : Nat} (v : Int32) (hv : ¬ v = 1000000) (hi : i < cnt X 9) (hb : cnt X 9 ≤ 12) : va_up (hall TC X S o) (1100 + i) (some (.inr (4, (stdF X i).set 2 (.int v)))) = hall TC (sU X 12 i v) S o := by
  funext n
  unfold va_up
  by_cases hn : n = 1100 + i
  · rw [if_pos hn, hn, hm_std (X := sU X 12 i v) hi hb, show stdF (sU X 12 i v) i = (stdF X i).set 2 (.int v) from by simp [stdF, sU, upd, unt, hv]]
  · rw [if_neg hn]
    refine hall_eq (cnf_u (by decide)) (cnt_u (by decide)) (cnt_u (by decide)) (cnt_u (by decide)) (cnt_u (by decide)) (cnt_u (by decide)) n (fun _ _ => kc0_u (by decide)) (fun j hj => ?_) (fun _ _ => kc2_u (by decide)) (fun _ _ => kc3_u (by decide)) (fun _ _ => kc4_u (by decide)) (fun _ _ => kc5_u (by decide)) (fun _ _ => kc6_u (by decide)) (fun _ _ => kc7_u (by decide))
    have hji : ¬ j = i := by omega
    unfold kc1
    rw [show stdF (sU X 12 i v) j = stdF X j from by simp [stdF, sU, upd, hji, unt]]
    rfl
theorem pu_prd_7 {i : Nat} (w : Int32) (v : Value) (hv : (if w = -1 then Value.null else .ref (1300 + w.toNatClampNeg)) = v) (hi : i < cnt X 13) (hb : cnt X 13 ≤ 10) : va_up (hall TC X S o) (1200 + i) (some (.inr (3, (prdF X i).set 7 v))) = hall TC (sU X 20 i w) S o := by
  subst hv
  funext n
  unfold va_up
  by_cases hn : n = 1200 + i
  · rw [if_pos hn, hn, hm_prd (X := sU X 20 i w) hi hb, show prdF (sU X 20 i w) i = (prdF X i).set 7 (if w = -1 then Value.null else .ref (1300 + w.toNatClampNeg)) from by simp [prdF, sU, upd, cert]]
  · rw [if_neg hn]
    refine hall_eq (cnf_u (by decide)) (cnt_u (by decide)) (cnt_u (by decide)) (cnt_u (by decide)) (cnt_u (by decide)) (cnt_u (by decide)) n (fun _ _ => kc0_u (by decide)) (fun _ _ => kc1_u (by decide)) (fun j hj => ?_) (fun _ _ => kc3_u (by decide)) (fun _ _ => kc4_u (by decide)) (fun _ _ => kc5_u (by decide)) (fun _ _ => kc6_u (by decide)) (fun _ _ => kc7_u (by decide))
    have hji : ¬ j = i := by omega
    unfold kc2
    rw [show prdF (sU X 20 i w) j = prdF X j from by simp [prdF, sU, upd, hji, cert]]
    rfl
theorem bm_congr {P Q : Nat → Bool} : ∀ n, (∀ k, k < n → P k = Q k) → bm P n = bm Q n
  | 0, _ => rfl
  | n + 1, h => by
    unfold bm
    rw [bm_congr n (fun k hk => h k (by omega)), h n (by omega)]
theorem msB_other {i j c : Nat} {v : Int32} (hc : c < 6) (hi : i < 6) (hj : j < 6) (hji : ¬ j = i) : msB (sU X 7 (6 * c + i) v) j = msB X j := by
  unfold msB
  refine bm_congr 6 fun k hk => ?_
  have : ¬ 6 * k + j = 6 * c + i := by omega
  simp [sU, upd, this]
theorem msB_same {i c : Nat} (hc : c < 6) : msB (sU X 7 (6 * c + i) 1) i = msB X i ||| ((1 : Int32) <<< (nI c &&& 31)) := by
  have key : ∀ b0 b1 b2 b3 b4 b5 : Bool, ∀ c : Fin 6, bm (fun k => if k = c.val then true else (if k = 0 then b0 else if k = 1 then b1 else if k = 2 then b2 else if k = 3 then b3 else if k = 4 then b4 else b5)) 6 = bm (fun k => if k = 0 then b0 else if k = 1 then b1 else if k = 2 then b2 else if k = 3 then b3 else if k = 4 then b4 else b5) 6 ||| ((1 : Int32) <<< (nI c.val &&& 31)) := by decide +kernel
  have k2 := key (X 7 (6 * 0 + i) != 0) (X 7 (6 * 1 + i) != 0) (X 7 (6 * 2 + i) != 0) (X 7 (6 * 3 + i) != 0) (X 7 (6 * 4 + i) != 0) (X 7 (6 * 5 + i) != 0) ⟨c, hc⟩
  have e1 : msB X i = bm (fun k => if k = 0 then (X 7 (6 * 0 + i) != 0) else if k = 1 then (X 7 (6 * 1 + i) != 0) else if k = 2 then (X 7 (6 * 2 + i) != 0) else if k = 3 then (X 7 (6 * 3 + i) != 0) else if k = 4 then (X 7 (6 * 4 + i) != 0) else (X 7 (6 * 5 + i) != 0)) 6 := by
    unfold msB
    refine bm_congr 6 fun k hk => ?_
    rcases k with _ | _ | _ | _ | _ | _ | k
    all_goals first | rfl | (exfalso; omega)
  rw [e1, ← k2]
  unfold msB
  refine bm_congr 6 fun k hk => ?_
  by_cases h : k = c
  · subst h; simp [sU, upd]
  · have h2 : ¬ 6 * k + i = 6 * c + i := by omega
    have : sU X 7 (6 * c + i) 1 7 (6 * k + i) = X 7 (6 * k + i) := by simp [sU, upd, show ¬ 6 * k = 6 * c by omega]
    rw [this]
    simp only [h, if_false]
    rcases k with _ | _ | _ | _ | _ | _ | k
    all_goals first | rfl | (exfalso; omega)
theorem pu_act_4 {i c : Nat} (hc : c < 6) (hi : i < cnt X 2) (hb : cnt X 2 ≤ 6) : va_up (hall TC X S o) (1000 + i) (some (.inr (0, (actF X i).set 4 (.int (msB X i ||| ((1 : Int32) <<< (nI c &&& 31))))))) = hall TC (sU X 7 (6 * c + i) 1) S o := by
  funext n
  unfold va_up
  by_cases hn : n = 1000 + i
  · rw [if_pos hn, hn, hm_act (X := sU X 7 (6 * c + i) 1) hi hb, show actF (sU X 7 (6 * c + i) 1) i = (actF X i).set 4 (.int (msB X i ||| ((1 : Int32) <<< (nI c &&& 31)))) from by rw [← msB_same hc]; rfl]
  · rw [if_neg hn]
    refine hall_eq (cnf_u (by decide)) (cnt_u (by decide)) (cnt_u (by decide)) (cnt_u (by decide)) (cnt_u (by decide)) (cnt_u (by decide)) n (fun j hj => ?_) (fun _ _ => kc1_u (by decide)) (fun _ _ => kc2_u (by decide)) (fun _ _ => kc3_u (by decide)) (fun _ _ => kc4_u (by decide)) (fun _ _ => kc5_u (by decide)) (fun _ _ => kc6_u (by decide)) (fun _ _ => kc7_u (by decide))
    have hji : ¬ j = i := by omega
    unfold kc0
    by_cases h : j < cnt X 2
    · rw [if_pos h, if_pos (show j < cnt (sU X 7 (6 * c + i) 1) 2 from h), show actF (sU X 7 (6 * c + i) 1) j = actF X j from by
        have e := msB_other (X := X) (v := 1) hc (show i < 6 by omega) (show j < 6 by omega) hji
        unfold actF
        rw [e]
        rfl]
    · rw [if_neg h, if_neg (show ¬ j < cnt (sU X 7 (6 * c + i) 1) 2 from h)]
theorem pu_rb {i : Nat} (k : Nat) (v : Int32) (hk : k < 8) (hi : i < cnt X 13) (hb : cnt X 13 ≤ 10) : va_up (hall TC X S o) (1500 + i) (some (.inl (TC 0, 8, .inl (upd (mk 8 (fun j => X 16 (8 * i + j))) k v)))) = hall TC (sU X 16 (8 * i + k) v) S o := by
  funext n
  unfold va_up
  by_cases hn : n = 1500 + i
  · rw [if_pos hn, hn, hm_rb (X := sU X 16 (8 * i + k) v) hi hb, show mk 8 (fun j => sU X 16 (8 * i + k) v 16 (8 * i + j)) = upd (mk 8 (fun j => X 16 (8 * i + j))) k v from funext fun j => by
      by_cases hj : j < 8
      · by_cases hjk : j = k
        · subst hjk; simp [mk, upd, sU, hj]
        · simp [mk, upd, sU, hj, hjk]
      · have : ¬ j = k := by omega
        simp [mk, upd, hj, this]]
  · rw [if_neg hn]
    refine hall_eq (cnf_u (by decide)) (cnt_u (by decide)) (cnt_u (by decide)) (cnt_u (by decide)) (cnt_u (by decide)) (cnt_u (by decide)) n (fun _ _ => kc0_u (by decide)) (fun _ _ => kc1_u (by decide)) (fun _ _ => kc2_u (by decide)) (fun _ _ => kc3_u (by decide)) (fun _ _ => kc4_u (by decide)) (fun q hq => ?_) (fun _ _ => kc6_u (by decide)) (fun _ _ => kc7_u (by decide))
    have hji : ¬ q = i := by omega
    unfold kc5
    rw [show mk 8 (fun j => sU X 16 (8 * i + k) v 16 (8 * q + j)) = mk 8 (fun j => X 16 (8 * q + j)) from funext fun j => by
      unfold mk
      by_cases hj : j < 8
      · have : ¬ 8 * q + j = 8 * i + k := by omega
        rw [if_pos hj, if_pos hj]
        simp [sU, upd, this]
      · rw [if_neg hj, if_neg hj]]
    rfl
theorem pu_ra {i : Nat} (k : Nat) (v : Int32) (hk : k < 8) (hi : i < cnt X 13) (hb : cnt X 13 ≤ 10) : va_up (hall TC X S o) (1600 + i) (some (.inl (TC 0, 8, .inl (upd (mk 8 (fun j => X 17 (8 * i + j))) k v)))) = hall TC (sU X 17 (8 * i + k) v) S o := by
  funext n
  unfold va_up
  by_cases hn : n = 1600 + i
  · rw [if_pos hn, hn, hm_ra (X := sU X 17 (8 * i + k) v) hi hb, show mk 8 (fun j => sU X 17 (8 * i + k) v 17 (8 * i + j)) = upd (mk 8 (fun j => X 17 (8 * i + j))) k v from funext fun j => by
      by_cases hj : j < 8
      · by_cases hjk : j = k
        · subst hjk; simp [mk, upd, sU, hj]
        · simp [mk, upd, sU, hj, hjk]
      · have : ¬ j = k := by omega
        simp [mk, upd, hj, this]]
  · rw [if_neg hn]
    refine hall_eq (cnf_u (by decide)) (cnt_u (by decide)) (cnt_u (by decide)) (cnt_u (by decide)) (cnt_u (by decide)) (cnt_u (by decide)) n (fun _ _ => kc0_u (by decide)) (fun _ _ => kc1_u (by decide)) (fun _ _ => kc2_u (by decide)) (fun _ _ => kc3_u (by decide)) (fun _ _ => kc4_u (by decide)) (fun _ _ => kc5_u (by decide)) (fun q hq => ?_) (fun _ _ => kc7_u (by decide))
    have hji : ¬ q = i := by omega
    unfold kc6
    rw [show mk 8 (fun j => sU X 17 (8 * i + k) v 17 (8 * q + j)) = mk 8 (fun j => X 17 (8 * q + j)) from funext fun j => by
      unfold mk
      by_cases hj : j < 8
      · have : ¬ 8 * q + j = 8 * i + k := by omega
        rw [if_pos hj, if_pos hj]
        simp [sU, upd, this]
      · rw [if_neg hj, if_neg hj]]
    rfl
theorem pu_fo {i : Nat} (k : Nat) (v : Int32) (hk : k < 12) (hi : i < cnt X 13) (hb : cnt X 13 ≤ 10) : va_up (hall TC X S o) (1700 + i) (some (.inl (TC 0, 12, .inl (upd (mk 12 (fun j => X 18 (12 * i + j))) k v)))) = hall TC (sU X 18 (12 * i + k) v) S o := by
  funext n
  unfold va_up
  by_cases hn : n = 1700 + i
  · rw [if_pos hn, hn, hm_fo (X := sU X 18 (12 * i + k) v) hi hb, show mk 12 (fun j => sU X 18 (12 * i + k) v 18 (12 * i + j)) = upd (mk 12 (fun j => X 18 (12 * i + j))) k v from funext fun j => by
      by_cases hj : j < 12
      · by_cases hjk : j = k
        · subst hjk; simp [mk, upd, sU, hj]
        · simp [mk, upd, sU, hj, hjk]
      · have : ¬ j = k := by omega
        simp [mk, upd, hj, this]]
  · rw [if_neg hn]
    refine hall_eq (cnf_u (by decide)) (cnt_u (by decide)) (cnt_u (by decide)) (cnt_u (by decide)) (cnt_u (by decide)) (cnt_u (by decide)) n (fun _ _ => kc0_u (by decide)) (fun _ _ => kc1_u (by decide)) (fun _ _ => kc2_u (by decide)) (fun _ _ => kc3_u (by decide)) (fun _ _ => kc4_u (by decide)) (fun _ _ => kc5_u (by decide)) (fun _ _ => kc6_u (by decide)) (fun q hq => ?_)
    have hji : ¬ q = i := by omega
    unfold kc7
    rw [show mk 12 (fun j => sU X 18 (12 * i + k) v 18 (12 * q + j)) = mk 12 (fun j => X 18 (12 * q + j)) from funext fun j => by
      unfold mk
      by_cases hj : j < 12
      · have : ¬ 12 * q + j = 12 * i + k := by omega
        rw [if_pos hj, if_pos hj]
        simp [sU, upd, this]
      · rw [if_neg hj, if_neg hj]]
    rfl
theorem pu_day (v : Int32) : va_up (hall TC X S o) 0 (some (.inr (5, (cnfF X).set 10 (.int v)))) = hall TC (sU X 1 0 v) S o := by
  funext n
  unfold va_up
  by_cases hn : n = 0
  · rw [if_pos hn, hn]
    rfl
  · rw [if_neg hn]
    by_cases h2 : n < 200
    · unfold hall
      by_cases h1 : n < 100
      · rw [if_pos h1, if_pos h1]
        unfold eK0
        rw [if_neg hn, if_neg hn]
        rfl
      · rw [if_neg h1, if_neg h1, if_pos h2, if_pos h2]
    · exact hall_ge n h2 (fun _ _ => kc0_u (by decide)) (fun _ _ => kc1_u (by decide)) (fun _ _ => kc2_u (by decide)) (fun _ _ => kc3_u (by decide)) (fun _ _ => kc4_u (by decide)) (fun _ _ => kc5_u (by decide)) (fun _ _ => kc6_u (by decide)) (fun _ _ => kc7_u (by decide))
end CST
