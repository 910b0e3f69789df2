/-- the class's call that makes a thing -/
def PKN (k : Int32) (ad : Nat → Nat) (h : Hp) (r : Option Value) (h1 : Hp) : Option Value → (Nat → Nat) → Hp → Prop := fun v ad' h' => k = 0 ∧ PN ad h r h1 v ad' h'
theorem bm_zero {P : Nat → Bool} : ∀ n, (∀ k, k < n → P k = false) → bm P n = 0
  | 0, _ => rfl
  | n + 1, h => by
    unfold bm
    rw [if_neg (by rw [h n (by omega)]; decide), bm_zero n (fun k hk => h k (by omega))]
theorem add_act {TC : Nat → ClassId} {X S : St} {o : Nat → Int64} (hc : X 2 0 = nI (cnt X 2)) (hlt : cnt X 2 < 6) (hz : ∀ k, k < 6 → X 7 (6 * k + cnt X 2) = 0) (a b q d : Int32) : va_up (va_up (va_up (hall TC X S o) (1000 + cnt X 2) (some (.inr (0, [.int a, .int b, .int q, .int d, .int 0])))) 10 (some (.inl (TC 3, 6, .inr (.inr (.inr (.inr (va_up (rarr 1000 (cnt X 2)) (cnt X 2) (some (1000 + cnt X 2)))))))))) 0 (some (.inr (5, (cnfF X).set 5 (.int (X 2 0 + 1))))) = hall TC (uAct a b q d X) S o := by
  have e2 : cnt (uAct a b q d X) 2 = cnt X 2 + 1 := by unfold uAct; rw [cnt_sc, cnt_inc hc (by omega)]
  refine add_heap (X := X) (x := 1000 + cnt X 2) (a := 10) (by omega) (by omega) ?_ ?_ ?_ ?_ (fun z => absurd rfl z) (fun _ => ((cnt_u (by decide)).trans ((cnt_u (by decide)).trans ((cnt_u (by decide)).trans ((cnt_u (by decide)).trans (cnt_u (by decide))))))) (fun _ => ((cnt_u (by decide)).trans ((cnt_u (by decide)).trans ((cnt_u (by decide)).trans ((cnt_u (by decide)).trans (cnt_u (by decide))))))) (fun _ => ((cnt_u (by decide)).trans ((cnt_u (by decide)).trans ((cnt_u (by decide)).trans ((cnt_u (by decide)).trans (cnt_u (by decide))))))) (fun _ => ((cnt_u (by decide)).trans ((cnt_u (by decide)).trans ((cnt_u (by decide)).trans ((cnt_u (by decide)).trans (cnt_u (by decide)))))))
  · rw [va_up_at]
    show some (Sum.inr (5, (cnfF X).set 5 (.int (X 2 0 + 1)))) = some (Sum.inr (5, cnfF (uAct a b q d X)))
    rw [show cnfF (uAct a b q d X) = (cnfF X).set 5 (.int (X 2 0 + 1)) from by simp [cnfF, uAct, sU, upd]]
  · rw [vup_ne _ _ (by decide), va_up_at, hm_a0, e2, rarr_up]
  · intro n hn
    rw [vup_ne _ _ (show n ≠ 0 by omega), vup_ne _ _ (show n ≠ 10 by omega)]
    by_cases hx : n = 1000 + cnt X 2
    · rw [hx, va_up_at, hm_act (X := uAct a b q d X) (i := cnt X 2) (by rw [e2]; omega) (by rw [e2]; omega)]
      rw [show actF (uAct a b q d X) (cnt X 2) = [.int a, .int b, .int q, .int d, .int 0] from by
        have z : msB (uAct a b q d X) (cnt X 2) = 0 := bm_zero 6 fun k hk => by
          have := hz k hk
          simp [uAct, sU, this]
        unfold actF
        rw [z]
        simp [uAct, sU, upd]]
    · rw [vup_ne _ _ hx]
      refine hall_ge n (by omega) (fun j hj => ?_) (fun _ _ => ((kc1_u (by decide)).trans ((kc1_u (by decide)).trans ((kc1_u (by decide)).trans ((kc1_u (by decide)).trans (kc1_u (by decide))))))) (fun _ _ => ((kc2_u (by decide)).trans ((kc2_u (by decide)).trans ((kc2_u (by decide)).trans ((kc2_u (by decide)).trans (kc2_u (by decide))))))) (fun _ _ => ((kc3_u (by decide)).trans ((kc3_u (by decide)).trans ((kc3_u (by decide)).trans ((kc3_u (by decide)).trans (kc3_u (by decide))))))) (fun _ _ => ((kc4_u (by decide)).trans ((kc4_u (by decide)).trans ((kc4_u (by decide)).trans ((kc4_u (by decide)).trans (kc4_u (by decide))))))) (fun _ _ => ((kc5_u (by decide)).trans ((kc5_u (by decide)).trans ((kc5_u (by decide)).trans ((kc5_u (by decide)).trans (kc5_u (by decide))))))) (fun _ _ => ((kc6_u (by decide)).trans ((kc6_u (by decide)).trans ((kc6_u (by decide)).trans ((kc6_u (by decide)).trans (kc6_u (by decide))))))) (fun _ _ => ((kc7_u (by decide)).trans ((kc7_u (by decide)).trans ((kc7_u (by decide)).trans ((kc7_u (by decide)).trans (kc7_u (by decide)))))))
      have hjc : ¬ j = cnt X 2 := by omega
      unfold kc0
      rw [e2]
      by_cases g : j < cnt X 2
      · rw [if_pos g, if_pos (show j < cnt X 2 + 1 by omega), show actF (uAct a b q d X) j = actF X j from by simp [actF, uAct, sU, upd, hjc, msB]]
      · rw [if_neg g, if_neg (show ¬ j < cnt X 2 + 1 by omega)]
  · intro n h1 h2 h3
    rw [vup_ne _ _ (show n ≠ 0 by omega), vup_ne _ _ (show n ≠ 10 by omega), vup_ne _ _ (show n ≠ 1000 + cnt X 2 by omega)]
theorem add_std {TC : Nat → ClassId} {X S : St} {o : Nat → Int64} (hc : X 9 0 = nI (cnt X 9)) (hlt : cnt X 9 < 12) (a b : Int32) : va_up (va_up (va_up (hall TC X S o) (1100 + cnt X 9) (some (.inr (4, [.int b, .int a, .int (-1)])))) 11 (some (.inl (TC 4, 12, .inr (.inr (.inr (.inr (va_up (rarr 1100 (cnt X 9)) (cnt X 9) (some (1100 + cnt X 9)))))))))) 0 (some (.inr (5, (cnfF X).set 6 (.int (X 9 0 + 1))))) = hall TC (uStd a b X) S o := by
  have e2 : cnt (uStd a b X) 9 = cnt X 9 + 1 := by unfold uStd; rw [cnt_sc, cnt_inc hc (by omega)]
  refine add_heap (X := X) (x := 1100 + cnt X 9) (a := 11) (by omega) (by omega) ?_ ?_ ?_ ?_ (fun _ => ((cnt_u (by decide)).trans ((cnt_u (by decide)).trans ((cnt_u (by decide)).trans (cnt_u (by decide)))))) (fun z => absurd rfl z) (fun _ => ((cnt_u (by decide)).trans ((cnt_u (by decide)).trans ((cnt_u (by decide)).trans (cnt_u (by decide)))))) (fun _ => ((cnt_u (by decide)).trans ((cnt_u (by decide)).trans ((cnt_u (by decide)).trans (cnt_u (by decide)))))) (fun _ => ((cnt_u (by decide)).trans ((cnt_u (by decide)).trans ((cnt_u (by decide)).trans (cnt_u (by decide))))))
  · rw [va_up_at]
    show some (Sum.inr (5, (cnfF X).set 6 (.int (X 9 0 + 1)))) = some (Sum.inr (5, cnfF (uStd a b X)))
    rw [show cnfF (uStd a b X) = (cnfF X).set 6 (.int (X 9 0 + 1)) from by simp [cnfF, uStd, sU, upd]]
  · rw [vup_ne _ _ (by decide), va_up_at, hm_a1, e2, rarr_up]
  · intro n hn
    rw [vup_ne _ _ (show n ≠ 0 by omega), vup_ne _ _ (show n ≠ 11 by omega)]
    by_cases hx : n = 1100 + cnt X 9
    · rw [hx, va_up_at, hm_std (X := uStd a b X) (i := cnt X 9) (by rw [e2]; omega) (by rw [e2]; omega)]
      rw [show stdF (uStd a b X) (cnt X 9) = [.int b, .int a, .int (-1)] from by simp [stdF, uStd, sU, upd, unt]]
    · rw [vup_ne _ _ hx]
      refine hall_ge n (by omega) (fun _ _ => ((kc0_u (by decide)).trans ((kc0_u (by decide)).trans ((kc0_u (by decide)).trans (kc0_u (by decide)))))) (fun j hj => ?_) (fun _ _ => ((kc2_u (by decide)).trans ((kc2_u (by decide)).trans ((kc2_u (by decide)).trans (kc2_u (by decide)))))) (fun _ _ => ((kc3_u (by decide)).trans ((kc3_u (by decide)).trans ((kc3_u (by decide)).trans (kc3_u (by decide)))))) (fun _ _ => ((kc4_u (by decide)).trans ((kc4_u (by decide)).trans ((kc4_u (by decide)).trans (kc4_u (by decide)))))) (fun _ _ => ((kc5_u (by decide)).trans ((kc5_u (by decide)).trans ((kc5_u (by decide)).trans (kc5_u (by decide)))))) (fun _ _ => ((kc6_u (by decide)).trans ((kc6_u (by decide)).trans ((kc6_u (by decide)).trans (kc6_u (by decide)))))) (fun _ _ => ((kc7_u (by decide)).trans ((kc7_u (by decide)).trans ((kc7_u (by decide)).trans (kc7_u (by decide))))))
      have hjc : ¬ j = cnt X 9 := by omega
      unfold kc1
      rw [e2]
      by_cases g : j < cnt X 9
      · rw [if_pos g, if_pos (show j < cnt X 9 + 1 by omega), show stdF (uStd a b X) j = stdF X j from by simp [stdF, uStd, sU, upd, hjc, unt]]
      · rw [if_neg g, if_neg (show ¬ j < cnt X 9 + 1 by omega)]
  · intro n h1 h2 h3
    rw [vup_ne _ _ (show n ≠ 0 by omega), vup_ne _ _ (show n ≠ 11 by omega), vup_ne _ _ (show n ≠ 1100 + cnt X 9 by omega)]
theorem add_bod {TC : Nat → ClassId} {X S : St} {o : Nat → Int64} (hc : X 25 0 = nI (cnt X 25)) (hlt : cnt X 25 < 5) (b : Int32) : va_up (va_up (va_up (hall TC X S o) (1300 + cnt X 25) (some (.inr (2, [.int (X 25 0), .int b, .int (-1)])))) 13 (some (.inl (TC 6, 5, .inr (.inr (.inr (.inr (va_up (rarr 1300 (cnt X 25)) (cnt X 25) (some (1300 + cnt X 25)))))))))) 0 (some (.inr (5, (cnfF X).set 8 (.int (X 25 0 + 1))))) = hall TC (uBo b X) S o := by
  have e2 : cnt (uBo b X) 25 = cnt X 25 + 1 := by unfold uBo; rw [cnt_sc, cnt_inc hc (by omega)]
  refine add_heap (X := X) (x := 1300 + cnt X 25) (a := 13) (by omega) (by omega) ?_ ?_ ?_ ?_ (fun _ => ((cnt_u (by decide)).trans ((cnt_u (by decide)).trans (cnt_u (by decide))))) (fun _ => ((cnt_u (by decide)).trans ((cnt_u (by decide)).trans (cnt_u (by decide))))) (fun _ => ((cnt_u (by decide)).trans ((cnt_u (by decide)).trans (cnt_u (by decide))))) (fun z => absurd rfl z) (fun _ => ((cnt_u (by decide)).trans ((cnt_u (by decide)).trans (cnt_u (by decide)))))
  · rw [va_up_at]
    show some (Sum.inr (5, (cnfF X).set 8 (.int (X 25 0 + 1)))) = some (Sum.inr (5, cnfF (uBo b X)))
    rw [show cnfF (uBo b X) = (cnfF X).set 8 (.int (X 25 0 + 1)) from by simp [cnfF, uBo, sU, upd]]
  · rw [vup_ne _ _ (by decide), va_up_at, hm_a3, e2, rarr_up]
  · intro n hn
    rw [vup_ne _ _ (show n ≠ 0 by omega), vup_ne _ _ (show n ≠ 13 by omega)]
    by_cases hx : n = 1300 + cnt X 25
    · rw [hx, va_up_at, hm_bod (X := uBo b X) (i := cnt X 25) (by rw [e2]; omega) (by rw [e2]; omega)]
      rw [show bodF (uBo b X) (cnt X 25) = [.int (X 25 0), .int b, .int (-1)] from by rw [hc]; simp [bodF, uBo, sU, upd]]
    · rw [vup_ne _ _ hx]
      refine hall_ge n (by omega) (fun _ _ => ((kc0_u (by decide)).trans ((kc0_u (by decide)).trans (kc0_u (by decide))))) (fun _ _ => ((kc1_u (by decide)).trans ((kc1_u (by decide)).trans (kc1_u (by decide))))) (fun _ _ => ((kc2_u (by decide)).trans ((kc2_u (by decide)).trans (kc2_u (by decide))))) (fun j hj => ?_) (fun _ _ => ((kc4_u (by decide)).trans ((kc4_u (by decide)).trans (kc4_u (by decide))))) (fun _ _ => ((kc5_u (by decide)).trans ((kc5_u (by decide)).trans (kc5_u (by decide))))) (fun _ _ => ((kc6_u (by decide)).trans ((kc6_u (by decide)).trans (kc6_u (by decide))))) (fun _ _ => ((kc7_u (by decide)).trans ((kc7_u (by decide)).trans (kc7_u (by decide)))))
      have hjc : ¬ j = cnt X 25 := by omega
      unfold kc3
      rw [e2]
      by_cases g : j < cnt X 25
      · rw [if_pos g, if_pos (show j < cnt X 25 + 1 by omega), show bodF (uBo b X) j = bodF X j from by simp [bodF, uBo, sU, upd, hjc]]
      · rw [if_neg g, if_neg (show ¬ j < cnt X 25 + 1 by omega)]
  · intro n h1 h2 h3
    rw [vup_ne _ _ (show n ≠ 0 by omega), vup_ne _ _ (show n ≠ 13 by omega), vup_ne _ _ (show n ≠ 1300 + cnt X 25 by omega)]
theorem add_bat {TC : Nat → ClassId} {X S : St} {o : Nat → Int64} (hc : X 28 0 = nI (cnt X 28)) (hlt : cnt X 28 < 40) (hz : X 34 (cnt X 28) = 0 ∧ X 36 (cnt X 28) = 0 ∧ X 37 (cnt X 28) = 0) (w : Nat) (b q : Int32) : va_up (va_up (va_up (hall TC X S o) (1400 + cnt X 28) (some (.inr (1, [.int (nI w), .int b, .int (X 1 0), .int (X 15 w), .int q, .int 0, .int (-1), .int 0, .int 0])))) 14 (some (.inl (TC 7, 40, .inr (.inr (.inr (.inr (va_up (rarr 1400 (cnt X 28)) (cnt X 28) (some (1400 + cnt X 28)))))))))) 0 (some (.inr (5, (cnfF X).set 9 (.int (X 28 0 + 1))))) = hall TC (uArr w b q X) S o := by
  have e2 : cnt (uArr w b q X) 28 = cnt X 28 + 1 := by unfold uArr; rw [cnt_sc, cnt_inc hc (by omega)]
  refine add_heap (X := X) (x := 1400 + cnt X 28) (a := 14) (by omega) (by omega) ?_ ?_ ?_ ?_ (fun _ => ((cnt_u (by decide)).trans ((cnt_u (by decide)).trans ((cnt_u (by decide)).trans ((cnt_u (by decide)).trans ((cnt_u (by decide)).trans ((cnt_u (by decide)).trans (cnt_u (by decide))))))))) (fun _ => ((cnt_u (by decide)).trans ((cnt_u (by decide)).trans ((cnt_u (by decide)).trans ((cnt_u (by decide)).trans ((cnt_u (by decide)).trans ((cnt_u (by decide)).trans (cnt_u (by decide))))))))) (fun _ => ((cnt_u (by decide)).trans ((cnt_u (by decide)).trans ((cnt_u (by decide)).trans ((cnt_u (by decide)).trans ((cnt_u (by decide)).trans ((cnt_u (by decide)).trans (cnt_u (by decide))))))))) (fun _ => ((cnt_u (by decide)).trans ((cnt_u (by decide)).trans ((cnt_u (by decide)).trans ((cnt_u (by decide)).trans ((cnt_u (by decide)).trans ((cnt_u (by decide)).trans (cnt_u (by decide))))))))) (fun z => absurd rfl z)
  · rw [va_up_at]
    show some (Sum.inr (5, (cnfF X).set 9 (.int (X 28 0 + 1)))) = some (Sum.inr (5, cnfF (uArr w b q X)))
    rw [show cnfF (uArr w b q X) = (cnfF X).set 9 (.int (X 28 0 + 1)) from by simp [cnfF, uArr, sU, upd]]
  · rw [vup_ne _ _ (by decide), va_up_at, hm_a4, e2, rarr_up]
  · intro n hn
    rw [vup_ne _ _ (show n ≠ 0 by omega), vup_ne _ _ (show n ≠ 14 by omega)]
    by_cases hx : n = 1400 + cnt X 28
    · rw [hx, va_up_at, hm_bat (X := uArr w b q X) (i := cnt X 28) (by rw [e2]; omega) (by rw [e2]; omega)]
      rw [show batF (uArr w b q X) (cnt X 28) = [.int (nI w), .int b, .int (X 1 0), .int (X 15 w), .int q, .int 0, .int (-1), .int 0, .int 0] from by simp [batF, uArr, sU, upd, hz.1, hz.2.1, hz.2.2]]
    · rw [vup_ne _ _ hx]
      refine hall_ge n (by omega) (fun _ _ => ((kc0_u (by decide)).trans ((kc0_u (by decide)).trans ((kc0_u (by decide)).trans ((kc0_u (by decide)).trans ((kc0_u (by decide)).trans ((kc0_u (by decide)).trans (kc0_u (by decide))))))))) (fun _ _ => ((kc1_u (by decide)).trans ((kc1_u (by decide)).trans ((kc1_u (by decide)).trans ((kc1_u (by decide)).trans ((kc1_u (by decide)).trans ((kc1_u (by decide)).trans (kc1_u (by decide))))))))) (fun _ _ => ((kc2_u (by decide)).trans ((kc2_u (by decide)).trans ((kc2_u (by decide)).trans ((kc2_u (by decide)).trans ((kc2_u (by decide)).trans ((kc2_u (by decide)).trans (kc2_u (by decide))))))))) (fun _ _ => ((kc3_u (by decide)).trans ((kc3_u (by decide)).trans ((kc3_u (by decide)).trans ((kc3_u (by decide)).trans ((kc3_u (by decide)).trans ((kc3_u (by decide)).trans (kc3_u (by decide))))))))) (fun j hj => ?_) (fun _ _ => ((kc5_u (by decide)).trans ((kc5_u (by decide)).trans ((kc5_u (by decide)).trans ((kc5_u (by decide)).trans ((kc5_u (by decide)).trans ((kc5_u (by decide)).trans (kc5_u (by decide))))))))) (fun _ _ => ((kc6_u (by decide)).trans ((kc6_u (by decide)).trans ((kc6_u (by decide)).trans ((kc6_u (by decide)).trans ((kc6_u (by decide)).trans ((kc6_u (by decide)).trans (kc6_u (by decide))))))))) (fun _ _ => ((kc7_u (by decide)).trans ((kc7_u (by decide)).trans ((kc7_u (by decide)).trans ((kc7_u (by decide)).trans ((kc7_u (by decide)).trans ((kc7_u (by decide)).trans (kc7_u (by decide)))))))))
      have hjc : ¬ j = cnt X 28 := by omega
      unfold kc4
      rw [e2]
      by_cases g : j < cnt X 28
      · rw [if_pos g, if_pos (show j < cnt X 28 + 1 by omega), show batF (uArr w b q X) j = batF X j from by simp [batF, uArr, sU, upd, hjc]]
      · rw [if_neg g, if_neg (show ¬ j < cnt X 28 + 1 by omega)]
  · intro n h1 h2 h3
    rw [vup_ne _ _ (show n ≠ 0 by omega), vup_ne _ _ (show n ≠ 14 by omega), vup_ne _ _ (show n ≠ 1400 + cnt X 28 by omega)]
theorem add_prd {TC : Nat → ClassId} {X S : St} {o : Nat → Int64} (hc : X 13 0 = nI (cnt X 13)) (hlt : cnt X 13 < 10) (hz : X 15 (cnt X 13) = 0 ∧ X 19 (cnt X 13) = 0 ∧ X 24 (cnt X 13) = 0 ∧ (∀ j, j < 8 → X 16 (8 * cnt X 13 + j) = 0 ∧ X 17 (8 * cnt X 13 + j) = 0) ∧ ∀ j, j < 12 → X 18 (12 * cnt X 13 + j) = 0) (b : Int32) : va_up (va_up (va_up (va_up (va_up (va_up (hall TC X S o) (1500 + cnt X 13) (some (.inl (TC 0, 8, .inl (fun _ => 0))))) (1600 + cnt X 13) (some (.inl (TC 0, 8, .inl (fun _ => 0))))) (1700 + cnt X 13) (some (.inl (TC 0, 12, .inl (fun _ => 0))))) (1200 + cnt X 13) (some (.inr (3, [.ref (1500 + cnt X 13), .ref (1600 + cnt X 13), .ref (1700 + cnt X 13), .int b, .int 0, .int 0, .int (-1), .null, .int (-1), .int (-1), .int 0])))) 12 (some (.inl (TC 5, 10, .inr (.inr (.inr (.inr (va_up (rarr 1200 (cnt X 13)) (cnt X 13) (some (1200 + cnt X 13)))))))))) 0 (some (.inr (5, (cnfF X).set 7 (.int (X 13 0 + 1))))) = hall TC (uPr b X) S o := by
  have e2 : cnt (uPr b X) 13 = cnt X 13 + 1 := by unfold uPr; rw [cnt_sc, cnt_inc hc (by omega)]
  refine add_heap (X := X) (x := 1200 + cnt X 13) (a := 12) (by omega) (by omega) ?_ ?_ ?_ ?_ (fun _ => ((cnt_u (by decide)).trans ((cnt_u (by decide)).trans ((cnt_u (by decide)).trans ((cnt_u (by decide)).trans ((cnt_u (by decide)).trans (cnt_u (by decide)))))))) (fun _ => ((cnt_u (by decide)).trans ((cnt_u (by decide)).trans ((cnt_u (by decide)).trans ((cnt_u (by decide)).trans ((cnt_u (by decide)).trans (cnt_u (by decide)))))))) (fun z => absurd rfl z) (fun _ => ((cnt_u (by decide)).trans ((cnt_u (by decide)).trans ((cnt_u (by decide)).trans ((cnt_u (by decide)).trans ((cnt_u (by decide)).trans (cnt_u (by decide)))))))) (fun _ => ((cnt_u (by decide)).trans ((cnt_u (by decide)).trans ((cnt_u (by decide)).trans ((cnt_u (by decide)).trans ((cnt_u (by decide)).trans (cnt_u (by decide))))))))
  · rw [va_up_at]
    show some (Sum.inr (5, (cnfF X).set 7 (.int (X 13 0 + 1)))) = some (Sum.inr (5, cnfF (uPr b X)))
    rw [show cnfF (uPr b X) = (cnfF X).set 7 (.int (X 13 0 + 1)) from by simp [cnfF, uPr, sU, upd]]
  · rw [vup_ne _ _ (by decide), va_up_at, hm_a2, e2, rarr_up]
  · intro n hn
    rw [vup_ne _ _ (show n ≠ 0 by omega), vup_ne _ _ (show n ≠ 12 by omega)]
    by_cases hx : n = 1200 + cnt X 13
    · rw [hx, va_up_at, hm_prd (X := uPr b X) (i := cnt X 13) (by rw [e2]; omega) (by rw [e2]; omega)]
      rw [show prdF (uPr b X) (cnt X 13) = [.ref (1500 + cnt X 13), .ref (1600 + cnt X 13), .ref (1700 + cnt X 13), .int b, .int 0, .int 0, .int (-1), .null, .int (-1), .int (-1), .int 0] from by simp [prdF, uPr, sU, upd, cert, hz.1, hz.2.1, hz.2.2.1]]
    rw [vup_ne _ _ hx]
    by_cases hr5 : n = 1500 + cnt X 13
    · rw [hr5, vup_ne _ _ (show 1500 + cnt X 13 ≠ 1700 + cnt X 13 by omega), vup_ne _ _ (show 1500 + cnt X 13 ≠ 1600 + cnt X 13 by omega), va_up_at, hm_rb (X := uPr b X) (i := cnt X 13) (by rw [e2]; omega) (by rw [e2]; omega)]
      rw [show mk 8 (fun j => uPr b X 16 (8 * cnt X 13 + j)) = fun _ => 0 from funext fun j => by
        unfold mk
        by_cases hj : j < 8
        · rw [if_pos hj]; exact (hz.2.2.2.1 j hj).1
        · rw [if_neg hj]]
    by_cases hr6 : n = 1600 + cnt X 13
    · rw [hr6, vup_ne _ _ (show 1600 + cnt X 13 ≠ 1700 + cnt X 13 by omega), va_up_at, hm_ra (X := uPr b X) (i := cnt X 13) (by rw [e2]; omega) (by rw [e2]; omega)]
      rw [show mk 8 (fun j => uPr b X 17 (8 * cnt X 13 + j)) = fun _ => 0 from funext fun j => by
        unfold mk
        by_cases hj : j < 8
        · rw [if_pos hj]; exact (hz.2.2.2.1 j hj).2
        · rw [if_neg hj]]
    by_cases hr7 : n = 1700 + cnt X 13
    · rw [hr7, va_up_at, hm_fo (X := uPr b X) (i := cnt X 13) (by rw [e2]; omega) (by rw [e2]; omega)]
      rw [show mk 12 (fun j => uPr b X 18 (12 * cnt X 13 + j)) = fun _ => 0 from funext fun j => by
        unfold mk
        by_cases hj : j < 12
        · rw [if_pos hj]; exact hz.2.2.2.2 j hj
        · rw [if_neg hj]]
    rw [vup_ne _ _ hr7, vup_ne _ _ hr6, vup_ne _ _ hr5]
    refine hall_ge n (by omega) (fun _ _ => ((kc0_u (by decide)).trans ((kc0_u (by decide)).trans ((kc0_u (by decide)).trans ((kc0_u (by decide)).trans ((kc0_u (by decide)).trans (kc0_u (by decide)))))))) (fun _ _ => ((kc1_u (by decide)).trans ((kc1_u (by decide)).trans ((kc1_u (by decide)).trans ((kc1_u (by decide)).trans ((kc1_u (by decide)).trans (kc1_u (by decide)))))))) (fun j hj => ?_) (fun _ _ => ((kc3_u (by decide)).trans ((kc3_u (by decide)).trans ((kc3_u (by decide)).trans ((kc3_u (by decide)).trans ((kc3_u (by decide)).trans (kc3_u (by decide)))))))) (fun _ _ => ((kc4_u (by decide)).trans ((kc4_u (by decide)).trans ((kc4_u (by decide)).trans ((kc4_u (by decide)).trans ((kc4_u (by decide)).trans (kc4_u (by decide)))))))) (fun j hj => ?_) (fun j hj => ?_) (fun j hj => ?_)
    · have hjc : ¬ j = cnt X 13 := by omega
      unfold kc2
      rw [e2]
      by_cases g : j < cnt X 13
      · rw [if_pos g, if_pos (show j < cnt X 13 + 1 by omega), show prdF (uPr b X) j = prdF X j from by simp [prdF, uPr, sU, upd, hjc, cert]]
      · rw [if_neg g, if_neg (show ¬ j < cnt X 13 + 1 by omega)]
    · have hjc : ¬ j = cnt X 13 := by omega
      unfold kc5
      rw [e2]
      by_cases g : j < cnt X 13
      · rw [if_pos g, if_pos (show j < cnt X 13 + 1 by omega)]
        rfl
      · rw [if_neg g, if_neg (show ¬ j < cnt X 13 + 1 by omega)]
    · have hjc : ¬ j = cnt X 13 := by omega
      unfold kc6
      rw [e2]
      by_cases g : j < cnt X 13
      · rw [if_pos g, if_pos (show j < cnt X 13 + 1 by omega)]
        rfl
      · rw [if_neg g, if_neg (show ¬ j < cnt X 13 + 1 by omega)]
    · have hjc : ¬ j = cnt X 13 := by omega
      unfold kc7
      rw [e2]
      by_cases g : j < cnt X 13
      · rw [if_pos g, if_pos (show j < cnt X 13 + 1 by omega)]
        rfl
      · rw [if_neg g, if_neg (show ¬ j < cnt X 13 + 1 by omega)]
  · intro n h1 h2 h3
    rw [vup_ne _ _ (show n ≠ 0 by omega), vup_ne _ _ (show n ≠ 12 by omega), vup_ne _ _ (show n ≠ 1200 + cnt X 13 by omega), vup_ne _ _ (show n ≠ 1700 + cnt X 13 by omega), vup_ne _ _ (show n ≠ 1600 + cnt X 13 by omega), vup_ne _ _ (show n ≠ 1500 + cnt X 13 by omega)]

