theorem rcU_0 (S : St) (w v : Int32) (a : Nat) : ∀ n g, g ≠ 0 → rcU (sU S 0 0 w) v a n g = rcU S v a n g
  | 0, g, hg => sU_ne hg
  | n + 1, g, hg => by
    have e := rcU_0 S w v a n
    unfold rcU sU
    have h1 : rcF (rcU (sU S 0 0 w) v a n) v (a + n) = rcF (rcU S v a n) v (a + n) := by
      unfold rcF; rw [e 29 (by decide), e 34 (by decide)]
    by_cases hg2 : g = 34
    · rw [if_pos hg2, if_pos hg2]
      have h2 := e 34 (by decide)
      unfold sU at h1 h2
      rw [h1, h2]
    · rw [if_neg hg2, if_neg hg2]
      exact e g hg
theorem rcT_0 (S : St) (w v : Int32) (a : Nat) : ∀ n, rcT (sU S 0 0 w) v a n = rcT S v a n
  | 0 => rfl
  | n + 1 => by
    have e := rcU_0 S w v a n
    have h1 : rcF (rcU (sU S 0 0 w) v a n) v (a + n) = rcF (rcU S v a n) v (a + n) := by
      unfold rcF; rw [e 29 (by decide), e 34 (by decide)]
    unfold rcT
    rw [rcT_0 S w v a n, h1, e 30 (by decide)]
set_option maxHeartbeats 2000000 in
set_option maxRecDepth 20000 in
theorem c_X6_recall {l : Launch} (hst : l.stackTraces = false) (D : va_G) (TC : Nat → ClassId) (H0 : Heap) (ad : Nat → Nat) (X S : St) (o : Nat → Int64) (v : Int32) (a : Int32) (b : Int32) (n : Nat) (hi : INV n S) : CC l D (tysOf TC) H0 yX6_recall cX6_recall 8 (some .int) 6 0 0 [.ref 2, .int v, .int a, .int b] ad (hall TC X S o) (PR ad (some (.int (mR (kRc S v a b) (rRc S v a b)))) (hall TC X (mS (kRc S v a b) (S) (uRc v a b)) o)) (fun _ => False) := by
  refine cc_intro hst (by decide +kernel) (Nat.le_of_ble_eq_true rfl) ?_
  intro p e s m args below meth c F
  rw [show lv_args 0 [.ref 2, .int v, .int a, .int b] = [(0, .ref 2), (1, .int v), (2, .int a), (3, .int b)] from rfl]
  obtain ⟨hc, hs, hp, hd0, hm, h7, h8, hbo0, hu0, hvr⟩ := id hi
  have hc2 := hc.2; have hs2 := hs.2; have hp2 := hp.2; have hd := hd0.2; have hm2 := hm.2
  refine wa_aload_n F dX6_recall_0 (i := 0) rfl 0 rfl ?_
  refine wa_iload_n F dX6_recall_1 (i := 1) rfl 1 rfl ?_
  refine wa_callV F [] (c_X6_isProduct hst D TC H0 ad X S o v) mw_X6_isProduct ml_X6_145 hm_m rfl rfl (Nat.le_of_ble_eq_true rfl) ⟨Nat.le_of_ble_eq_true rfl, Nat.le_of_ble_eq_true rfl⟩ ⟨Nat.le_of_ble_eq_true rfl, Nat.le_of_ble_eq_true rfl⟩ dX6_recall_2 PR_ag (fun _ z => z.elim) ?_
  rintro _ _ _ ⟨rfl, rfl, rfl⟩
  refine wa_if_eq (tgt := 28) F dX6_recall_5 (by decide) (fun c5 => ?_) (fun c5 => ?_)
  · skip
    replace c5 : (sIn v 0 (S 13 0 - 1)) = false := bI_f c5
    refine wa_iconst (v := 0) F dX6_recall_28 (by decide) ?_
    refine wa_istore (lv' := [(4, .int 0), (0, .ref 2), (1, .int v), (2, .int a), (3, .int b)]) F dX6_recall_29 (by decide) rfl ?_
    refine wa_aload_n F dX6_recall_31 (i := 0) rfl 1 rfl ?_
    refine wa_iload F dX6_recall_32 0 rfl ?_
    refine wa_if_ne (tgt := 41) F dX6_recall_34 (by decide) (fun z => absurd (by decide) z) (fun _ => ?_)
    refine wa_iconst (v := 1) F dX6_recall_37 (by decide) ?_
    refine wa_goto (tgt := 51) F dX6_recall_38 (by decide) ?_
    refine wa_callV F [] (c_X6_refused hst D TC H0 ad X S o 1) mw_X6_refused ml_X6_127 hm_m rfl rfl (Nat.le_of_ble_eq_true rfl) ⟨Nat.le_of_ble_eq_true rfl, Nat.le_of_ble_eq_true rfl⟩ ⟨Nat.le_of_ble_eq_true rfl, Nat.le_of_ble_eq_true rfl⟩ dX6_recall_51 PR_ag (fun _ z => z.elim) ?_
    rintro _ _ _ ⟨rfl, rfl, rfl⟩
    rw [show (bI (decide (¬ (1 : Int32) = 0))) = 1 from rfl]
    refine wa_if_eq (tgt := 59) F dX6_recall_54 (by decide) (fun z => absurd z (by decide)) (fun _ => ?_)
    refine wa_iconst (v := 0) F dX6_recall_57 (by decide) ?_
    refine wa_iret F rfl (Nat.le_of_ble_eq_true rfl) (Nat.le_of_ble_eq_true rfl) dX6_recall_58 ?_
    have ek : kRc S v a b = 1 := by simp [kRc, c5]
    exact ⟨by rw [ek, mR_n (by decide)], rfl, by rw [ek, mS_n (by decide)]⟩
  · skip
    replace c5 : (sIn v 0 (S 13 0 - 1)) = true := bI_t c5
    obtain ⟨jv, lv, rfl⟩ := sIn_nat hp.1 (by omega) c5
    have ev : tn (nI jv) = jv := tn_nI (by omega)
    refine wa_aload_n F dX6_recall_8 (i := 0) rfl 0 rfl ?_
    refine wa_iload_n F dX6_recall_9 (i := 2) rfl 2 rfl ?_
    refine wa_callV F [] (c_X6_isBatch hst D TC H0 ad X S o a) mw_X6_isBatch ml_X6_197 hm_m rfl rfl (Nat.le_of_ble_eq_true rfl) ⟨Nat.le_of_ble_eq_true rfl, Nat.le_of_ble_eq_true rfl⟩ ⟨Nat.le_of_ble_eq_true rfl, Nat.le_of_ble_eq_true rfl⟩ dX6_recall_10 PR_ag (fun _ z => z.elim) ?_
    rintro _ _ _ ⟨rfl, rfl, rfl⟩
    refine wa_if_eq (tgt := 28) F dX6_recall_13 (by decide) (fun c13 => ?_) (fun c13 => ?_)
    · skip
      replace c13 : (sIn a 0 (S 28 0 - 1)) = false := bI_f c13
      refine wa_iconst (v := 0) F dX6_recall_28 (by decide) ?_
      refine wa_istore (lv' := [(4, .int 0), (0, .ref 2), (1, .int (nI jv)), (2, .int a), (3, .int b)]) F dX6_recall_29 (by decide) rfl ?_
      refine wa_aload_n F dX6_recall_31 (i := 0) rfl 1 rfl ?_
      refine wa_iload F dX6_recall_32 0 rfl ?_
      refine wa_if_ne (tgt := 41) F dX6_recall_34 (by decide) (fun z => absurd (by decide) z) (fun _ => ?_)
      refine wa_iconst (v := 1) F dX6_recall_37 (by decide) ?_
      refine wa_goto (tgt := 51) F dX6_recall_38 (by decide) ?_
      refine wa_callV F [] (c_X6_refused hst D TC H0 ad X S o 1) mw_X6_refused ml_X6_127 hm_m rfl rfl (Nat.le_of_ble_eq_true rfl) ⟨Nat.le_of_ble_eq_true rfl, Nat.le_of_ble_eq_true rfl⟩ ⟨Nat.le_of_ble_eq_true rfl, Nat.le_of_ble_eq_true rfl⟩ dX6_recall_51 PR_ag (fun _ z => z.elim) ?_
      rintro _ _ _ ⟨rfl, rfl, rfl⟩
      rw [show (bI (decide (¬ (1 : Int32) = 0))) = 1 from rfl]
      refine wa_if_eq (tgt := 59) F dX6_recall_54 (by decide) (fun z => absurd z (by decide)) (fun _ => ?_)
      refine wa_iconst (v := 0) F dX6_recall_57 (by decide) ?_
      refine wa_iret F rfl (Nat.le_of_ble_eq_true rfl) (Nat.le_of_ble_eq_true rfl) dX6_recall_58 ?_
      have ek : kRc S (nI jv) a b = 1 := by simp [kRc, c5, c13, ev]
      exact ⟨by rw [ek, mR_n (by decide)], rfl, by rw [ek, mS_n (by decide)]⟩
    · skip
      replace c13 : (sIn a 0 (S 28 0 - 1)) = true := bI_t c13
      obtain ⟨ja, la, rfl⟩ := sIn_nat hm.1 (by omega) c13
      have ea : tn (nI ja) = ja := tn_nI (by omega)
      have hu := ne0_of_toInt (hu0 ja la).1
      refine wa_aload_n F dX6_recall_16 (i := 0) rfl 0 rfl ?_
      refine wa_iload_n F dX6_recall_17 (i := 3) rfl 3 rfl ?_
      refine wa_callV F [] (c_X6_isBatch hst D TC H0 ad X S o b) mw_X6_isBatch ml_X6_197 hm_m rfl rfl (Nat.le_of_ble_eq_true rfl) ⟨Nat.le_of_ble_eq_true rfl, Nat.le_of_ble_eq_true rfl⟩ ⟨Nat.le_of_ble_eq_true rfl, Nat.le_of_ble_eq_true rfl⟩ dX6_recall_18 PR_ag (fun _ z => z.elim) ?_
      rintro _ _ _ ⟨rfl, rfl, rfl⟩
      refine wa_if_eq (tgt := 28) F dX6_recall_21 (by decide) (fun c21 => ?_) (fun c21 => ?_)
      · skip
        replace c21 : (sIn b 0 (S 28 0 - 1)) = false := bI_f c21
        refine wa_iconst (v := 0) F dX6_recall_28 (by decide) ?_
        refine wa_istore (lv' := [(4, .int 0), (0, .ref 2), (1, .int (nI jv)), (2, .int (nI ja)), (3, .int b)]) F dX6_recall_29 (by decide) rfl ?_
        refine wa_aload_n F dX6_recall_31 (i := 0) rfl 1 rfl ?_
        refine wa_iload F dX6_recall_32 0 rfl ?_
        refine wa_if_ne (tgt := 41) F dX6_recall_34 (by decide) (fun z => absurd (by decide) z) (fun _ => ?_)
        refine wa_iconst (v := 1) F dX6_recall_37 (by decide) ?_
        refine wa_goto (tgt := 51) F dX6_recall_38 (by decide) ?_
        refine wa_callV F [] (c_X6_refused hst D TC H0 ad X S o 1) mw_X6_refused ml_X6_127 hm_m rfl rfl (Nat.le_of_ble_eq_true rfl) ⟨Nat.le_of_ble_eq_true rfl, Nat.le_of_ble_eq_true rfl⟩ ⟨Nat.le_of_ble_eq_true rfl, Nat.le_of_ble_eq_true rfl⟩ dX6_recall_51 PR_ag (fun _ z => z.elim) ?_
        rintro _ _ _ ⟨rfl, rfl, rfl⟩
        rw [show (bI (decide (¬ (1 : Int32) = 0))) = 1 from rfl]
        refine wa_if_eq (tgt := 59) F dX6_recall_54 (by decide) (fun z => absurd z (by decide)) (fun _ => ?_)
        refine wa_iconst (v := 0) F dX6_recall_57 (by decide) ?_
        refine wa_iret F rfl (Nat.le_of_ble_eq_true rfl) (Nat.le_of_ble_eq_true rfl) dX6_recall_58 ?_
        have ek : kRc S (nI jv) (nI ja) b = 1 := by simp [kRc, c5, c13, c21, ev, ea]
        exact ⟨by rw [ek, mR_n (by decide)], rfl, by rw [ek, mS_n (by decide)]⟩
      · skip
        replace c21 : (sIn b 0 (S 28 0 - 1)) = true := bI_t c21
        obtain ⟨jb, lb, rfl⟩ := sIn_nat hm.1 (by omega) c21
        have eb : tn (nI jb) = jb := tn_nI (by omega)
        have hu := ne0_of_toInt (hu0 jb lb).1
        refine wa_iconst (v := 1) F dX6_recall_24 (by decide) ?_
        refine wa_goto (tgt := 29) F dX6_recall_25 (by decide) ?_
        refine wa_istore (lv' := [(4, .int 1), (0, .ref 2), (1, .int (nI jv)), (2, .int (nI ja)), (3, .int (nI jb))]) F dX6_recall_29 (by decide) rfl ?_
        refine wa_aload_n F dX6_recall_31 (i := 0) rfl 1 rfl ?_
        refine wa_iload F dX6_recall_32 0 rfl ?_
        refine wa_if_ne (tgt := 41) F dX6_recall_34 (by decide) (fun _ => ?_) (fun z => absurd z (by decide))
        refine wa_iload_n F dX6_recall_41 (i := 3) rfl 4 rfl ?_
        refine wa_iload_n F dX6_recall_42 (i := 2) rfl 3 rfl ?_
        refine wa_icmp_ge (tgt := 50) F dX6_recall_43 (by decide) (fun c43 => ?_) (fun c43 => ?_)
        · skip
          have hab : ja ≤ jb := (nI_leI (by omega) (by omega)).mp c43
          refine wa_iconst (v := 0) F dX6_recall_50 (by decide) ?_
          refine wa_callV F [] (c_X6_refused hst D TC H0 ad X S o 0) mw_X6_refused ml_X6_127 hm_m rfl rfl (Nat.le_of_ble_eq_true rfl) ⟨Nat.le_of_ble_eq_true rfl, Nat.le_of_ble_eq_true rfl⟩ ⟨Nat.le_of_ble_eq_true rfl, Nat.le_of_ble_eq_true rfl⟩ dX6_recall_51 PR_ag (fun _ z => z.elim) ?_
          rintro _ _ _ ⟨rfl, rfl, rfl⟩
          rw [show (bI (decide (¬ (0 : Int32) = 0))) = 0 from rfl]
          refine wa_if_eq (tgt := 59) F dX6_recall_54 (by decide) (fun _ => ?_) (fun z => absurd (by decide) z)
          refine wa_iconst (v := 0) F dX6_recall_59 (by decide) ?_
          refine wa_istore (lv' := [(5, .int 0), (4, .int 1), (0, .ref 2), (1, .int (nI jv)), (2, .int (nI ja)), (3, .int (nI jb))]) F dX6_recall_60 (by decide) rfl ?_
          refine wa_iload_n F dX6_recall_62 (i := 2) rfl 4 rfl ?_
          refine wa_istore (lv' := [(6, .int (nI ja)), (5, .int 0), (4, .int 1), (0, .ref 2), (1, .int (nI jv)), (2, .int (nI ja)), (3, .int (nI jb))]) F dX6_recall_63 (by decide) rfl ?_
          have loop65 : ∀ (n kk : Nat), kk ≤ (jb + 1 - ja) → (jb + 1 - ja) - kk < n → WA D H0 p l e (RM 6 0 0) s m args below meth c 8 (vx_MQ below (QC0 D H0 (PR ad (some (.int (mR (kRc S (nI jv) (nI ja) (nI jb)) (rRc S (nI jv) (nI ja) (nI jb))))) (hall TC X (mS (kRc S (nI jv) (nI ja) (nI jb)) (S) (uRc (nI jv) (nI ja) (nI jb))) o))) (XC0 D H0 (fun _ => False) ad (hall TC X S o)) args s 0 0 (hA0 H0)) ad (hall TC X (rcU (sU S 0 0 0) (nI jv) ja kk) o) 0 0 65 [(6, .int (nI (ja + kk))), (5, .int (rcT (sU S 0 0 0) (nI jv) ja kk)), (4, .int 1), (0, .ref 2), (1, .int (nI jv)), (2, .int (nI ja)), (3, .int (nI jb))] [] := by
            intro n
            induction n with
            | zero => intro kk h1 h2; omega
            | succ n ih_kk =>
              intro kk hk_kk hn_kk
              refine wa_iload F dX6_recall_65 0 rfl ?_
              refine wa_iload_n F dX6_recall_67 (i := 3) rfl 6 rfl ?_
              refine wa_icmp_gt (tgt := 149) F dX6_recall_68 (by decide) (fun c68 => ?_) (fun c68 => ?_)
              · skip
                replace c68 := lt_nle c68
                have he_kk : kk = (jb + 1 - ja) := by have := Nat.lt_of_not_le fun z => c68 (nI_le (a := ja + kk) (b := jb) z (by omega)); omega
                subst he_kk
                refine wa_iload F dX6_recall_149 1 rfl ?_
                refine wa_iret F rfl (Nat.le_of_ble_eq_true rfl) (Nat.le_of_ble_eq_true rfl) dX6_recall_151 ?_
                have ek : kRc S (nI jv) (nI ja) (nI jb) = 0 := by simp [kRc, c5, c13, c21, c43, ev, ea, eb]
                refine ⟨?_, rfl, ?_⟩
                · rw [ek, mR_0]
                  refine congrArg (fun z => some (Value.int z)) ?_
                  unfold rRc; rw [ea, eb]; exact (rcT_0 S 0 (nI jv) ja _).symm
                · rw [ek, mS_0]
                  unfold uRc; rw [ea, eb]
              · skip
                replace c68 := nlt_le c68
                have hl_kk : kk < (jb + 1 - ja) := by have := (nI_leI (a := ja + kk) (b := jb) (by omega) (by omega)).mp c68; omega
                refine wa_aload_n F dX6_recall_71 (i := 0) rfl 3 rfl ?_
                refine wa_getf (v := .ref 129) F LY_X6 (hm_m (S := (rcU (sU S 0 0 0) (nI jv) ja kk))) 29 (by decide) fl_X6_77 rfl dX6_recall_72 ?_
                refine wa_iload F dX6_recall_75 0 rfl ?_
                refine wa_iald (f := (rcU (sU S 0 0 0) (nI jv) ja kk) 29) F 0 rfl (hm_29 (S := (rcU (sU S 0 0 0) (nI jv) ja kk))) (ja + kk) rfl (by omega) (by decide) dX6_recall_77 ?_
                refine wa_iload_n F dX6_recall_78 (i := 1) rfl 4 rfl ?_
                refine wa_icmp_ne (tgt := 96) F dX6_recall_79 (by decide) (fun c79 => ?_) (fun c79 => ?_)
                · skip
                  refine wa_iconst (v := 0) F dX6_recall_96 (by decide) ?_
                  refine wa_istore (lv' := [(7, .int 0), (6, .int (nI (ja + kk))), (5, .int (rcT (sU S 0 0 0) (nI jv) ja kk)), (4, .int 1), (0, .ref 2), (1, .int (nI jv)), (2, .int (nI ja)), (3, .int (nI jb))]) F dX6_recall_97 (by decide) rfl ?_
                  refine wa_iload F dX6_recall_99 2 rfl ?_
                  refine wa_iload F dX6_recall_101 0 rfl ?_
                  refine wa_if_eq (tgt := 116) F dX6_recall_103 (by decide) (fun _ => ?_) (fun z => absurd (by decide) z)
                  refine wa_iconst (v := 0) F dX6_recall_116 (by decide) ?_
                  refine wa_iadd F dX6_recall_117 ?_
                  refine wa_istore (lv' := [(5, .int ((rcT (sU S 0 0 0) (nI jv) ja kk) + 0)), (7, .int 0), (6, .int (nI (ja + kk))), (4, .int 1), (0, .ref 2), (1, .int (nI jv)), (2, .int (nI ja)), (3, .int (nI jb))]) F dX6_recall_118 (by decide) rfl ?_
                  refine wa_aload_n F dX6_recall_120 (i := 0) rfl 4 rfl ?_
                  refine wa_getf (v := .ref 134) F LY_X6 (hm_m (S := (rcU (sU S 0 0 0) (nI jv) ja kk))) 34 (by decide) fl_X6_92 rfl dX6_recall_121 ?_
                  refine wa_iload F dX6_recall_124 2 rfl ?_
                  refine wa_iload F dX6_recall_126 1 rfl ?_
                  refine wa_if_eq (tgt := 135) F dX6_recall_128 (by decide) (fun _ => ?_) (fun z => absurd (by decide) z)
                  refine wa_aload_n F dX6_recall_135 (i := 0) rfl 4 rfl ?_
                  refine wa_getf (v := .ref 134) F LY_X6 (hm_m (S := (rcU (sU S 0 0 0) (nI jv) ja kk))) 34 (by decide) fl_X6_92 rfl dX6_recall_136 ?_
                  refine wa_iload F dX6_recall_139 2 rfl ?_
                  refine wa_iald (f := (rcU (sU S 0 0 0) (nI jv) ja kk) 34) F 0 rfl (hm_34 (S := (rcU (sU S 0 0 0) (nI jv) ja kk))) (ja + kk) rfl (by omega) (by decide) dX6_recall_141 ?_
                  refine wa_iast F 0 rfl (hm_34 (S := (rcU (sU S 0 0 0) (nI jv) ja kk))) (ja + kk) rfl (by omega) (by decide) dX6_recall_142 (hu_34 (ja + kk) ((rcU (sU S 0 0 0) (nI jv) ja kk) 34 (ja + kk))) ?_
                  refine wa_iinc (v := (nI ((ja + kk) + 1))) (j := 2) (lv' := [(6, .int (nI ((ja + kk) + 1))), (5, .int ((rcT (sU S 0 0 0) (nI jv) ja kk) + 0)), (7, .int 0), (4, .int 1), (0, .ref 2), (1, .int (nI jv)), (2, .int (nI ja)), (3, .int (nI jb))]) F dX6_recall_143 rfl ((nI_succ (ja + kk)).symm) (by decide) rfl ?_
                  refine wa_goto (tgt := 65) F dX6_recall_146 (by decide) ?_
                  have ea1 : ((rcT (sU S 0 0 0) (nI jv) ja kk) + 0) = (rcT (sU S 0 0 0) (nI jv) ja (kk + 1)) := by simp [rcT, rcF, c79]
                  refine wa_lv (lv' := [(6, .int (nI (ja + (kk + 1)))), (5, .int (rcT (sU S 0 0 0) (nI jv) ja (kk + 1))), (4, .int 1), (0, .ref 2), (1, .int (nI jv)), (2, .int (nI ja)), (3, .int (nI jb))]) [0, 1, 3, 4, 5, 6, 7] (by rw [← ea1]; rfl) ?_
                  rw [show (sU (rcU (sU S 0 0 0) (nI jv) ja kk) 34 (ja + kk) ((rcU (sU S 0 0 0) (nI jv) ja kk) 34 (ja + kk))) = rcU (sU S 0 0 0) (nI jv) ja (kk + 1) from by simp [rcU, rcF, c79]]
                  exact ih_kk (kk + 1) (by omega) (by omega)
                · skip
                  refine wa_aload_n F dX6_recall_82 (i := 0) rfl 3 rfl ?_
                  refine wa_getf (v := .ref 134) F LY_X6 (hm_m (S := (rcU (sU S 0 0 0) (nI jv) ja kk))) 34 (by decide) fl_X6_92 rfl dX6_recall_83 ?_
                  refine wa_iload F dX6_recall_86 0 rfl ?_
                  refine wa_iald (f := (rcU (sU S 0 0 0) (nI jv) ja kk) 34) F 0 rfl (hm_34 (S := (rcU (sU S 0 0 0) (nI jv) ja kk))) (ja + kk) rfl (by omega) (by decide) dX6_recall_88 ?_
                  refine wa_if_ne (tgt := 96) F dX6_recall_89 (by decide) (fun c89 => ?_) (fun c89 => ?_)
                  · skip
                    refine wa_iconst (v := 0) F dX6_recall_96 (by decide) ?_
                    refine wa_istore (lv' := [(7, .int 0), (6, .int (nI (ja + kk))), (5, .int (rcT (sU S 0 0 0) (nI jv) ja kk)), (4, .int 1), (0, .ref 2), (1, .int (nI jv)), (2, .int (nI ja)), (3, .int (nI jb))]) F dX6_recall_97 (by decide) rfl ?_
                    refine wa_iload F dX6_recall_99 2 rfl ?_
                    refine wa_iload F dX6_recall_101 0 rfl ?_
                    refine wa_if_eq (tgt := 116) F dX6_recall_103 (by decide) (fun _ => ?_) (fun z => absurd (by decide) z)
                    refine wa_iconst (v := 0) F dX6_recall_116 (by decide) ?_
                    refine wa_iadd F dX6_recall_117 ?_
                    refine wa_istore (lv' := [(5, .int ((rcT (sU S 0 0 0) (nI jv) ja kk) + 0)), (7, .int 0), (6, .int (nI (ja + kk))), (4, .int 1), (0, .ref 2), (1, .int (nI jv)), (2, .int (nI ja)), (3, .int (nI jb))]) F dX6_recall_118 (by decide) rfl ?_
                    refine wa_aload_n F dX6_recall_120 (i := 0) rfl 4 rfl ?_
                    refine wa_getf (v := .ref 134) F LY_X6 (hm_m (S := (rcU (sU S 0 0 0) (nI jv) ja kk))) 34 (by decide) fl_X6_92 rfl dX6_recall_121 ?_
                    refine wa_iload F dX6_recall_124 2 rfl ?_
                    refine wa_iload F dX6_recall_126 1 rfl ?_
                    refine wa_if_eq (tgt := 135) F dX6_recall_128 (by decide) (fun _ => ?_) (fun z => absurd (by decide) z)
                    refine wa_aload_n F dX6_recall_135 (i := 0) rfl 4 rfl ?_
                    refine wa_getf (v := .ref 134) F LY_X6 (hm_m (S := (rcU (sU S 0 0 0) (nI jv) ja kk))) 34 (by decide) fl_X6_92 rfl dX6_recall_136 ?_
                    refine wa_iload F dX6_recall_139 2 rfl ?_
                    refine wa_iald (f := (rcU (sU S 0 0 0) (nI jv) ja kk) 34) F 0 rfl (hm_34 (S := (rcU (sU S 0 0 0) (nI jv) ja kk))) (ja + kk) rfl (by omega) (by decide) dX6_recall_141 ?_
                    refine wa_iast F 0 rfl (hm_34 (S := (rcU (sU S 0 0 0) (nI jv) ja kk))) (ja + kk) rfl (by omega) (by decide) dX6_recall_142 (hu_34 (ja + kk) ((rcU (sU S 0 0 0) (nI jv) ja kk) 34 (ja + kk))) ?_
                    refine wa_iinc (v := (nI ((ja + kk) + 1))) (j := 2) (lv' := [(6, .int (nI ((ja + kk) + 1))), (5, .int ((rcT (sU S 0 0 0) (nI jv) ja kk) + 0)), (7, .int 0), (4, .int 1), (0, .ref 2), (1, .int (nI jv)), (2, .int (nI ja)), (3, .int (nI jb))]) F dX6_recall_143 rfl ((nI_succ (ja + kk)).symm) (by decide) rfl ?_
                    refine wa_goto (tgt := 65) F dX6_recall_146 (by decide) ?_
                    have ea2 : ((rcT (sU S 0 0 0) (nI jv) ja kk) + 0) = (rcT (sU S 0 0 0) (nI jv) ja (kk + 1)) := by simp [rcT, rcF, c79, c89]
                    refine wa_lv (lv' := [(6, .int (nI (ja + (kk + 1)))), (5, .int (rcT (sU S 0 0 0) (nI jv) ja (kk + 1))), (4, .int 1), (0, .ref 2), (1, .int (nI jv)), (2, .int (nI ja)), (3, .int (nI jb))]) [0, 1, 3, 4, 5, 6, 7] (by rw [← ea2]; rfl) ?_
                    rw [show (sU (rcU (sU S 0 0 0) (nI jv) ja kk) 34 (ja + kk) ((rcU (sU S 0 0 0) (nI jv) ja kk) 34 (ja + kk))) = rcU (sU S 0 0 0) (nI jv) ja (kk + 1) from by simp [rcU, rcF, c79, c89]]
                    exact ih_kk (kk + 1) (by omega) (by omega)
                  · skip
                    refine wa_iconst (v := 1) F dX6_recall_92 (by decide) ?_
                    refine wa_goto (tgt := 97) F dX6_recall_93 (by decide) ?_
                    refine wa_istore (lv' := [(7, .int 1), (6, .int (nI (ja + kk))), (5, .int (rcT (sU S 0 0 0) (nI jv) ja kk)), (4, .int 1), (0, .ref 2), (1, .int (nI jv)), (2, .int (nI ja)), (3, .int (nI jb))]) F dX6_recall_97 (by decide) rfl ?_
                    refine wa_iload F dX6_recall_99 2 rfl ?_
                    refine wa_iload F dX6_recall_101 0 rfl ?_
                    refine wa_if_eq (tgt := 116) F dX6_recall_103 (by decide) (fun z => absurd z (by decide)) (fun _ => ?_)
                    refine wa_aload_n F dX6_recall_106 (i := 0) rfl 4 rfl ?_
                    refine wa_getf (v := .ref 130) F LY_X6 (hm_m (S := (rcU (sU S 0 0 0) (nI jv) ja kk))) 30 (by decide) fl_X6_80 rfl dX6_recall_107 ?_
                    refine wa_iload F dX6_recall_110 1 rfl ?_
                    refine wa_iald (f := (rcU (sU S 0 0 0) (nI jv) ja kk) 30) F 0 rfl (hm_30 (S := (rcU (sU S 0 0 0) (nI jv) ja kk))) (ja + kk) rfl (by omega) (by decide) dX6_recall_112 ?_
                    refine wa_goto (tgt := 117) F dX6_recall_113 (by decide) ?_
                    refine wa_iadd F dX6_recall_117 ?_
                    refine wa_istore (lv' := [(5, .int ((rcT (sU S 0 0 0) (nI jv) ja kk) + ((rcU (sU S 0 0 0) (nI jv) ja kk) 30 (ja + kk)))), (7, .int 1), (6, .int (nI (ja + kk))), (4, .int 1), (0, .ref 2), (1, .int (nI jv)), (2, .int (nI ja)), (3, .int (nI jb))]) F dX6_recall_118 (by decide) rfl ?_
                    refine wa_aload_n F dX6_recall_120 (i := 0) rfl 4 rfl ?_
                    refine wa_getf (v := .ref 134) F LY_X6 (hm_m (S := (rcU (sU S 0 0 0) (nI jv) ja kk))) 34 (by decide) fl_X6_92 rfl dX6_recall_121 ?_
                    refine wa_iload F dX6_recall_124 2 rfl ?_
                    refine wa_iload F dX6_recall_126 1 rfl ?_
                    refine wa_if_eq (tgt := 135) F dX6_recall_128 (by decide) (fun z => absurd z (by decide)) (fun _ => ?_)
                    refine wa_iconst (v := 1) F dX6_recall_131 (by decide) ?_
                    refine wa_goto (tgt := 142) F dX6_recall_132 (by decide) ?_
                    refine wa_iast F 0 rfl (hm_34 (S := (rcU (sU S 0 0 0) (nI jv) ja kk))) (ja + kk) rfl (by omega) (by decide) dX6_recall_142 (hu_34 (ja + kk) 1) ?_
                    refine wa_iinc (v := (nI ((ja + kk) + 1))) (j := 2) (lv' := [(6, .int (nI ((ja + kk) + 1))), (5, .int ((rcT (sU S 0 0 0) (nI jv) ja kk) + ((rcU (sU S 0 0 0) (nI jv) ja kk) 30 (ja + kk)))), (7, .int 1), (4, .int 1), (0, .ref 2), (1, .int (nI jv)), (2, .int (nI ja)), (3, .int (nI jb))]) F dX6_recall_143 rfl ((nI_succ (ja + kk)).symm) (by decide) rfl ?_
                    refine wa_goto (tgt := 65) F dX6_recall_146 (by decide) ?_
                    have ea3 : ((rcT (sU S 0 0 0) (nI jv) ja kk) + ((rcU (sU S 0 0 0) (nI jv) ja kk) 30 (ja + kk))) = (rcT (sU S 0 0 0) (nI jv) ja (kk + 1)) := by simp [rcT, rcF, c79, c89]
                    refine wa_lv (lv' := [(6, .int (nI (ja + (kk + 1)))), (5, .int (rcT (sU S 0 0 0) (nI jv) ja (kk + 1))), (4, .int 1), (0, .ref 2), (1, .int (nI jv)), (2, .int (nI ja)), (3, .int (nI jb))]) [0, 1, 3, 4, 5, 6, 7] (by rw [← ea3]; rfl) ?_
                    rw [show (sU (rcU (sU S 0 0 0) (nI jv) ja kk) 34 (ja + kk) 1) = rcU (sU S 0 0 0) (nI jv) ja (kk + 1) from by simp [rcU, rcF, c79, c89]]
                    exact ih_kk (kk + 1) (by omega) (by omega)
          exact loop65 ((jb + 1 - ja) + 1) 0 (Nat.zero_le _) (by omega)
        · skip
          refine wa_iconst (v := 2) F dX6_recall_46 (by decide) ?_
          refine wa_goto (tgt := 51) F dX6_recall_47 (by decide) ?_
          refine wa_callV F [] (c_X6_refused hst D TC H0 ad X S o 2) mw_X6_refused ml_X6_127 hm_m rfl rfl (Nat.le_of_ble_eq_true rfl) ⟨Nat.le_of_ble_eq_true rfl, Nat.le_of_ble_eq_true rfl⟩ ⟨Nat.le_of_ble_eq_true rfl, Nat.le_of_ble_eq_true rfl⟩ dX6_recall_51 PR_ag (fun _ z => z.elim) ?_
          rintro _ _ _ ⟨rfl, rfl, rfl⟩
          rw [show (bI (decide (¬ (2 : Int32) = 0))) = 1 from rfl]
          refine wa_if_eq (tgt := 59) F dX6_recall_54 (by decide) (fun z => absurd z (by decide)) (fun _ => ?_)
          refine wa_iconst (v := 0) F dX6_recall_57 (by decide) ?_
          refine wa_iret F rfl (Nat.le_of_ble_eq_true rfl) (Nat.le_of_ble_eq_true rfl) dX6_recall_58 ?_
          have ek : kRc S (nI jv) (nI ja) (nI jb) = 2 := by simp [kRc, c5, c13, c21, c43, ev, ea, eb]
          exact ⟨by rw [ek, mR_n (by decide)], rfl, by rw [ek, mS_n (by decide)]⟩
set_option maxHeartbeats 2000000 in
set_option maxRecDepth 20000 in
theorem c_X6_day {l : Launch} (hst : l.stackTraces = false) (D : va_G) (TC : Nat → ClassId) (H0 : Heap) (ad : Nat → Nat) (X S : St) (o : Nat → Int64)  : CC l D (tysOf TC) H0 yX6_day cX6_day 1 (some .int) 6 0 0 [.ref 2] ad (hall TC X S o) (PR ad (some (.int (S 1 0))) (hall TC X (sU S 0 0 0) o)) (fun _ => False) := by
  refine cc_intro hst (by decide +kernel) (Nat.le_of_ble_eq_true rfl) ?_
  intro p e s m args below meth c F
  rw [show lv_args 0 [.ref 2] = [(0, .ref 2)] from rfl]
  refine wa_aload_n F dX6_day_0 (i := 0) rfl 0 rfl ?_
  refine wa_iconst (v := 0) F dX6_day_1 (by decide) ?_
  refine wa_putf F LY_X6 (hm_m (S := S)) 0 (by decide) fl_X6_104 rfl rfl rfl (Nat.le_of_ble_eq_true rfl) dX6_day_2 (hs_0 0) ?_
  refine wa_aload_n F dX6_day_5 (i := 0) rfl 0 rfl ?_
  refine wa_getf (v := .int (S 1 0)) F LY_X6 (hm_m (S := (sU S 0 0 0))) 1 (by decide) fl_X6_142 rfl dX6_day_6 ?_
  refine wa_iret F rfl (Nat.le_of_ble_eq_true rfl) (Nat.le_of_ble_eq_true rfl) dX6_day_9 ?_
  exact ⟨rfl, rfl, rfl⟩
set_option maxHeartbeats 2000000 in
set_option maxRecDepth 20000 in
theorem c_X6_thrown {l : Launch} (hst : l.stackTraces = false) (D : va_G) (TC : Nat → ClassId) (H0 : Heap) (ad : Nat → Nat) (X S : St) (o : Nat → Int64)  : CC l D (tysOf TC) H0 yX6_thrown cX6_thrown 1 (some .int) 6 0 0 [.ref 2] ad (hall TC X S o) (PR ad (some (.int (S 0 0))) (hall TC X S o)) (fun _ => False) := by
  refine cc_intro hst (by decide +kernel) (Nat.le_of_ble_eq_true rfl) ?_
  intro p e s m args below meth c F
  rw [show lv_args 0 [.ref 2] = [(0, .ref 2)] from rfl]
  refine wa_aload_n F dX6_thrown_0 (i := 0) rfl 0 rfl ?_
  refine wa_getf (v := .int (S 0 0)) F LY_X6 (hm_m (S := S)) 0 (by decide) fl_X6_104 rfl dX6_thrown_1 ?_
  refine wa_iret F rfl (Nat.le_of_ble_eq_true rfl) (Nat.le_of_ble_eq_true rfl) dX6_thrown_4 ?_
  exact ⟨rfl, rfl, rfl⟩
