set_option maxHeartbeats 2000000 in
set_option maxRecDepth 20000 in
theorem c_X6_demandsOf {l : Launch} (hst : l.stackTraces = false) (D : va_G) (TC : Nat → ClassId) (H0 : Heap) (ad : Nat → Nat) (X S : St) (o : Nat → Int64) (b : Nat) (hb : b < 10) (hc : CN S 2 6) : CC l D (tysOf TC) H0 yX6_demandsOf cX6_demandsOf 4 (some .int) 2 0 0 [.ref 2, .int (nI b)] ad (hall TC X S o) (PR ad (some (.int (sDem S b))) (hall TC X S o)) (fun _ => False) := by
  refine cc_intro hst (by decide +kernel) (Nat.le_of_ble_eq_true rfl) ?_
  intro p e s m args below meth c F
  rw [show lv_args 0 [.ref 2, .int (nI b)] = [(0, .ref 2), (1, .int (nI b))] from rfl]
  have hc2 := hc.2
  refine wa_iconst (v := 0) F dX6_demandsOf_0 (by decide) ?_
  refine wa_istore_n (lv' := [(2, .int 0), (0, .ref 2), (1, .int (nI b))]) F dX6_demandsOf_1 (i := 2) rfl (by decide) rfl ?_
  refine wa_iconst (v := 0) F dX6_demandsOf_2 (by decide) ?_
  refine wa_istore_n (lv' := [(3, .int 0), (2, .int 0), (0, .ref 2), (1, .int (nI b))]) F dX6_demandsOf_3 (i := 3) rfl (by decide) rfl ?_
  have loop4 : ∀ (n k : Nat), k ≤ (cnt S 2) → (cnt S 2) - k < n → WA D H0 p l e (RM 2 0 0) s m args below meth c 4 (vx_MQ below (QC0 D H0 (PR ad (some (.int (sDem S b))) (hall TC X S o))) (XC0 D H0 (fun _ => False) ad (hall TC X S o)) args s 0 0 (hA0 H0)) ad (hall TC X S o) 0 0 4 [(3, .int (nI k)), (2, .int (orA 0 (fAsks S b) k)), (0, .ref 2), (1, .int (nI b))] [] := by
    intro n
    induction n with
    | zero => intro k h1 h2; omega
    | succ n ih_k =>
      intro k hk_k hn_k
      refine wa_iload_n F dX6_demandsOf_4 (i := 3) rfl 0 rfl ?_
      refine wa_aload_n F dX6_demandsOf_5 (i := 0) rfl 2 rfl ?_
      refine wa_getf (v := .int (S 2 0)) F LY_X6 (hm_m (S := S)) 2 (by decide) fl_X6_108 rfl dX6_demandsOf_6 ?_
      refine wa_icmp_ge (tgt := 40) F dX6_demandsOf_9 (by decide) (fun c9 => ?_) (fun c9 => ?_)
      · skip
        have he_k : k = (cnt S 2) := Nat.le_antisymm hk_k (nle_k hc.1 (by omega) (by omega) c9)
        subst he_k
        refine wa_iconst (v := 0) F dX6_demandsOf_40 (by decide) ?_
        refine wa_istore_n (lv' := [(3, .int 0), (2, .int (orA 0 (fAsks S b) (cnt S 2))), (0, .ref 2), (1, .int (nI b))]) F dX6_demandsOf_41 (i := 3) rfl (by decide) rfl ?_
        have loop42 : ∀ (n j : Nat), j ≤ 8 → 8 - j < n → WA D H0 p l e (RM 2 0 0) s m args below meth c 4 (vx_MQ below (QC0 D H0 (PR ad (some (.int (sDem S b))) (hall TC X S o))) (XC0 D H0 (fun _ => False) ad (hall TC X S o)) args s 0 0 (hA0 H0)) ad (hall TC X S o) 0 0 42 [(3, .int (nI j)), (2, .int (anA (sAsks S b) (fDem S b) j)), (0, .ref 2), (1, .int (nI b))] [] := by
          intro n
          induction n with
          | zero => intro j h1 h2; omega
          | succ n ih_j =>
            intro j hk_j hn_j
            refine wa_iload_n F dX6_demandsOf_42 (i := 3) rfl 0 rfl ?_
            refine wa_bipush (v := 8) F dX6_demandsOf_43 (by decide) ?_
            refine wa_icmp_ge (tgt := 80) F dX6_demandsOf_45 (by decide) (fun c45 => ?_) (fun c45 => ?_)
            · skip
              have he_j : j = 8 := Nat.le_antisymm hk_j (nle_k rfl (by omega) (by omega) c45)
              subst he_j
              refine wa_iload_n F dX6_demandsOf_80 (i := 2) rfl 1 rfl ?_
              refine wa_iret F rfl (Nat.le_of_ble_eq_true rfl) (Nat.le_of_ble_eq_true rfl) dX6_demandsOf_81 ?_
              exact ⟨rfl, rfl, rfl⟩
            · skip
              have hl_j : j < 8 := knle rfl (by omega) (by omega) c45
              refine wa_iload_n F dX6_demandsOf_48 (i := 2) rfl 1 rfl ?_
              refine wa_aload_n F dX6_demandsOf_49 (i := 0) rfl 2 rfl ?_
              refine wa_getf (v := .ref 116) F LY_X6 (hm_m (S := S)) 16 (by decide) fl_X6_44 rfl dX6_demandsOf_50 ?_
              refine wa_bipush (v := 8) F dX6_demandsOf_53 (by decide) ?_
              refine wa_iload_n F dX6_demandsOf_55 (i := 1) rfl 3 rfl ?_
              refine wa_imulN F dX6_demandsOf_56 (a := 8) (b := b) rfl rfl ?_
              refine wa_iload_n F dX6_demandsOf_57 (i := 3) rfl 0 rfl ?_
              refine wa_iaddN F dX6_demandsOf_58 (a := 8 * b) (b := j) rfl rfl ?_
              refine wa_iald (f := S 16) F 0 rfl (hm_16 (S := S)) ((8 * b) + j) rfl (by omega) (by decide) dX6_demandsOf_59 ?_
              refine wa_if_ne (tgt := 71) F dX6_demandsOf_60 (by decide) (fun c60 => ?_) (fun c60 => ?_)
              · skip
                refine wa_iconst (v := (-1)) F dX6_demandsOf_71 (by decide) ?_
                refine wa_iand F dX6_demandsOf_72 ?_
                refine wa_istore_n (lv' := [(2, .int ((anA (sAsks S b) (fDem S b) j) &&& (-1))), (3, .int (nI j)), (0, .ref 2), (1, .int (nI b))]) F dX6_demandsOf_73 (i := 2) rfl (by decide) rfl ?_
                refine wa_iinc (v := (nI (j + 1))) (j := 1) (lv' := [(3, .int (nI (j + 1))), (2, .int ((anA (sAsks S b) (fDem S b) j) &&& (-1))), (0, .ref 2), (1, .int (nI b))]) F dX6_demandsOf_74 rfl ((nI_succ j).symm) (by decide) rfl ?_
                refine wa_goto (tgt := 42) F dX6_demandsOf_77 (by decide) ?_
                have ea1 : ((anA (sAsks S b) (fDem S b) j) &&& (-1)) = (anA (sAsks S b) (fDem S b) (j + 1)) := by simp [anA, fDem, nbit, c60]
                refine wa_lv (lv' := [(3, .int (nI (j + 1))), (2, .int (anA (sAsks S b) (fDem S b) (j + 1))), (0, .ref 2), (1, .int (nI b))]) [0, 1, 2, 3] (by rw [← ea1]; rfl) ?_
                exact ih_j (j + 1) (by omega) (by omega)
              · skip
                refine wa_iconst (v := 1) F dX6_demandsOf_63 (by decide) ?_
                refine wa_iload_n F dX6_demandsOf_64 (i := 3) rfl 0 rfl ?_
                refine wa_ishl F dX6_demandsOf_65 ?_
                refine wa_iconst (v := (-1)) F dX6_demandsOf_66 (by decide) ?_
                refine wa_ixor F dX6_demandsOf_67 ?_
                refine wa_goto (tgt := 72) F dX6_demandsOf_68 (by decide) ?_
                refine wa_iand F dX6_demandsOf_72 ?_
                refine wa_istore_n (lv' := [(2, .int ((anA (sAsks S b) (fDem S b) j) &&& ((1 <<< ((nI j) &&& 31)) ^^^ (-1)))), (3, .int (nI j)), (0, .ref 2), (1, .int (nI b))]) F dX6_demandsOf_73 (i := 2) rfl (by decide) rfl ?_
                refine wa_iinc (v := (nI (j + 1))) (j := 1) (lv' := [(3, .int (nI (j + 1))), (2, .int ((anA (sAsks S b) (fDem S b) j) &&& ((1 <<< ((nI j) &&& 31)) ^^^ (-1)))), (0, .ref 2), (1, .int (nI b))]) F dX6_demandsOf_74 rfl ((nI_succ j).symm) (by decide) rfl ?_
                refine wa_goto (tgt := 42) F dX6_demandsOf_77 (by decide) ?_
                have ea2 : ((anA (sAsks S b) (fDem S b) j) &&& ((1 <<< ((nI j) &&& 31)) ^^^ (-1))) = (anA (sAsks S b) (fDem S b) (j + 1)) := by simp [anA, fDem, nbit, c60]
                refine wa_lv (lv' := [(3, .int (nI (j + 1))), (2, .int (anA (sAsks S b) (fDem S b) (j + 1))), (0, .ref 2), (1, .int (nI b))]) [0, 1, 2, 3] (by rw [← ea2]; rfl) ?_
                exact ih_j (j + 1) (by omega) (by omega)
        exact loop42 (8 + 1) 0 (Nat.zero_le _) (by omega)
      · skip
        have hl_k : k < (cnt S 2) := knle hc.1 (by omega) (by omega) c9
        refine wa_iload_n F dX6_demandsOf_12 (i := 2) rfl 1 rfl ?_
        refine wa_aload_n F dX6_demandsOf_13 (i := 0) rfl 2 rfl ?_
        refine wa_iload_n F dX6_demandsOf_14 (i := 3) rfl 0 rfl ?_
        refine wa_iload_n F dX6_demandsOf_15 (i := 1) rfl 3 rfl ?_
        refine wa_callV F [.int (orA 0 (fAsks S b) k)] (c_X6_doesApply hst D TC H0 ad X S o k b (by omega) (by omega) hc) mw_X6_doesApply ml_X6_155 hm_m rfl rfl (Nat.le_of_ble_eq_true rfl) ⟨Nat.le_of_ble_eq_true rfl, Nat.le_of_ble_eq_true rfl⟩ ⟨Nat.le_of_ble_eq_true rfl, Nat.le_of_ble_eq_true rfl⟩ dX6_demandsOf_16 PR_ag (fun _ z => z.elim) ?_
        rintro _ _ _ ⟨rfl, rfl, rfl⟩
        refine wa_if_eq (tgt := 31) F dX6_demandsOf_19 (by decide) (fun c19 => ?_) (fun c19 => ?_)
        · skip
          replace c19 : (sApp S k b) = false := bI_f c19
          refine wa_iconst (v := 0) F dX6_demandsOf_31 (by decide) ?_
          refine wa_ior F dX6_demandsOf_32 ?_
          refine wa_istore_n (lv' := [(2, .int ((orA 0 (fAsks S b) k) ||| 0)), (3, .int (nI k)), (0, .ref 2), (1, .int (nI b))]) F dX6_demandsOf_33 (i := 2) rfl (by decide) rfl ?_
          refine wa_iinc (v := (nI (k + 1))) (j := 1) (lv' := [(3, .int (nI (k + 1))), (2, .int ((orA 0 (fAsks S b) k) ||| 0)), (0, .ref 2), (1, .int (nI b))]) F dX6_demandsOf_34 rfl ((nI_succ k).symm) (by decide) rfl ?_
          refine wa_goto (tgt := 4) F dX6_demandsOf_37 (by decide) ?_
          have ea3 : ((orA 0 (fAsks S b) k) ||| 0) = (orA 0 (fAsks S b) (k + 1)) := by simp [orA, fAsks, c19]
          refine wa_lv (lv' := [(3, .int (nI (k + 1))), (2, .int (orA 0 (fAsks S b) (k + 1))), (0, .ref 2), (1, .int (nI b))]) [0, 1, 2, 3] (by rw [← ea3]; rfl) ?_
          exact ih_k (k + 1) (by omega) (by omega)
        · skip
          replace c19 : (sApp S k b) = true := bI_t c19
          refine wa_aload_n F dX6_demandsOf_22 (i := 0) rfl 2 rfl ?_
          refine wa_getf (v := .ref 105) F LY_X6 (hm_m (S := S)) 5 (by decide) fl_X6_16 rfl dX6_demandsOf_23 ?_
          refine wa_iload_n F dX6_demandsOf_26 (i := 3) rfl 0 rfl ?_
          refine wa_iald (f := S 5) F 0 rfl (hm_5 (S := S)) k rfl (by omega) (by decide) dX6_demandsOf_27 ?_
          refine wa_goto (tgt := 32) F dX6_demandsOf_28 (by decide) ?_
          refine wa_ior F dX6_demandsOf_32 ?_
          refine wa_istore_n (lv' := [(2, .int ((orA 0 (fAsks S b) k) ||| (S 5 k))), (3, .int (nI k)), (0, .ref 2), (1, .int (nI b))]) F dX6_demandsOf_33 (i := 2) rfl (by decide) rfl ?_
          refine wa_iinc (v := (nI (k + 1))) (j := 1) (lv' := [(3, .int (nI (k + 1))), (2, .int ((orA 0 (fAsks S b) k) ||| (S 5 k))), (0, .ref 2), (1, .int (nI b))]) F dX6_demandsOf_34 rfl ((nI_succ k).symm) (by decide) rfl ?_
          refine wa_goto (tgt := 4) F dX6_demandsOf_37 (by decide) ?_
          have ea4 : ((orA 0 (fAsks S b) k) ||| (S 5 k)) = (orA 0 (fAsks S b) (k + 1)) := by simp [orA, fAsks, c19]
          refine wa_lv (lv' := [(3, .int (nI (k + 1))), (2, .int (orA 0 (fAsks S b) (k + 1))), (0, .ref 2), (1, .int (nI b))]) [0, 1, 2, 3] (by rw [← ea4]; rfl) ?_
          exact ih_k (k + 1) (by omega) (by omega)
  exact loop4 ((cnt S 2) + 1) 0 (Nat.zero_le _) (by omega)
set_option maxHeartbeats 2000000 in
set_option maxRecDepth 20000 in
theorem c_X6_shown {l : Launch} (hst : l.stackTraces = false) (D : va_G) (TC : Nat → ClassId) (H0 : Heap) (ad : Nat → Nat) (X S : St) (o : Nat → Int64) (b : Nat) (hb : b < 10) (hs : CN S 9 12) : CC l D (tysOf TC) H0 yX6_shown cX6_shown 4 (some .int) 1 0 0 [.ref 2, .int (nI b)] ad (hall TC X S o) (PR ad (some (.int (sShown S b))) (hall TC X S o)) (fun _ => False) := by
  refine cc_intro hst (by decide +kernel) (Nat.le_of_ble_eq_true rfl) ?_
  intro p e s m args below meth c F
  rw [show lv_args 0 [.ref 2, .int (nI b)] = [(0, .ref 2), (1, .int (nI b))] from rfl]
  have hs2 := hs.2
  refine wa_aload_n F dX6_shown_0 (i := 0) rfl 0 rfl ?_
  refine wa_getf (v := .ref 119) F LY_X6 (hm_m (S := S)) 19 (by decide) fl_X6_53 rfl dX6_shown_1 ?_
  refine wa_iload_n F dX6_shown_4 (i := 1) rfl 1 rfl ?_
  refine wa_iald (f := S 19) F 0 rfl (hm_19 (S := S)) b rfl (by omega) (by decide) dX6_shown_5 ?_
  refine wa_istore_n (lv' := [(2, .int (S 19 b)), (0, .ref 2), (1, .int (nI b))]) F dX6_shown_6 (i := 2) rfl (by decide) rfl ?_
  refine wa_iconst (v := 0) F dX6_shown_7 (by decide) ?_
  refine wa_istore_n (lv' := [(3, .int 0), (2, .int (S 19 b)), (0, .ref 2), (1, .int (nI b))]) F dX6_shown_8 (i := 3) rfl (by decide) rfl ?_
  have loop9 : ∀ (n k : Nat), k ≤ (cnt S 9) → (cnt S 9) - k < n → WA D H0 p l e (RM 1 0 0) s m args below meth c 4 (vx_MQ below (QC0 D H0 (PR ad (some (.int (sShown S b))) (hall TC X S o))) (XC0 D H0 (fun _ => False) ad (hall TC X S o)) args s 0 0 (hA0 H0)) ad (hall TC X S o) 0 0 9 [(3, .int (nI k)), (2, .int (orA (S 19 b) (fShown S b) k)), (0, .ref 2), (1, .int (nI b))] [] := by
    intro n
    induction n with
    | zero => intro k h1 h2; omega
    | succ n ih_k =>
      intro k hk_k hn_k
      refine wa_iload_n F dX6_shown_9 (i := 3) rfl 0 rfl ?_
      refine wa_aload_n F dX6_shown_10 (i := 0) rfl 2 rfl ?_
      refine wa_getf (v := .int (S 9 0)) F LY_X6 (hm_m (S := S)) 9 (by decide) fl_X6_115 rfl dX6_shown_11 ?_
      refine wa_icmp_ge (tgt := 70) F dX6_shown_14 (by decide) (fun c14 => ?_) (fun c14 => ?_)
      · skip
        have he_k : k = (cnt S 9) := Nat.le_antisymm hk_k (nle_k hs.1 (by omega) (by omega) c14)
        subst he_k
        refine wa_iload_n F dX6_shown_70 (i := 2) rfl 1 rfl ?_
        refine wa_iret F rfl (Nat.le_of_ble_eq_true rfl) (Nat.le_of_ble_eq_true rfl) dX6_shown_71 ?_
        exact ⟨rfl, rfl, rfl⟩
      · skip
        have hl_k : k < (cnt S 9) := knle hs.1 (by omega) (by omega) c14
        refine wa_iload_n F dX6_shown_17 (i := 2) rfl 1 rfl ?_
        refine wa_aload_n F dX6_shown_18 (i := 0) rfl 2 rfl ?_
        refine wa_getf (v := .int (S 1 0)) F LY_X6 (hm_m (S := S)) 1 (by decide) fl_X6_142 rfl dX6_shown_19 ?_
        refine wa_aload_n F dX6_shown_22 (i := 0) rfl 2 rfl ?_
        refine wa_getf (v := .ref 111) F LY_X6 (hm_m (S := S)) 11 (by decide) fl_X6_32 rfl dX6_shown_23 ?_
        refine wa_iload_n F dX6_shown_26 (i := 3) rfl 0 rfl ?_
        refine wa_iald (f := S 11) F 0 rfl (hm_11 (S := S)) k rfl (by omega) (by decide) dX6_shown_27 ?_
        refine wa_aload_n F dX6_shown_28 (i := 0) rfl 2 rfl ?_
        refine wa_getf (v := .ref 112) F LY_X6 (hm_m (S := S)) 12 (by decide) fl_X6_35 rfl dX6_shown_29 ?_
        refine wa_iload_n F dX6_shown_32 (i := 3) rfl 0 rfl ?_
        refine wa_iald (f := S 12) F 0 rfl (hm_12 (S := S)) k rfl (by omega) (by decide) dX6_shown_33 ?_
        refine wa_callS F [.int (orA (S 19 b) (fShown S b) k)] (c_X6_in hst D (tysOf TC) H0 ad (hall TC X S o) (S 1 0) (S 11 k) (S 12 k)) mw_X6_in ml_X6_111 rfl (Nat.le_of_ble_eq_true rfl) ⟨Nat.le_of_ble_eq_true rfl, Nat.le_of_ble_eq_true rfl⟩ ⟨Nat.le_of_ble_eq_true rfl, Nat.le_of_ble_eq_true rfl⟩ dX6_shown_34 PR_ag (fun _ z => z.elim) ?_
        rintro _ _ _ ⟨rfl, rfl, rfl⟩
        refine wa_if_eq (tgt := 61) F dX6_shown_37 (by decide) (fun c37 => ?_) (fun c37 => ?_)
        · skip
          replace c37 : (sIn (S 1 0) (S 11 k) (S 12 k)) = false := bI_f c37
          refine wa_iconst (v := 0) F dX6_shown_61 (by decide) ?_
          refine wa_ior F dX6_shown_62 ?_
          refine wa_istore_n (lv' := [(2, .int ((orA (S 19 b) (fShown S b) k) ||| 0)), (3, .int (nI k)), (0, .ref 2), (1, .int (nI b))]) F dX6_shown_63 (i := 2) rfl (by decide) rfl ?_
          refine wa_iinc (v := (nI (k + 1))) (j := 1) (lv' := [(3, .int (nI (k + 1))), (2, .int ((orA (S 19 b) (fShown S b) k) ||| 0)), (0, .ref 2), (1, .int (nI b))]) F dX6_shown_64 rfl ((nI_succ k).symm) (by decide) rfl ?_
          refine wa_goto (tgt := 9) F dX6_shown_67 (by decide) ?_
          have ea1 : ((orA (S 19 b) (fShown S b) k) ||| 0) = (orA (S 19 b) (fShown S b) (k + 1)) := by simp [orA, fShown, c37]
          refine wa_lv (lv' := [(3, .int (nI (k + 1))), (2, .int (orA (S 19 b) (fShown S b) (k + 1))), (0, .ref 2), (1, .int (nI b))]) [0, 1, 2, 3] (by rw [← ea1]; rfl) ?_
          exact ih_k (k + 1) (by omega) (by omega)
        · skip
          replace c37 : (sIn (S 1 0) (S 11 k) (S 12 k)) = true := bI_t c37
          refine wa_aload_n F dX6_shown_40 (i := 0) rfl 2 rfl ?_
          refine wa_getf (v := .ref 118) F LY_X6 (hm_m (S := S)) 18 (by decide) fl_X6_50 rfl dX6_shown_41 ?_
          refine wa_bipush (v := 12) F dX6_shown_44 (by decide) ?_
          refine wa_iload_n F dX6_shown_46 (i := 1) rfl 3 rfl ?_
          refine wa_imulN F dX6_shown_47 (a := 12) (b := b) rfl rfl ?_
          refine wa_iload_n F dX6_shown_48 (i := 3) rfl 0 rfl ?_
          refine wa_iaddN F dX6_shown_49 (a := 12 * b) (b := k) rfl rfl ?_
          refine wa_iald (f := S 18) F 0 rfl (hm_18 (S := S)) ((12 * b) + k) rfl (by omega) (by decide) dX6_shown_50 ?_
          refine wa_aload_n F dX6_shown_51 (i := 0) rfl 2 rfl ?_
          refine wa_getf (v := .ref 110) F LY_X6 (hm_m (S := S)) 10 (by decide) fl_X6_29 rfl dX6_shown_52 ?_
          refine wa_iload_n F dX6_shown_55 (i := 3) rfl 0 rfl ?_
          refine wa_iald (f := S 10) F 0 rfl (hm_10 (S := S)) k rfl (by omega) (by decide) dX6_shown_56 ?_
          refine wa_iand F dX6_shown_57 ?_
          refine wa_goto (tgt := 62) F dX6_shown_58 (by decide) ?_
          refine wa_ior F dX6_shown_62 ?_
          refine wa_istore_n (lv' := [(2, .int ((orA (S 19 b) (fShown S b) k) ||| ((S 18 ((12 * b) + k)) &&& (S 10 k)))), (3, .int (nI k)), (0, .ref 2), (1, .int (nI b))]) F dX6_shown_63 (i := 2) rfl (by decide) rfl ?_
          refine wa_iinc (v := (nI (k + 1))) (j := 1) (lv' := [(3, .int (nI (k + 1))), (2, .int ((orA (S 19 b) (fShown S b) k) ||| ((S 18 ((12 * b) + k)) &&& (S 10 k)))), (0, .ref 2), (1, .int (nI b))]) F dX6_shown_64 rfl ((nI_succ k).symm) (by decide) rfl ?_
          refine wa_goto (tgt := 9) F dX6_shown_67 (by decide) ?_
          have ea2 : ((orA (S 19 b) (fShown S b) k) ||| ((S 18 ((12 * b) + k)) &&& (S 10 k))) = (orA (S 19 b) (fShown S b) (k + 1)) := by simp [orA, fShown, c37]
          refine wa_lv (lv' := [(3, .int (nI (k + 1))), (2, .int (orA (S 19 b) (fShown S b) (k + 1))), (0, .ref 2), (1, .int (nI b))]) [0, 1, 2, 3] (by rw [← ea2]; rfl) ?_
          exact ih_k (k + 1) (by omega) (by omega)
  exact loop9 ((cnt S 9) + 1) 0 (Nat.zero_le _) (by omega)
set_option maxHeartbeats 2000000 in
set_option maxRecDepth 20000 in
theorem c_X6_lowOf {l : Launch} (hst : l.stackTraces = false) (D : va_G) (TC : Nat → ClassId) (H0 : Heap) (ad : Nat → Nat) (X S : St) (o : Nat → Int64) (b : Nat) (hb : b < 10) (hc : CN S 2 6) : CC l D (tysOf TC) H0 yX6_lowOf cX6_lowOf 4 (some .int) 3 0 0 [.ref 2, .int (nI b)] ad (hall TC X S o) (PR ad (some (.int (sLow S b))) (hall TC X S o)) (fun _ => False) := by
  refine cc_intro hst (by decide +kernel) (Nat.le_of_ble_eq_true rfl) ?_
  intro p e s m args below meth c F
  rw [show lv_args 0 [.ref 2, .int (nI b)] = [(0, .ref 2), (1, .int (nI b))] from rfl]
  refine wa_aload_n F dX6_lowOf_0 (i := 0) rfl 0 rfl ?_
  refine wa_iload_n F dX6_lowOf_1 (i := 1) rfl 1 rfl ?_
  refine wa_callV F [] (c_X6_demandsOf hst D TC H0 ad X S o b (by omega) hc) mw_X6_demandsOf ml_X6_158 hm_m rfl rfl (Nat.le_of_ble_eq_true rfl) ⟨Nat.le_of_ble_eq_true rfl, Nat.le_of_ble_eq_true rfl⟩ ⟨Nat.le_of_ble_eq_true rfl, Nat.le_of_ble_eq_true rfl⟩ dX6_lowOf_2 PR_ag (fun _ z => z.elim) ?_
  rintro _ _ _ ⟨rfl, rfl, rfl⟩
  refine wa_istore_n (lv' := [(2, .int (sDem S b)), (0, .ref 2), (1, .int (nI b))]) F dX6_lowOf_5 (i := 2) rfl (by decide) rfl ?_
  refine wa_iconst (v := 0) F dX6_lowOf_6 (by decide) ?_
  refine wa_istore_n (lv' := [(3, .int 0), (2, .int (sDem S b)), (0, .ref 2), (1, .int (nI b))]) F dX6_lowOf_7 (i := 3) rfl (by decide) rfl ?_
  have loop8 : ∀ (n k : Nat), k ≤ 8 → 8 - k < n → WA D H0 p l e (RM 3 0 0) s m args below meth c 4 (vx_MQ below (QC0 D H0 (PR ad (some (.int (sLow S b))) (hall TC X S o))) (XC0 D H0 (fun _ => False) ad (hall TC X S o)) args s 0 0 (hA0 H0)) ad (hall TC X S o) 0 0 8 [(3, .int (nI k)), (2, .int (anA (sDem S b) (fLow S b) k)), (0, .ref 2), (1, .int (nI b))] [] := by
    intro n
    induction n with
    | zero => intro k h1 h2; omega
    | succ n ih_k =>
      intro k hk_k hn_k
      refine wa_iload_n F dX6_lowOf_8 (i := 3) rfl 0 rfl ?_
      refine wa_bipush (v := 8) F dX6_lowOf_9 (by decide) ?_
      refine wa_icmp_ge (tgt := 47) F dX6_lowOf_11 (by decide) (fun c11 => ?_) (fun c11 => ?_)
      · skip
        have he_k : k = 8 := Nat.le_antisymm hk_k (nle_k rfl (by omega) (by omega) c11)
        subst he_k
        refine wa_iload_n F dX6_lowOf_47 (i := 2) rfl 1 rfl ?_
        refine wa_iret F rfl (Nat.le_of_ble_eq_true rfl) (Nat.le_of_ble_eq_true rfl) dX6_lowOf_48 ?_
        exact ⟨rfl, rfl, rfl⟩
      · skip
        have hl_k : k < 8 := knle rfl (by omega) (by omega) c11
        refine wa_iload_n F dX6_lowOf_14 (i := 2) rfl 1 rfl ?_
        refine wa_aload_n F dX6_lowOf_15 (i := 0) rfl 2 rfl ?_
        refine wa_getf (v := .ref 117) F LY_X6 (hm_m (S := S)) 17 (by decide) fl_X6_47 rfl dX6_lowOf_16 ?_
        refine wa_bipush (v := 8) F dX6_lowOf_19 (by decide) ?_
        refine wa_iload_n F dX6_lowOf_21 (i := 1) rfl 3 rfl ?_
        refine wa_imulN F dX6_lowOf_22 (a := 8) (b := b) rfl rfl ?_
        refine wa_iload_n F dX6_lowOf_23 (i := 3) rfl 0 rfl ?_
        refine wa_iaddN F dX6_lowOf_24 (a := 8 * b) (b := k) rfl rfl ?_
        refine wa_iald (f := S 17) F 0 rfl (hm_17 (S := S)) ((8 * b) + k) rfl (by omega) (by decide) dX6_lowOf_25 ?_
        refine wa_iconst (v := 4) F dX6_lowOf_26 (by decide) ?_
        refine wa_icmp_le (tgt := 38) F dX6_lowOf_27 (by decide) (fun c27 => ?_) (fun c27 => ?_)
        · skip
          refine wa_iconst (v := (-1)) F dX6_lowOf_38 (by decide) ?_
          refine wa_iand F dX6_lowOf_39 ?_
          refine wa_istore_n (lv' := [(2, .int ((anA (sDem S b) (fLow S b) k) &&& (-1))), (3, .int (nI k)), (0, .ref 2), (1, .int (nI b))]) F dX6_lowOf_40 (i := 2) rfl (by decide) rfl ?_
          refine wa_iinc (v := (nI (k + 1))) (j := 1) (lv' := [(3, .int (nI (k + 1))), (2, .int ((anA (sDem S b) (fLow S b) k) &&& (-1))), (0, .ref 2), (1, .int (nI b))]) F dX6_lowOf_41 rfl ((nI_succ k).symm) (by decide) rfl ?_
          refine wa_goto (tgt := 8) F dX6_lowOf_44 (by decide) ?_
          have ea1 : ((anA (sDem S b) (fLow S b) k) &&& (-1)) = (anA (sDem S b) (fLow S b) (k + 1)) := by simp [anA, fLow, nbit, c27]
          refine wa_lv (lv' := [(3, .int (nI (k + 1))), (2, .int (anA (sDem S b) (fLow S b) (k + 1))), (0, .ref 2), (1, .int (nI b))]) [0, 1, 2, 3] (by rw [← ea1]; rfl) ?_
          exact ih_k (k + 1) (by omega) (by omega)
        · skip
          refine wa_iconst (v := 1) F dX6_lowOf_30 (by decide) ?_
          refine wa_iload_n F dX6_lowOf_31 (i := 3) rfl 0 rfl ?_
          refine wa_ishl F dX6_lowOf_32 ?_
          refine wa_iconst (v := (-1)) F dX6_lowOf_33 (by decide) ?_
          refine wa_ixor F dX6_lowOf_34 ?_
          refine wa_goto (tgt := 39) F dX6_lowOf_35 (by decide) ?_
          refine wa_iand F dX6_lowOf_39 ?_
          refine wa_istore_n (lv' := [(2, .int ((anA (sDem S b) (fLow S b) k) &&& ((1 <<< ((nI k) &&& 31)) ^^^ (-1)))), (3, .int (nI k)), (0, .ref 2), (1, .int (nI b))]) F dX6_lowOf_40 (i := 2) rfl (by decide) rfl ?_
          refine wa_iinc (v := (nI (k + 1))) (j := 1) (lv' := [(3, .int (nI (k + 1))), (2, .int ((anA (sDem S b) (fLow S b) k) &&& ((1 <<< ((nI k) &&& 31)) ^^^ (-1)))), (0, .ref 2), (1, .int (nI b))]) F dX6_lowOf_41 rfl ((nI_succ k).symm) (by decide) rfl ?_
          refine wa_goto (tgt := 8) F dX6_lowOf_44 (by decide) ?_
          have ea2 : ((anA (sDem S b) (fLow S b) k) &&& ((1 <<< ((nI k) &&& 31)) ^^^ (-1))) = (anA (sDem S b) (fLow S b) (k + 1)) := by simp [anA, fLow, nbit, c27]
          refine wa_lv (lv' := [(3, .int (nI (k + 1))), (2, .int (anA (sDem S b) (fLow S b) (k + 1))), (0, .ref 2), (1, .int (nI b))]) [0, 1, 2, 3] (by rw [← ea2]; rfl) ?_
          exact ih_k (k + 1) (by omega) (by omega)
  exact loop8 (8 + 1) 0 (Nat.zero_le _) (by omega)
set_option maxHeartbeats 2000000 in
set_option maxRecDepth 20000 in
theorem c_X6_keptOf {l : Launch} (hst : l.stackTraces = false) (D : va_G) (TC : Nat → ClassId) (H0 : Heap) (ad : Nat → Nat) (X S : St) (o : Nat → Int64) (b : Nat) (hb : b < 10) (hc : CN S 2 6) (hs : CN S 9 12) : CC l D (tysOf TC) H0 yX6_keptOf cX6_keptOf 2 (some .int) 4 0 0 [.ref 2, .int (nI b)] ad (hall TC X S o) (PR ad (some (.int (sKept S b))) (hall TC X S o)) (fun _ => False) := by
  refine cc_intro hst (by decide +kernel) (Nat.le_of_ble_eq_true rfl) ?_
  intro p e s m args below meth c F
  rw [show lv_args 0 [.ref 2, .int (nI b)] = [(0, .ref 2), (1, .int (nI b))] from rfl]
  refine wa_aload_n F dX6_keptOf_0 (i := 0) rfl 0 rfl ?_
  refine wa_iload_n F dX6_keptOf_1 (i := 1) rfl 1 rfl ?_
  refine wa_callV F [] (c_X6_lowOf hst D TC H0 ad X S o b (by omega) hc) mw_X6_lowOf ml_X6_162 hm_m rfl rfl (Nat.le_of_ble_eq_true rfl) ⟨Nat.le_of_ble_eq_true rfl, Nat.le_of_ble_eq_true rfl⟩ ⟨Nat.le_of_ble_eq_true rfl, Nat.le_of_ble_eq_true rfl⟩ dX6_keptOf_2 PR_ag (fun _ z => z.elim) ?_
  rintro _ _ _ ⟨rfl, rfl, rfl⟩
  refine wa_aload_n F dX6_keptOf_5 (i := 0) rfl 0 rfl ?_
  refine wa_iload_n F dX6_keptOf_6 (i := 1) rfl 1 rfl ?_
  refine wa_callV F [.int (sLow S b)] (c_X6_shown hst D TC H0 ad X S o b (by omega) hs) mw_X6_shown ml_X6_165 hm_m rfl rfl (Nat.le_of_ble_eq_true rfl) ⟨Nat.le_of_ble_eq_true rfl, Nat.le_of_ble_eq_true rfl⟩ ⟨Nat.le_of_ble_eq_true rfl, Nat.le_of_ble_eq_true rfl⟩ dX6_keptOf_7 PR_ag (fun _ z => z.elim) ?_
  rintro _ _ _ ⟨rfl, rfl, rfl⟩
  refine wa_iand F dX6_keptOf_10 ?_
  refine wa_iret F rfl (Nat.le_of_ble_eq_true rfl) (Nat.le_of_ble_eq_true rfl) dX6_keptOf_11 ?_
  exact ⟨rfl, rfl, rfl⟩
set_option maxHeartbeats 2000000 in
set_option maxRecDepth 20000 in
theorem c_X6_wayOf {l : Launch} (hst : l.stackTraces = false) (D : va_G) (TC : Nat → ClassId) (H0 : Heap) (ad : Nat → Nat) (X S : St) (o : Nat → Int64) (b : Nat) (hb : b < 10) (hc : CN S 2 6) : CC l D (tysOf TC) H0 yX6_wayOf cX6_wayOf 6 (some .int) 3 0 0 [.ref 2, .int (nI b)] ad (hall TC X S o) (PR ad (some (.int (sWay S b))) (hall TC X S o)) (fun _ => False) := by
  refine cc_intro hst (by decide +kernel) (Nat.le_of_ble_eq_true rfl) ?_
  intro p e s m args below meth c F
  rw [show lv_args 0 [.ref 2, .int (nI b)] = [(0, .ref 2), (1, .int (nI b))] from rfl]
  refine wa_aload_n F dX6_wayOf_0 (i := 0) rfl 0 rfl ?_
  refine wa_iload_n F dX6_wayOf_1 (i := 1) rfl 1 rfl ?_
  refine wa_callV F [] (c_X6_demandsOf hst D TC H0 ad X S o b (by omega) hc) mw_X6_demandsOf ml_X6_158 hm_m rfl rfl (Nat.le_of_ble_eq_true rfl) ⟨Nat.le_of_ble_eq_true rfl, Nat.le_of_ble_eq_true rfl⟩ ⟨Nat.le_of_ble_eq_true rfl, Nat.le_of_ble_eq_true rfl⟩ dX6_wayOf_2 PR_ag (fun _ z => z.elim) ?_
  rintro _ _ _ ⟨rfl, rfl, rfl⟩
  refine wa_istore_n (lv' := [(2, .int (sDem S b)), (0, .ref 2), (1, .int (nI b))]) F dX6_wayOf_5 (i := 2) rfl (by decide) rfl ?_
  refine wa_iconst (v := 0) F dX6_wayOf_6 (by decide) ?_
  refine wa_istore_n (lv' := [(3, .int 0), (2, .int (sDem S b)), (0, .ref 2), (1, .int (nI b))]) F dX6_wayOf_7 (i := 3) rfl (by decide) rfl ?_
  refine wa_iconst (v := 0) F dX6_wayOf_8 (by decide) ?_
  refine wa_istore (lv' := [(4, .int 0), (3, .int 0), (2, .int (sDem S b)), (0, .ref 2), (1, .int (nI b))]) F dX6_wayOf_9 (by decide) rfl ?_
  have loop11 : ∀ (n k : Nat), k ≤ 8 → 8 - k < n → WA D H0 p l e (RM 3 0 0) s m args below meth c 6 (vx_MQ below (QC0 D H0 (PR ad (some (.int (sWay S b))) (hall TC X S o))) (XC0 D H0 (fun _ => False) ad (hall TC X S o)) args s 0 0 (hA0 H0)) ad (hall TC X S o) 0 0 11 [(4, .int (nI k)), (3, .int (sMost S b k)), (2, .int (sDem S b)), (0, .ref 2), (1, .int (nI b))] [] := by
    intro n
    induction n with
    | zero => intro k h1 h2; omega
    | succ n ih_k =>
      intro k hk_k hn_k
      refine wa_iload F dX6_wayOf_11 0 rfl ?_
      refine wa_bipush (v := 8) F dX6_wayOf_13 (by decide) ?_
      refine wa_icmp_ge (tgt := 65) F dX6_wayOf_15 (by decide) (fun c15 => ?_) (fun c15 => ?_)
      · skip
        have he_k : k = 8 := Nat.le_antisymm hk_k (nle_k rfl (by omega) (by omega) c15)
        subst he_k
        refine wa_iload_n F dX6_wayOf_65 (i := 3) rfl 1 rfl ?_
        refine wa_bipush (v := 6) F dX6_wayOf_66 (by decide) ?_
        refine wa_icmp_le (tgt := 75) F dX6_wayOf_68 (by decide) (fun c68 => ?_) (fun c68 => ?_)
        · skip
          refine wa_iload_n F dX6_wayOf_75 (i := 3) rfl 1 rfl ?_
          refine wa_iconst (v := 3) F dX6_wayOf_76 (by decide) ?_
          refine wa_icmp_le (tgt := 84) F dX6_wayOf_77 (by decide) (fun c77 => ?_) (fun c77 => ?_)
          · skip
            refine wa_iconst (v := 0) F dX6_wayOf_84 (by decide) ?_
            refine wa_iret F rfl (Nat.le_of_ble_eq_true rfl) (Nat.le_of_ble_eq_true rfl) dX6_wayOf_85 ?_
            exact ⟨congrArg (fun z => some (Value.int z)) (by simp [sWay, c68, c77]), rfl, rfl⟩
          · skip
            refine wa_iconst (v := 1) F dX6_wayOf_80 (by decide) ?_
            refine wa_goto (tgt := 85) F dX6_wayOf_81 (by decide) ?_
            refine wa_iret F rfl (Nat.le_of_ble_eq_true rfl) (Nat.le_of_ble_eq_true rfl) dX6_wayOf_85 ?_
            exact ⟨congrArg (fun z => some (Value.int z)) (by simp [sWay, c68, c77]), rfl, rfl⟩
        · skip
          refine wa_iconst (v := 2) F dX6_wayOf_71 (by decide) ?_
          refine wa_goto (tgt := 85) F dX6_wayOf_72 (by decide) ?_
          refine wa_iret F rfl (Nat.le_of_ble_eq_true rfl) (Nat.le_of_ble_eq_true rfl) dX6_wayOf_85 ?_
          exact ⟨congrArg (fun z => some (Value.int z)) (by simp [sWay, c68]), rfl, rfl⟩
      · skip
        have hl_k : k < 8 := knle rfl (by omega) (by omega) c15
        refine wa_iload_n F dX6_wayOf_18 (i := 2) rfl 2 rfl ?_
        refine wa_iload F dX6_wayOf_19 0 rfl ?_
        refine wa_ishr F dX6_wayOf_21 ?_
        refine wa_iconst (v := 1) F dX6_wayOf_22 (by decide) ?_
        refine wa_iand F dX6_wayOf_23 ?_
        refine wa_iconst (v := 1) F dX6_wayOf_24 (by decide) ?_
        refine wa_icmp_ne (tgt := 43) F dX6_wayOf_25 (by decide) (fun c25 => ?_) (fun c25 => ?_)
        · skip
          refine wa_iconst (v := 0) F dX6_wayOf_43 (by decide) ?_
          refine wa_istore (lv' := [(5, .int 0), (4, .int (nI k)), (3, .int (sMost S b k)), (2, .int (sDem S b)), (0, .ref 2), (1, .int (nI b))]) F dX6_wayOf_44 (by decide) rfl ?_
          refine wa_iload F dX6_wayOf_46 0 rfl ?_
          refine wa_iload_n F dX6_wayOf_48 (i := 3) rfl 2 rfl ?_
          refine wa_icmp_le (tgt := 57) F dX6_wayOf_49 (by decide) (fun c49 => ?_) (fun c49 => ?_)
          · skip
            refine wa_iload_n F dX6_wayOf_57 (i := 3) rfl 2 rfl ?_
            refine wa_istore_n (lv' := [(3, .int (sMost S b k)), (5, .int 0), (4, .int (nI k)), (2, .int (sDem S b)), (0, .ref 2), (1, .int (nI b))]) F dX6_wayOf_58 (i := 3) rfl (by decide) rfl ?_
            refine wa_iinc (v := (nI (k + 1))) (j := 2) (lv' := [(4, .int (nI (k + 1))), (3, .int (sMost S b k)), (5, .int 0), (2, .int (sDem S b)), (0, .ref 2), (1, .int (nI b))]) F dX6_wayOf_59 rfl ((nI_succ k).symm) (by decide) rfl ?_
            refine wa_goto (tgt := 11) F dX6_wayOf_62 (by decide) ?_
            have ea1 : (sMost S b k) = (sMost S b (k + 1)) := by simp [sMost, sRisk, c25, c49]
            refine wa_lv (lv' := [(4, .int (nI (k + 1))), (3, .int (sMost S b (k + 1))), (2, .int (sDem S b)), (0, .ref 2), (1, .int (nI b))]) [0, 1, 3, 4, 5] (by rw [← ea1]; rfl) ?_
            exact ih_k (k + 1) (by omega) (by omega)
          · skip
            refine wa_iload F dX6_wayOf_52 0 rfl ?_
            refine wa_goto (tgt := 58) F dX6_wayOf_54 (by decide) ?_
            refine wa_istore_n (lv' := [(3, .int 0), (5, .int 0), (4, .int (nI k)), (2, .int (sDem S b)), (0, .ref 2), (1, .int (nI b))]) F dX6_wayOf_58 (i := 3) rfl (by decide) rfl ?_
            refine wa_iinc (v := (nI (k + 1))) (j := 2) (lv' := [(4, .int (nI (k + 1))), (3, .int 0), (5, .int 0), (2, .int (sDem S b)), (0, .ref 2), (1, .int (nI b))]) F dX6_wayOf_59 rfl ((nI_succ k).symm) (by decide) rfl ?_
            refine wa_goto (tgt := 11) F dX6_wayOf_62 (by decide) ?_
            have ea2 : 0 = (sMost S b (k + 1)) := by simp [sMost, sRisk, c25, c49]
            refine wa_lv (lv' := [(4, .int (nI (k + 1))), (3, .int (sMost S b (k + 1))), (2, .int (sDem S b)), (0, .ref 2), (1, .int (nI b))]) [0, 1, 3, 4, 5] (by rw [← ea2]; rfl) ?_
            exact ih_k (k + 1) (by omega) (by omega)
        · skip
          refine wa_aload_n F dX6_wayOf_28 (i := 0) rfl 3 rfl ?_
          refine wa_getf (v := .ref 116) F LY_X6 (hm_m (S := S)) 16 (by decide) fl_X6_44 rfl dX6_wayOf_29 ?_
          refine wa_bipush (v := 8) F dX6_wayOf_32 (by decide) ?_
          refine wa_iload_n F dX6_wayOf_34 (i := 1) rfl 4 rfl ?_
          refine wa_imulN F dX6_wayOf_35 (a := 8) (b := b) rfl rfl ?_
          refine wa_iload F dX6_wayOf_36 0 rfl ?_
          refine wa_iaddN F dX6_wayOf_38 (a := 8 * b) (b := k) rfl rfl ?_
          refine wa_iald (f := S 16) F 0 rfl (hm_16 (S := S)) ((8 * b) + k) rfl (by omega) (by decide) dX6_wayOf_39 ?_
          refine wa_goto (tgt := 44) F dX6_wayOf_40 (by decide) ?_
          refine wa_istore (lv' := [(5, .int (S 16 ((8 * b) + k))), (4, .int (nI k)), (3, .int (sMost S b k)), (2, .int (sDem S b)), (0, .ref 2), (1, .int (nI b))]) F dX6_wayOf_44 (by decide) rfl ?_
          refine wa_iload F dX6_wayOf_46 0 rfl ?_
          refine wa_iload_n F dX6_wayOf_48 (i := 3) rfl 2 rfl ?_
          refine wa_icmp_le (tgt := 57) F dX6_wayOf_49 (by decide) (fun c49 => ?_) (fun c49 => ?_)
          · skip
            refine wa_iload_n F dX6_wayOf_57 (i := 3) rfl 2 rfl ?_
            refine wa_istore_n (lv' := [(3, .int (sMost S b k)), (5, .int (S 16 ((8 * b) + k))), (4, .int (nI k)), (2, .int (sDem S b)), (0, .ref 2), (1, .int (nI b))]) F dX6_wayOf_58 (i := 3) rfl (by decide) rfl ?_
            refine wa_iinc (v := (nI (k + 1))) (j := 2) (lv' := [(4, .int (nI (k + 1))), (3, .int (sMost S b k)), (5, .int (S 16 ((8 * b) + k))), (2, .int (sDem S b)), (0, .ref 2), (1, .int (nI b))]) F dX6_wayOf_59 rfl ((nI_succ k).symm) (by decide) rfl ?_
            refine wa_goto (tgt := 11) F dX6_wayOf_62 (by decide) ?_
            have ea3 : (sMost S b k) = (sMost S b (k + 1)) := by simp [sMost, sRisk, c25, c49]
            refine wa_lv (lv' := [(4, .int (nI (k + 1))), (3, .int (sMost S b (k + 1))), (2, .int (sDem S b)), (0, .ref 2), (1, .int (nI b))]) [0, 1, 3, 4, 5] (by rw [← ea3]; rfl) ?_
            exact ih_k (k + 1) (by omega) (by omega)
          · skip
            refine wa_iload F dX6_wayOf_52 0 rfl ?_
            refine wa_goto (tgt := 58) F dX6_wayOf_54 (by decide) ?_
            refine wa_istore_n (lv' := [(3, .int (S 16 ((8 * b) + k))), (5, .int (S 16 ((8 * b) + k))), (4, .int (nI k)), (2, .int (sDem S b)), (0, .ref 2), (1, .int (nI b))]) F dX6_wayOf_58 (i := 3) rfl (by decide) rfl ?_
            refine wa_iinc (v := (nI (k + 1))) (j := 2) (lv' := [(4, .int (nI (k + 1))), (3, .int (S 16 ((8 * b) + k))), (5, .int (S 16 ((8 * b) + k))), (2, .int (sDem S b)), (0, .ref 2), (1, .int (nI b))]) F dX6_wayOf_59 rfl ((nI_succ k).symm) (by decide) rfl ?_
            refine wa_goto (tgt := 11) F dX6_wayOf_62 (by decide) ?_
            have ea4 : (S 16 ((8 * b) + k)) = (sMost S b (k + 1)) := by simp [sMost, sRisk, c25, c49]
            refine wa_lv (lv' := [(4, .int (nI (k + 1))), (3, .int (sMost S b (k + 1))), (2, .int (sDem S b)), (0, .ref 2), (1, .int (nI b))]) [0, 1, 3, 4, 5] (by rw [← ea4]; rfl) ?_
            exact ih_k (k + 1) (by omega) (by omega)
  exact loop11 (8 + 1) 0 (Nat.zero_le _) (by omega)
set_option maxHeartbeats 2000000 in
set_option maxRecDepth 20000 in
theorem c_X6_hasScope {l : Launch} (hst : l.stackTraces = false) (D : va_G) (TC : Nat → ClassId) (H0 : Heap) (ad : Nat → Nat) (X S : St) (o : Nat → Int64) (v : Int32) (a b : Nat) (hv : v = nI a) (ha : a < 5) (hb : b < 10) (hc : CN S 2 6) : CC l D (tysOf TC) H0 yX6_hasScope cX6_hasScope 3 (some .boolean) 3 0 0 [.ref 2, .int v, .int (nI b)] ad (hall TC X S o) (PR ad (some (.int (bI (sScope S a b)))) (hall TC X S o)) (fun _ => False) := by
  refine cc_intro hst (by decide +kernel) (Nat.le_of_ble_eq_true rfl) ?_
  intro p e s m args below meth c F
  rw [show lv_args 0 [.ref 2, .int v, .int (nI b)] = [(0, .ref 2), (1, .int v), (2, .int (nI b))] from rfl]
  refine wa_aload_n F dX6_hasScope_0 (i := 0) rfl 0 rfl ?_
  refine wa_iload_n F dX6_hasScope_1 (i := 2) rfl 2 rfl ?_
  refine wa_callV F [] (c_X6_applying hst D TC H0 ad X S o b (by omega) hc) mw_X6_applying ml_X6_168 hm_m rfl rfl (Nat.le_of_ble_eq_true rfl) ⟨Nat.le_of_ble_eq_true rfl, Nat.le_of_ble_eq_true rfl⟩ ⟨Nat.le_of_ble_eq_true rfl, Nat.le_of_ble_eq_true rfl⟩ dX6_hasScope_2 PR_ag (fun _ z => z.elim) ?_
  rintro _ _ _ ⟨rfl, rfl, rfl⟩
  refine wa_aload_n F dX6_hasScope_5 (i := 0) rfl 0 rfl ?_
  refine wa_getf (v := .ref 126) F LY_X6 (hm_m (S := S)) 26 (by decide) fl_X6_71 rfl dX6_hasScope_6 ?_
  refine wa_iload_n F dX6_hasScope_9 (i := 1) rfl 1 rfl ?_
  refine wa_iald (f := S 26) F 0 rfl (hm_26 (S := S)) a hv (by omega) (by decide) dX6_hasScope_10 ?_
  refine wa_iconst (v := (-1)) F dX6_hasScope_11 (by decide) ?_
  refine wa_ixor F dX6_hasScope_12 ?_
  refine wa_iand F dX6_hasScope_13 ?_
  refine wa_if_ne (tgt := 21) F dX6_hasScope_14 (by decide) (fun c14 => ?_) (fun c14 => ?_)
  · skip
    refine wa_iconst (v := 0) F dX6_hasScope_21 (by decide) ?_
    refine wa_iret F rfl (Nat.le_of_ble_eq_true rfl) (Nat.le_of_ble_eq_true rfl) dX6_hasScope_22 ?_
    exact ⟨congrArg (fun z => some (Value.int z)) (by unfold sScope; rw [decide_eq_false c14]; rfl), rfl, rfl⟩
  · skip
    refine wa_iconst (v := 1) F dX6_hasScope_17 (by decide) ?_
    refine wa_goto (tgt := 22) F dX6_hasScope_18 (by decide) ?_
    refine wa_iret F rfl (Nat.le_of_ble_eq_true rfl) (Nat.le_of_ble_eq_true rfl) dX6_hasScope_22 ?_
    exact ⟨congrArg (fun z => some (Value.int z)) (by unfold sScope; rw [decide_eq_true c14]; rfl), rfl, rfl⟩
set_option maxHeartbeats 2000000 in
set_option maxRecDepth 20000 in
theorem c_X6_holds {l : Launch} (hst : l.stackTraces = false) (D : va_G) (TC : Nat → ClassId) (H0 : Heap) (ad : Nat → Nat) (X S : St) (o : Nat → Int64) (b : Nat) (hb : b < 10) (hc : CN S 2 6) (hd : cnt S 25 ≤ 5) (hbo : BO S b) : CC l D (tysOf TC) H0 yX6_holds cX6_holds 3 (some .boolean) 4 0 0 [.ref 2, .int (nI b)] ad (hall TC X S o) (PR ad (some (.int (bI (sHolds S b)))) (hall TC X S o)) (fun _ => False) := by
  refine cc_intro hst (by decide +kernel) (Nat.le_of_ble_eq_true rfl) ?_
  intro p e s m args below meth c F
  rw [show lv_args 0 [.ref 2, .int (nI b)] = [(0, .ref 2), (1, .int (nI b))] from rfl]
  refine wa_aload_n F dX6_holds_0 (i := 0) rfl 0 rfl ?_
  refine wa_getf (v := .ref 120) F LY_X6 (hm_m (S := S)) 20 (by decide) fl_X6_56 rfl dX6_holds_1 ?_
  refine wa_iload_n F dX6_holds_4 (i := 1) rfl 1 rfl ?_
  refine wa_iald (f := S 20) F 0 rfl (hm_20 (S := S)) b rfl (by omega) (by decide) dX6_holds_5 ?_
  refine wa_istore_n (lv' := [(2, .int (S 20 b)), (0, .ref 2), (1, .int (nI b))]) F dX6_holds_6 (i := 2) rfl (by decide) rfl ?_
  refine wa_iload_n F dX6_holds_7 (i := 2) rfl 0 rfl ?_
  refine wa_iconst (v := (-1)) F dX6_holds_8 (by decide) ?_
  refine wa_icmp_eq (tgt := 64) F dX6_holds_9 (by decide) (fun c9 => ?_) (fun c9 => ?_)
  · skip
    refine wa_iconst (v := 0) F dX6_holds_64 (by decide) ?_
    refine wa_iret F rfl (Nat.le_of_ble_eq_true rfl) (Nat.le_of_ble_eq_true rfl) dX6_holds_65 ?_
    exact ⟨congrArg (fun z => some (Value.int z)) (by simp [sHolds, bI, c9]), rfl, rfl⟩
  · skip
    obtain ⟨hx, hy⟩ := hbo.resolve_left c9
    refine wa_aload_n F dX6_holds_12 (i := 0) rfl 1 rfl ?_
    refine wa_getf (v := .int (S 1 0)) F LY_X6 (hm_m (S := S)) 1 (by decide) fl_X6_142 rfl dX6_holds_13 ?_
    refine wa_aload_n F dX6_holds_16 (i := 0) rfl 1 rfl ?_
    refine wa_getf (v := .ref 121) F LY_X6 (hm_m (S := S)) 21 (by decide) fl_X6_59 rfl dX6_holds_17 ?_
    refine wa_iload_n F dX6_holds_20 (i := 1) rfl 2 rfl ?_
    refine wa_iald (f := S 21) F 0 rfl (hm_21 (S := S)) b rfl (by omega) (by decide) dX6_holds_21 ?_
    refine wa_icmp_gt (tgt := 64) F dX6_holds_22 (by decide) (fun c22 => ?_) (fun c22 => ?_)
    · skip
      replace c22 := lt_nle c22
      refine wa_iconst (v := 0) F dX6_holds_64 (by decide) ?_
      refine wa_iret F rfl (Nat.le_of_ble_eq_true rfl) (Nat.le_of_ble_eq_true rfl) dX6_holds_65 ?_
      exact ⟨congrArg (fun z => some (Value.int z)) (by simp [sHolds, bI, c9, c22]), rfl, rfl⟩
    · skip
      replace c22 := nlt_le c22
      refine wa_aload_n F dX6_holds_25 (i := 0) rfl 1 rfl ?_
      refine wa_iload_n F dX6_holds_26 (i := 2) rfl 0 rfl ?_
      refine wa_iload_n F dX6_holds_27 (i := 1) rfl 2 rfl ?_
      refine wa_callV F [] (c_X6_hasScope hst D TC H0 ad X S o (S 20 b) ((S 20 b).toNatClampNeg) b hx (by omega) (by omega) hc) mw_X6_hasScope ml_X6_171 hm_m rfl rfl (Nat.le_of_ble_eq_true rfl) ⟨Nat.le_of_ble_eq_true rfl, Nat.le_of_ble_eq_true rfl⟩ ⟨Nat.le_of_ble_eq_true rfl, Nat.le_of_ble_eq_true rfl⟩ dX6_holds_28 PR_ag (fun _ z => z.elim) ?_
      rintro _ _ _ ⟨rfl, rfl, rfl⟩
      refine wa_if_eq (tgt := 64) F dX6_holds_31 (by decide) (fun c31 => ?_) (fun c31 => ?_)
      · skip
        replace c31 : (sScope S ((S 20 b).toNatClampNeg) b) = false := bI_f c31
        refine wa_iconst (v := 0) F dX6_holds_64 (by decide) ?_
        refine wa_iret F rfl (Nat.le_of_ble_eq_true rfl) (Nat.le_of_ble_eq_true rfl) dX6_holds_65 ?_
        exact ⟨congrArg (fun z => some (Value.int z)) (by simp [sHolds, bI, c9, c22, c31]), rfl, rfl⟩
      · skip
        replace c31 : (sScope S ((S 20 b).toNatClampNeg) b) = true := bI_t c31
        refine wa_aload_n F dX6_holds_34 (i := 0) rfl 1 rfl ?_
        refine wa_getf (v := .ref 127) F LY_X6 (hm_m (S := S)) 27 (by decide) fl_X6_74 rfl dX6_holds_35 ?_
        refine wa_iload_n F dX6_holds_38 (i := 2) rfl 0 rfl ?_
        refine wa_iald (f := S 27) F 0 rfl (hm_27 (S := S)) ((S 20 b).toNatClampNeg) hx (by omega) (by decide) dX6_holds_39 ?_
        refine wa_iconst (v := (-1)) F dX6_holds_40 (by decide) ?_
        refine wa_icmp_eq (tgt := 60) F dX6_holds_41 (by decide) (fun c41 => ?_) (fun c41 => ?_)
        · skip
          refine wa_iconst (v := 1) F dX6_holds_60 (by decide) ?_
          refine wa_goto (tgt := 65) F dX6_holds_61 (by decide) ?_
          refine wa_iret F rfl (Nat.le_of_ble_eq_true rfl) (Nat.le_of_ble_eq_true rfl) dX6_holds_65 ?_
          exact ⟨congrArg (fun z => some (Value.int z)) (by simp [sHolds, bI, c9, c22, c31, c41]), rfl, rfl⟩
        · skip
          refine wa_aload_n F dX6_holds_44 (i := 0) rfl 1 rfl ?_
          refine wa_getf (v := .int (S 1 0)) F LY_X6 (hm_m (S := S)) 1 (by decide) fl_X6_142 rfl dX6_holds_45 ?_
          refine wa_aload_n F dX6_holds_48 (i := 0) rfl 1 rfl ?_
          refine wa_getf (v := .ref 127) F LY_X6 (hm_m (S := S)) 27 (by decide) fl_X6_74 rfl dX6_holds_49 ?_
          refine wa_iload_n F dX6_holds_52 (i := 2) rfl 0 rfl ?_
          refine wa_iald (f := S 27) F 0 rfl (hm_27 (S := S)) ((S 20 b).toNatClampNeg) hx (by omega) (by decide) dX6_holds_53 ?_
          refine wa_bipush (v := 100) F dX6_holds_54 (by decide) ?_
          refine wa_iadd F dX6_holds_56 ?_
          refine wa_icmp_gt (tgt := 64) F dX6_holds_57 (by decide) (fun c57 => ?_) (fun c57 => ?_)
          · skip
            replace c57 := lt_nle c57
            refine wa_iconst (v := 0) F dX6_holds_64 (by decide) ?_
            refine wa_iret F rfl (Nat.le_of_ble_eq_true rfl) (Nat.le_of_ble_eq_true rfl) dX6_holds_65 ?_
            exact ⟨congrArg (fun z => some (Value.int z)) (by simp [sHolds, bI, c9, c22, c31, c41, c57]), rfl, rfl⟩
          · skip
            replace c57 := nlt_le c57
            refine wa_iconst (v := 1) F dX6_holds_60 (by decide) ?_
            refine wa_goto (tgt := 65) F dX6_holds_61 (by decide) ?_
            refine wa_iret F rfl (Nat.le_of_ble_eq_true rfl) (Nat.le_of_ble_eq_true rfl) dX6_holds_65 ?_
            exact ⟨congrArg (fun z => some (Value.int z)) (by simp [sHolds, bI, c9, c22, c31, c41, c57]), rfl, rfl⟩
set_option maxHeartbeats 2000000 in
set_option maxRecDepth 20000 in
theorem c_X6_wantingOf {l : Launch} (hst : l.stackTraces = false) (D : va_G) (TC : Nat → ClassId) (H0 : Heap) (ad : Nat → Nat) (X S : St) (o : Nat → Int64) (b : Nat) (hb : b < 10) (hc : CN S 2 6) (hs : CN S 9 12) (hd : cnt S 25 ≤ 5) (hbo : BO S b) : CC l D (tysOf TC) H0 yX6_wantingOf cX6_wantingOf 4 (some .int) 5 0 0 [.ref 2, .int (nI b)] ad (hall TC X S o) (PR ad (some (.int (sWant S b))) (hall TC X S o)) (fun _ => False) := by
  refine cc_intro hst (by decide +kernel) (Nat.le_of_ble_eq_true rfl) ?_
  intro p e s m args below meth c F
  rw [show lv_args 0 [.ref 2, .int (nI b)] = [(0, .ref 2), (1, .int (nI b))] from rfl]
  refine wa_aload_n F dX6_wantingOf_0 (i := 0) rfl 0 rfl ?_
  refine wa_getf (v := .ref 124) F LY_X6 (hm_m (S := S)) 24 (by decide) fl_X6_68 rfl dX6_wantingOf_1 ?_
  refine wa_iload_n F dX6_wantingOf_4 (i := 1) rfl 1 rfl ?_
  refine wa_iald (f := S 24) F 0 rfl (hm_24 (S := S)) b rfl (by omega) (by decide) dX6_wantingOf_5 ?_
  refine wa_callS F [] (c_X6_bits hst D (tysOf TC) H0 ad (hall TC X S o) (S 24 b)) mw_X6_bits ml_X6_174 rfl (Nat.le_of_ble_eq_true rfl) ⟨Nat.le_of_ble_eq_true rfl, Nat.le_of_ble_eq_true rfl⟩ ⟨Nat.le_of_ble_eq_true rfl, Nat.le_of_ble_eq_true rfl⟩ dX6_wantingOf_6 PR_ag (fun _ z => z.elim) ?_
  rintro _ _ _ ⟨rfl, rfl, rfl⟩
  refine wa_iconst (v := 3) F dX6_wantingOf_9 (by decide) ?_
  refine wa_icmp_lt (tgt := 15) F dX6_wantingOf_10 (by decide) (fun c10 => ?_) (fun c10 => ?_)
  · skip
    replace c10 := lt_nle c10
    refine wa_aload_n F dX6_wantingOf_15 (i := 0) rfl 0 rfl ?_
    refine wa_iload_n F dX6_wantingOf_16 (i := 1) rfl 1 rfl ?_
    refine wa_callV F [] (c_X6_demandsOf hst D TC H0 ad X S o b (by omega) hc) mw_X6_demandsOf ml_X6_158 hm_m rfl rfl (Nat.le_of_ble_eq_true rfl) ⟨Nat.le_of_ble_eq_true rfl, Nat.le_of_ble_eq_true rfl⟩ ⟨Nat.le_of_ble_eq_true rfl, Nat.le_of_ble_eq_true rfl⟩ dX6_wantingOf_17 PR_ag (fun _ z => z.elim) ?_
    rintro _ _ _ ⟨rfl, rfl, rfl⟩
    refine wa_istore_n (lv' := [(2, .int (sDem S b)), (0, .ref 2), (1, .int (nI b))]) F dX6_wantingOf_20 (i := 2) rfl (by decide) rfl ?_
    refine wa_aload_n F dX6_wantingOf_21 (i := 0) rfl 1 rfl ?_
    refine wa_iload_n F dX6_wantingOf_22 (i := 1) rfl 2 rfl ?_
    refine wa_callV F [] (c_X6_lowOf hst D TC H0 ad X S o b (by omega) hc) mw_X6_lowOf ml_X6_162 hm_m rfl rfl (Nat.le_of_ble_eq_true rfl) ⟨Nat.le_of_ble_eq_true rfl, Nat.le_of_ble_eq_true rfl⟩ ⟨Nat.le_of_ble_eq_true rfl, Nat.le_of_ble_eq_true rfl⟩ dX6_wantingOf_23 PR_ag (fun _ z => z.elim) ?_
    rintro _ _ _ ⟨rfl, rfl, rfl⟩
    refine wa_iload_n F dX6_wantingOf_26 (i := 2) rfl 0 rfl ?_
    refine wa_icmp_eq (tgt := 32) F dX6_wantingOf_27 (by decide) (fun c27 => ?_) (fun c27 => ?_)
    · skip
      refine wa_aload_n F dX6_wantingOf_32 (i := 0) rfl 1 rfl ?_
      refine wa_iload_n F dX6_wantingOf_33 (i := 1) rfl 2 rfl ?_
      refine wa_callV F [] (c_X6_keptOf hst D TC H0 ad X S o b (by omega) hc hs) mw_X6_keptOf ml_X6_177 hm_m rfl rfl (Nat.le_of_ble_eq_true rfl) ⟨Nat.le_of_ble_eq_true rfl, Nat.le_of_ble_eq_true rfl⟩ ⟨Nat.le_of_ble_eq_true rfl, Nat.le_of_ble_eq_true rfl⟩ dX6_wantingOf_34 PR_ag (fun _ z => z.elim) ?_
      rintro _ _ _ ⟨rfl, rfl, rfl⟩
      refine wa_iload_n F dX6_wantingOf_37 (i := 2) rfl 0 rfl ?_
      refine wa_icmp_eq (tgt := 43) F dX6_wantingOf_38 (by decide) (fun c38 => ?_) (fun c38 => ?_)
      · skip
        refine wa_aload_n F dX6_wantingOf_43 (i := 0) rfl 1 rfl ?_
        refine wa_iload_n F dX6_wantingOf_44 (i := 1) rfl 2 rfl ?_
        refine wa_callV F [] (c_X6_wayOf hst D TC H0 ad X S o b (by omega) hc) mw_X6_wayOf ml_X6_180 hm_m rfl rfl (Nat.le_of_ble_eq_true rfl) ⟨Nat.le_of_ble_eq_true rfl, Nat.le_of_ble_eq_true rfl⟩ ⟨Nat.le_of_ble_eq_true rfl, Nat.le_of_ble_eq_true rfl⟩ dX6_wantingOf_45 PR_ag (fun _ z => z.elim) ?_
        rintro _ _ _ ⟨rfl, rfl, rfl⟩
        refine wa_istore_n (lv' := [(3, .int (sWay S b)), (2, .int (sDem S b)), (0, .ref 2), (1, .int (nI b))]) F dX6_wantingOf_48 (i := 3) rfl (by decide) rfl ?_
        refine wa_iload_n F dX6_wantingOf_49 (i := 3) rfl 0 rfl ?_
        refine wa_if_eq (tgt := 63) F dX6_wantingOf_50 (by decide) (fun c50 => ?_) (fun c50 => ?_)
        · skip
          refine wa_iload_n F dX6_wantingOf_63 (i := 3) rfl 0 rfl ?_
          refine wa_iconst (v := 2) F dX6_wantingOf_64 (by decide) ?_
          refine wa_icmp_ne (tgt := 97) F dX6_wantingOf_65 (by decide) (fun c65 => ?_) (fun c65 => ?_)
          · skip
            refine wa_iload_n F dX6_wantingOf_97 (i := 2) rfl 1 rfl ?_
            refine wa_if_eq (tgt := 116) F dX6_wantingOf_98 (by decide) (fun c98 => ?_) (fun c98 => ?_)
            · skip
              refine wa_iconst (v := 0) F dX6_wantingOf_116 (by decide) ?_
              refine wa_iret F rfl (Nat.le_of_ble_eq_true rfl) (Nat.le_of_ble_eq_true rfl) dX6_wantingOf_117 ?_
              exact ⟨congrArg (fun z => some (Value.int z)) (by first | (simp [sWant, c10, c27, c38, c50, c65, c98]; done) | (rw [c50] at c65; exact absurd c65 (by decide))), rfl, rfl⟩
            · skip
              refine wa_aload_n F dX6_wantingOf_101 (i := 0) rfl 2 rfl ?_
              refine wa_getf (v := .ref 123) F LY_X6 (hm_m (S := S)) 23 (by decide) fl_X6_65 rfl dX6_wantingOf_102 ?_
              refine wa_iload_n F dX6_wantingOf_105 (i := 1) rfl 3 rfl ?_
              refine wa_iald (f := S 23) F 0 rfl (hm_23 (S := S)) b rfl (by omega) (by decide) dX6_wantingOf_106 ?_
              refine wa_iconst (v := (-1)) F dX6_wantingOf_107 (by decide) ?_
              refine wa_icmp_ne (tgt := 116) F dX6_wantingOf_108 (by decide) (fun c108 => ?_) (fun c108 => ?_)
              · skip
                refine wa_iconst (v := 0) F dX6_wantingOf_116 (by decide) ?_
                refine wa_iret F rfl (Nat.le_of_ble_eq_true rfl) (Nat.le_of_ble_eq_true rfl) dX6_wantingOf_117 ?_
                exact ⟨congrArg (fun z => some (Value.int z)) (by first | (simp [sWant, c10, c27, c38, c50, c65, c98, c108]; done) | (rw [c50] at c65; exact absurd c65 (by decide))), rfl, rfl⟩
              · skip
                refine wa_bipush (v := 6) F dX6_wantingOf_111 (by decide) ?_
                refine wa_goto (tgt := 117) F dX6_wantingOf_113 (by decide) ?_
                refine wa_iret F rfl (Nat.le_of_ble_eq_true rfl) (Nat.le_of_ble_eq_true rfl) dX6_wantingOf_117 ?_
                exact ⟨congrArg (fun z => some (Value.int z)) (by first | (simp [sWant, c10, c27, c38, c50, c65, c98, c108]; done) | (rw [c50] at c65; exact absurd c65 (by decide))), rfl, rfl⟩
          · skip
            refine wa_aload_n F dX6_wantingOf_68 (i := 0) rfl 2 rfl ?_
            refine wa_getf (v := .ref 122) F LY_X6 (hm_m (S := S)) 22 (by decide) fl_X6_62 rfl dX6_wantingOf_69 ?_
            refine wa_iload_n F dX6_wantingOf_72 (i := 1) rfl 3 rfl ?_
            refine wa_iald (f := S 22) F 0 rfl (hm_22 (S := S)) b rfl (by omega) (by decide) dX6_wantingOf_73 ?_
            refine wa_iconst (v := (-1)) F dX6_wantingOf_74 (by decide) ?_
            refine wa_icmp_eq (tgt := 95) F dX6_wantingOf_75 (by decide) (fun c75 => ?_) (fun c75 => ?_)
            · skip
              refine wa_iconst (v := 5) F dX6_wantingOf_95 (by decide) ?_
              refine wa_iret F rfl (Nat.le_of_ble_eq_true rfl) (Nat.le_of_ble_eq_true rfl) dX6_wantingOf_96 ?_
              exact ⟨congrArg (fun z => some (Value.int z)) (by first | (simp [sWant, c10, c27, c38, c50, c65, c75]; done) | (rw [c50] at c65; exact absurd c65 (by decide))), rfl, rfl⟩
            · skip
              refine wa_aload_n F dX6_wantingOf_78 (i := 0) rfl 2 rfl ?_
              refine wa_getf (v := .int (S 1 0)) F LY_X6 (hm_m (S := S)) 1 (by decide) fl_X6_142 rfl dX6_wantingOf_79 ?_
              refine wa_aload_n F dX6_wantingOf_82 (i := 0) rfl 2 rfl ?_
              refine wa_getf (v := .ref 122) F LY_X6 (hm_m (S := S)) 22 (by decide) fl_X6_62 rfl dX6_wantingOf_83 ?_
              refine wa_iload_n F dX6_wantingOf_86 (i := 1) rfl 3 rfl ?_
              refine wa_iald (f := S 22) F 0 rfl (hm_22 (S := S)) b rfl (by omega) (by decide) dX6_wantingOf_87 ?_
              refine wa_sipush (v := 365) F dX6_wantingOf_88 (by decide) ?_
              refine wa_iadd F dX6_wantingOf_91 ?_
              refine wa_icmp_le (tgt := 97) F dX6_wantingOf_92 (by decide) (fun c92 => ?_) (fun c92 => ?_)
              · skip
                refine wa_iload_n F dX6_wantingOf_97 (i := 2) rfl 1 rfl ?_
                refine wa_if_eq (tgt := 116) F dX6_wantingOf_98 (by decide) (fun c98 => ?_) (fun c98 => ?_)
                · skip
                  refine wa_iconst (v := 0) F dX6_wantingOf_116 (by decide) ?_
                  refine wa_iret F rfl (Nat.le_of_ble_eq_true rfl) (Nat.le_of_ble_eq_true rfl) dX6_wantingOf_117 ?_
                  exact ⟨congrArg (fun z => some (Value.int z)) (by first | (simp [sWant, c10, c27, c38, c50, c65, c75, c92, c98]; done) | (rw [c50] at c65; exact absurd c65 (by decide))), rfl, rfl⟩
                · skip
                  refine wa_aload_n F dX6_wantingOf_101 (i := 0) rfl 2 rfl ?_
                  refine wa_getf (v := .ref 123) F LY_X6 (hm_m (S := S)) 23 (by decide) fl_X6_65 rfl dX6_wantingOf_102 ?_
                  refine wa_iload_n F dX6_wantingOf_105 (i := 1) rfl 3 rfl ?_
                  refine wa_iald (f := S 23) F 0 rfl (hm_23 (S := S)) b rfl (by omega) (by decide) dX6_wantingOf_106 ?_
                  refine wa_iconst (v := (-1)) F dX6_wantingOf_107 (by decide) ?_
                  refine wa_icmp_ne (tgt := 116) F dX6_wantingOf_108 (by decide) (fun c108 => ?_) (fun c108 => ?_)
                  · skip
                    refine wa_iconst (v := 0) F dX6_wantingOf_116 (by decide) ?_
                    refine wa_iret F rfl (Nat.le_of_ble_eq_true rfl) (Nat.le_of_ble_eq_true rfl) dX6_wantingOf_117 ?_
                    exact ⟨congrArg (fun z => some (Value.int z)) (by first | (simp [sWant, c10, c27, c38, c50, c65, c75, c92, c98, c108]; done) | (rw [c50] at c65; exact absurd c65 (by decide))), rfl, rfl⟩
                  · skip
                    refine wa_bipush (v := 6) F dX6_wantingOf_111 (by decide) ?_
                    refine wa_goto (tgt := 117) F dX6_wantingOf_113 (by decide) ?_
                    refine wa_iret F rfl (Nat.le_of_ble_eq_true rfl) (Nat.le_of_ble_eq_true rfl) dX6_wantingOf_117 ?_
                    exact ⟨congrArg (fun z => some (Value.int z)) (by first | (simp [sWant, c10, c27, c38, c50, c65, c75, c92, c98, c108]; done) | (rw [c50] at c65; exact absurd c65 (by decide))), rfl, rfl⟩
              · skip
                refine wa_iconst (v := 5) F dX6_wantingOf_95 (by decide) ?_
                refine wa_iret F rfl (Nat.le_of_ble_eq_true rfl) (Nat.le_of_ble_eq_true rfl) dX6_wantingOf_96 ?_
                exact ⟨congrArg (fun z => some (Value.int z)) (by first | (simp [sWant, c10, c27, c38, c50, c65, c75, c92]; done) | (rw [c50] at c65; exact absurd c65 (by decide))), rfl, rfl⟩
        · skip
          refine wa_aload_n F dX6_wantingOf_53 (i := 0) rfl 2 rfl ?_
          refine wa_iload_n F dX6_wantingOf_54 (i := 1) rfl 3 rfl ?_
          refine wa_callV F [] (c_X6_holds hst D TC H0 ad X S o b (by omega) hc hd hbo) mw_X6_holds ml_X6_183 hm_m rfl rfl (Nat.le_of_ble_eq_true rfl) ⟨Nat.le_of_ble_eq_true rfl, Nat.le_of_ble_eq_true rfl⟩ ⟨Nat.le_of_ble_eq_true rfl, Nat.le_of_ble_eq_true rfl⟩ dX6_wantingOf_55 PR_ag (fun _ z => z.elim) ?_
          rintro _ _ _ ⟨rfl, rfl, rfl⟩
          refine wa_if_ne (tgt := 63) F dX6_wantingOf_58 (by decide) (fun c58 => ?_) (fun c58 => ?_)
          · skip
            replace c58 : (sHolds S b) = true := bI_t c58
            refine wa_iload_n F dX6_wantingOf_63 (i := 3) rfl 0 rfl ?_
            refine wa_iconst (v := 2) F dX6_wantingOf_64 (by decide) ?_
            refine wa_icmp_ne (tgt := 97) F dX6_wantingOf_65 (by decide) (fun c65 => ?_) (fun c65 => ?_)
            · skip
              refine wa_iload_n F dX6_wantingOf_97 (i := 2) rfl 1 rfl ?_
              refine wa_if_eq (tgt := 116) F dX6_wantingOf_98 (by decide) (fun c98 => ?_) (fun c98 => ?_)
              · skip
                refine wa_iconst (v := 0) F dX6_wantingOf_116 (by decide) ?_
                refine wa_iret F rfl (Nat.le_of_ble_eq_true rfl) (Nat.le_of_ble_eq_true rfl) dX6_wantingOf_117 ?_
                exact ⟨congrArg (fun z => some (Value.int z)) (by first | (simp [sWant, c10, c27, c38, c50, c58, c65, c98]; done) | (rw [c50] at c65; exact absurd c65 (by decide))), rfl, rfl⟩
              · skip
                refine wa_aload_n F dX6_wantingOf_101 (i := 0) rfl 2 rfl ?_
                refine wa_getf (v := .ref 123) F LY_X6 (hm_m (S := S)) 23 (by decide) fl_X6_65 rfl dX6_wantingOf_102 ?_
                refine wa_iload_n F dX6_wantingOf_105 (i := 1) rfl 3 rfl ?_
                refine wa_iald (f := S 23) F 0 rfl (hm_23 (S := S)) b rfl (by omega) (by decide) dX6_wantingOf_106 ?_
                refine wa_iconst (v := (-1)) F dX6_wantingOf_107 (by decide) ?_
                refine wa_icmp_ne (tgt := 116) F dX6_wantingOf_108 (by decide) (fun c108 => ?_) (fun c108 => ?_)
                · skip
                  refine wa_iconst (v := 0) F dX6_wantingOf_116 (by decide) ?_
                  refine wa_iret F rfl (Nat.le_of_ble_eq_true rfl) (Nat.le_of_ble_eq_true rfl) dX6_wantingOf_117 ?_
                  exact ⟨congrArg (fun z => some (Value.int z)) (by first | (simp [sWant, c10, c27, c38, c50, c58, c65, c98, c108]; done) | (rw [c50] at c65; exact absurd c65 (by decide))), rfl, rfl⟩
                · skip
                  refine wa_bipush (v := 6) F dX6_wantingOf_111 (by decide) ?_
                  refine wa_goto (tgt := 117) F dX6_wantingOf_113 (by decide) ?_
                  refine wa_iret F rfl (Nat.le_of_ble_eq_true rfl) (Nat.le_of_ble_eq_true rfl) dX6_wantingOf_117 ?_
                  exact ⟨congrArg (fun z => some (Value.int z)) (by first | (simp [sWant, c10, c27, c38, c50, c58, c65, c98, c108]; done) | (rw [c50] at c65; exact absurd c65 (by decide))), rfl, rfl⟩
            · skip
              refine wa_aload_n F dX6_wantingOf_68 (i := 0) rfl 2 rfl ?_
              refine wa_getf (v := .ref 122) F LY_X6 (hm_m (S := S)) 22 (by decide) fl_X6_62 rfl dX6_wantingOf_69 ?_
              refine wa_iload_n F dX6_wantingOf_72 (i := 1) rfl 3 rfl ?_
              refine wa_iald (f := S 22) F 0 rfl (hm_22 (S := S)) b rfl (by omega) (by decide) dX6_wantingOf_73 ?_
              refine wa_iconst (v := (-1)) F dX6_wantingOf_74 (by decide) ?_
              refine wa_icmp_eq (tgt := 95) F dX6_wantingOf_75 (by decide) (fun c75 => ?_) (fun c75 => ?_)
              · skip
                refine wa_iconst (v := 5) F dX6_wantingOf_95 (by decide) ?_
                refine wa_iret F rfl (Nat.le_of_ble_eq_true rfl) (Nat.le_of_ble_eq_true rfl) dX6_wantingOf_96 ?_
                exact ⟨congrArg (fun z => some (Value.int z)) (by first | (simp [sWant, c10, c27, c38, c50, c58, c65, c75]; done) | (rw [c50] at c65; exact absurd c65 (by decide))), rfl, rfl⟩
              · skip
                refine wa_aload_n F dX6_wantingOf_78 (i := 0) rfl 2 rfl ?_
                refine wa_getf (v := .int (S 1 0)) F LY_X6 (hm_m (S := S)) 1 (by decide) fl_X6_142 rfl dX6_wantingOf_79 ?_
                refine wa_aload_n F dX6_wantingOf_82 (i := 0) rfl 2 rfl ?_
                refine wa_getf (v := .ref 122) F LY_X6 (hm_m (S := S)) 22 (by decide) fl_X6_62 rfl dX6_wantingOf_83 ?_
                refine wa_iload_n F dX6_wantingOf_86 (i := 1) rfl 3 rfl ?_
                refine wa_iald (f := S 22) F 0 rfl (hm_22 (S := S)) b rfl (by omega) (by decide) dX6_wantingOf_87 ?_
                refine wa_sipush (v := 365) F dX6_wantingOf_88 (by decide) ?_
                refine wa_iadd F dX6_wantingOf_91 ?_
                refine wa_icmp_le (tgt := 97) F dX6_wantingOf_92 (by decide) (fun c92 => ?_) (fun c92 => ?_)
                · skip
                  refine wa_iload_n F dX6_wantingOf_97 (i := 2) rfl 1 rfl ?_
                  refine wa_if_eq (tgt := 116) F dX6_wantingOf_98 (by decide) (fun c98 => ?_) (fun c98 => ?_)
                  · skip
                    refine wa_iconst (v := 0) F dX6_wantingOf_116 (by decide) ?_
                    refine wa_iret F rfl (Nat.le_of_ble_eq_true rfl) (Nat.le_of_ble_eq_true rfl) dX6_wantingOf_117 ?_
                    exact ⟨congrArg (fun z => some (Value.int z)) (by first | (simp [sWant, c10, c27, c38, c50, c58, c65, c75, c92, c98]; done) | (rw [c50] at c65; exact absurd c65 (by decide))), rfl, rfl⟩
                  · skip
                    refine wa_aload_n F dX6_wantingOf_101 (i := 0) rfl 2 rfl ?_
                    refine wa_getf (v := .ref 123) F LY_X6 (hm_m (S := S)) 23 (by decide) fl_X6_65 rfl dX6_wantingOf_102 ?_
                    refine wa_iload_n F dX6_wantingOf_105 (i := 1) rfl 3 rfl ?_
                    refine wa_iald (f := S 23) F 0 rfl (hm_23 (S := S)) b rfl (by omega) (by decide) dX6_wantingOf_106 ?_
                    refine wa_iconst (v := (-1)) F dX6_wantingOf_107 (by decide) ?_
                    refine wa_icmp_ne (tgt := 116) F dX6_wantingOf_108 (by decide) (fun c108 => ?_) (fun c108 => ?_)
                    · skip
                      refine wa_iconst (v := 0) F dX6_wantingOf_116 (by decide) ?_
                      refine wa_iret F rfl (Nat.le_of_ble_eq_true rfl) (Nat.le_of_ble_eq_true rfl) dX6_wantingOf_117 ?_
                      exact ⟨congrArg (fun z => some (Value.int z)) (by first | (simp [sWant, c10, c27, c38, c50, c58, c65, c75, c92, c98, c108]; done) | (rw [c50] at c65; exact absurd c65 (by decide))), rfl, rfl⟩
                    · skip
                      refine wa_bipush (v := 6) F dX6_wantingOf_111 (by decide) ?_
                      refine wa_goto (tgt := 117) F dX6_wantingOf_113 (by decide) ?_
                      refine wa_iret F rfl (Nat.le_of_ble_eq_true rfl) (Nat.le_of_ble_eq_true rfl) dX6_wantingOf_117 ?_
                      exact ⟨congrArg (fun z => some (Value.int z)) (by first | (simp [sWant, c10, c27, c38, c50, c58, c65, c75, c92, c98, c108]; done) | (rw [c50] at c65; exact absurd c65 (by decide))), rfl, rfl⟩
                · skip
                  refine wa_iconst (v := 5) F dX6_wantingOf_95 (by decide) ?_
                  refine wa_iret F rfl (Nat.le_of_ble_eq_true rfl) (Nat.le_of_ble_eq_true rfl) dX6_wantingOf_96 ?_
                  exact ⟨congrArg (fun z => some (Value.int z)) (by first | (simp [sWant, c10, c27, c38, c50, c58, c65, c75, c92]; done) | (rw [c50] at c65; exact absurd c65 (by decide))), rfl, rfl⟩
          · skip
            replace c58 : (sHolds S b) = false := bI_f c58
            refine wa_iconst (v := 4) F dX6_wantingOf_61 (by decide) ?_
            refine wa_iret F rfl (Nat.le_of_ble_eq_true rfl) (Nat.le_of_ble_eq_true rfl) dX6_wantingOf_62 ?_
            exact ⟨congrArg (fun z => some (Value.int z)) (by first | (simp [sWant, c10, c27, c38, c50, c58]; done)), rfl, rfl⟩
      · skip
        refine wa_iconst (v := 3) F dX6_wantingOf_41 (by decide) ?_
        refine wa_iret F rfl (Nat.le_of_ble_eq_true rfl) (Nat.le_of_ble_eq_true rfl) dX6_wantingOf_42 ?_
        exact ⟨congrArg (fun z => some (Value.int z)) (by first | (simp [sWant, c10, c27, c38]; done)), rfl, rfl⟩
    · skip
      refine wa_iconst (v := 2) F dX6_wantingOf_30 (by decide) ?_
      refine wa_iret F rfl (Nat.le_of_ble_eq_true rfl) (Nat.le_of_ble_eq_true rfl) dX6_wantingOf_31 ?_
      exact ⟨congrArg (fun z => some (Value.int z)) (by first | (simp [sWant, c10, c27]; done)), rfl, rfl⟩
  · skip
    replace c10 := nlt_le c10
    refine wa_iconst (v := 1) F dX6_wantingOf_13 (by decide) ?_
    refine wa_iret F rfl (Nat.le_of_ble_eq_true rfl) (Nat.le_of_ble_eq_true rfl) dX6_wantingOf_14 ?_
    exact ⟨congrArg (fun z => some (Value.int z)) (by first | (simp [sWant, c10]; done)), rfl, rfl⟩
set_option maxHeartbeats 2000000 in
set_option maxRecDepth 20000 in
theorem c_X6_nextVersion {l : Launch} (hst : l.stackTraces = false) (D : va_G) (TC : Nat → ClassId) (H0 : Heap) (ad : Nat → Nat) (X S : St) (o : Nat → Int64) (b : Nat) (hb : b < 10) : CC l D (tysOf TC) H0 yX6_nextVersion cX6_nextVersion 3 none 0 0 0 [.ref 2, .int (nI b)] ad (hall TC X S o) (PR ad none (hall TC X (uNext b S) o)) (fun _ => False) := by
  refine cc_intro hst (by decide +kernel) (Nat.le_of_ble_eq_true rfl) ?_
  intro p e s m args below meth c F
  rw [show lv_args 0 [.ref 2, .int (nI b)] = [(0, .ref 2), (1, .int (nI b))] from rfl]
  refine wa_aload_n F dX6_nextVersion_0 (i := 0) rfl 0 rfl ?_
  refine wa_getf (v := .ref 115) F LY_X6 (hm_m (S := S)) 15 (by decide) fl_X6_41 rfl dX6_nextVersion_1 ?_
  refine wa_iload_n F dX6_nextVersion_4 (i := 1) rfl 1 rfl ?_
  refine wa_dup2 F dX6_nextVersion_5 rfl rfl ?_
  refine wa_iald (f := S 15) F 0 rfl (hm_15 (S := S)) b rfl (by omega) (by decide) dX6_nextVersion_6 ?_
  refine wa_iconst (v := 1) F dX6_nextVersion_7 (by decide) ?_
  refine wa_iadd F dX6_nextVersion_8 ?_
  refine wa_iast F 0 rfl (hm_15 (S := S)) b rfl (by omega) (by decide) dX6_nextVersion_9 (hu_15 b ((S 15 b) + 1)) ?_
  refine wa_iconst (v := 0) F dX6_nextVersion_10 (by decide) ?_
  refine wa_istore_n (lv' := [(2, .int 0), (0, .ref 2), (1, .int (nI b))]) F dX6_nextVersion_11 (i := 2) rfl (by decide) rfl ?_
  have loop12 : ∀ (n k : Nat), k ≤ 12 → 12 - k < n → WA D H0 p l e (RM 0 0 0) s m args below meth c 3 (vx_MQ below (QC0 D H0 (PR ad none (hall TC X (uNext b S) o))) (XC0 D H0 (fun _ => False) ad (hall TC X S o)) args s 0 0 (hA0 H0)) ad (hall TC X (zF (sU S 15 b (S 15 b + 1)) 18 (12 * b) k) o) 0 0 12 [(2, .int (nI k)), (0, .ref 2), (1, .int (nI b))] [] := by
    intro n
    induction n with
    | zero => intro k h1 h2; omega
    | succ n ih_k =>
      intro k hk_k hn_k
      refine wa_iload_n F dX6_nextVersion_12 (i := 2) rfl 0 rfl ?_
      refine wa_bipush (v := 12) F dX6_nextVersion_13 (by decide) ?_
      refine wa_icmp_ge (tgt := 36) F dX6_nextVersion_15 (by decide) (fun c15 => ?_) (fun c15 => ?_)
      · skip
        have he_k : k = 12 := Nat.le_antisymm hk_k (nle_k rfl (by omega) (by omega) c15)
        subst he_k
        refine wa_aload_n F dX6_nextVersion_36 (i := 0) rfl 1 rfl ?_
        refine wa_getf (v := .ref 119) F LY_X6 (hm_m (S := (zF (sU S 15 b (S 15 b + 1)) 18 (12 * b) 12))) 19 (by decide) fl_X6_53 rfl dX6_nextVersion_37 ?_
        refine wa_iload_n F dX6_nextVersion_40 (i := 1) rfl 2 rfl ?_
        refine wa_iconst (v := 0) F dX6_nextVersion_41 (by decide) ?_
        refine wa_iast F 0 rfl (hm_19 (S := (zF (sU S 15 b (S 15 b + 1)) 18 (12 * b) 12))) b rfl (by omega) (by decide) dX6_nextVersion_42 (hu_19 b 0) ?_
        refine wa_aload_n F dX6_nextVersion_43 (i := 0) rfl 1 rfl ?_
        refine wa_getf (v := .ref 120) F LY_X6 (hm_m (S := (sU (zF (sU S 15 b (S 15 b + 1)) 18 (12 * b) 12) 19 b 0))) 20 (by decide) fl_X6_56 rfl dX6_nextVersion_44 ?_
        refine wa_iload_n F dX6_nextVersion_47 (i := 1) rfl 2 rfl ?_
        refine wa_iconst (v := (-1)) F dX6_nextVersion_48 (by decide) ?_
        refine wa_iast F 0 rfl (hm_20 (S := (sU (zF (sU S 15 b (S 15 b + 1)) 18 (12 * b) 12) 19 b 0))) b rfl (by omega) (by decide) dX6_nextVersion_49 (hu_20 b (-1)) ?_
        refine wa_aload_n F dX6_nextVersion_50 (i := 0) rfl 1 rfl ?_
        refine wa_getf (v := .ref 121) F LY_X6 (hm_m (S := (sU (sU (zF (sU S 15 b (S 15 b + 1)) 18 (12 * b) 12) 19 b 0) 20 b (-1)))) 21 (by decide) fl_X6_59 rfl dX6_nextVersion_51 ?_
        refine wa_iload_n F dX6_nextVersion_54 (i := 1) rfl 2 rfl ?_
        refine wa_iconst (v := (-1)) F dX6_nextVersion_55 (by decide) ?_
        refine wa_iast F 0 rfl (hm_21 (S := (sU (sU (zF (sU S 15 b (S 15 b + 1)) 18 (12 * b) 12) 19 b 0) 20 b (-1)))) b rfl (by omega) (by decide) dX6_nextVersion_56 (hu_21 b (-1)) ?_
        refine wa_aload_n F dX6_nextVersion_57 (i := 0) rfl 1 rfl ?_
        refine wa_getf (v := .ref 122) F LY_X6 (hm_m (S := (sU (sU (sU (zF (sU S 15 b (S 15 b + 1)) 18 (12 * b) 12) 19 b 0) 20 b (-1)) 21 b (-1)))) 22 (by decide) fl_X6_62 rfl dX6_nextVersion_58 ?_
        refine wa_iload_n F dX6_nextVersion_61 (i := 1) rfl 2 rfl ?_
        refine wa_iconst (v := (-1)) F dX6_nextVersion_62 (by decide) ?_
        refine wa_iast F 0 rfl (hm_22 (S := (sU (sU (sU (zF (sU S 15 b (S 15 b + 1)) 18 (12 * b) 12) 19 b 0) 20 b (-1)) 21 b (-1)))) b rfl (by omega) (by decide) dX6_nextVersion_63 (hu_22 b (-1)) ?_
        refine wa_aload_n F dX6_nextVersion_64 (i := 0) rfl 1 rfl ?_
        refine wa_getf (v := .ref 123) F LY_X6 (hm_m (S := (sU (sU (sU (sU (zF (sU S 15 b (S 15 b + 1)) 18 (12 * b) 12) 19 b 0) 20 b (-1)) 21 b (-1)) 22 b (-1)))) 23 (by decide) fl_X6_65 rfl dX6_nextVersion_65 ?_
        refine wa_iload_n F dX6_nextVersion_68 (i := 1) rfl 2 rfl ?_
        refine wa_iconst (v := (-1)) F dX6_nextVersion_69 (by decide) ?_
        refine wa_iast F 0 rfl (hm_23 (S := (sU (sU (sU (sU (zF (sU S 15 b (S 15 b + 1)) 18 (12 * b) 12) 19 b 0) 20 b (-1)) 21 b (-1)) 22 b (-1)))) b rfl (by omega) (by decide) dX6_nextVersion_70 (hu_23 b (-1)) ?_
        refine wa_vret F (Nat.le_of_ble_eq_true rfl) (Nat.le_of_ble_eq_true rfl) dX6_nextVersion_71 ?_
        exact ⟨rfl, rfl, rfl⟩
      · skip
        have hl_k : k < 12 := knle rfl (by omega) (by omega) c15
        refine wa_aload_n F dX6_nextVersion_18 (i := 0) rfl 1 rfl ?_
        refine wa_getf (v := .ref 118) F LY_X6 (hm_m (S := (zF (sU S 15 b (S 15 b + 1)) 18 (12 * b) k))) 18 (by decide) fl_X6_50 rfl dX6_nextVersion_19 ?_
        refine wa_bipush (v := 12) F dX6_nextVersion_22 (by decide) ?_
        refine wa_iload_n F dX6_nextVersion_24 (i := 1) rfl 2 rfl ?_
        refine wa_imulN F dX6_nextVersion_25 (a := 12) (b := b) rfl rfl ?_
        refine wa_iload_n F dX6_nextVersion_26 (i := 2) rfl 0 rfl ?_
        refine wa_iaddN F dX6_nextVersion_27 (a := 12 * b) (b := k) rfl rfl ?_
        refine wa_iconst (v := 0) F dX6_nextVersion_28 (by decide) ?_
        refine wa_iast F 0 rfl (hm_18 (S := (zF (sU S 15 b (S 15 b + 1)) 18 (12 * b) k))) ((12 * b) + k) rfl (by omega) (by decide) dX6_nextVersion_29 (hu_18 ((12 * b) + k) 0) ?_
        refine wa_iinc (v := (nI (k + 1))) (j := 0) (lv' := [(2, .int (nI (k + 1))), (0, .ref 2), (1, .int (nI b))]) F dX6_nextVersion_30 rfl ((nI_succ k).symm) (by decide) rfl ?_
        refine wa_goto (tgt := 12) F dX6_nextVersion_33 (by decide) ?_
        refine wa_lv (lv' := [(2, .int (nI (k + 1))), (0, .ref 2), (1, .int (nI b))]) [0, 1, 2] rfl ?_
        rw [← zF_s]
        exact ih_k (k + 1) (by omega) (by omega)
  exact loop12 (12 + 1) 0 (Nat.zero_le _) (by omega)
set_option maxHeartbeats 2000000 in
set_option maxRecDepth 20000 in
theorem c_X6_levelOf {l : Launch} (hst : l.stackTraces = false) (D : va_G) (TC : Nat → ClassId) (H0 : Heap) (ad : Nat → Nat) (X S : St) (o : Nat → Int64) (b : Nat) (hb : b < 40) (hu : ¬ S 30 b = 0) : CC l D (tysOf TC) H0 yX6_levelOf cX6_levelOf 3 (some .int) 0 0 0 [.ref 2, .int (nI b)] ad (hall TC X S o) (PR ad (some (.int (sLevel S b))) (hall TC X S o)) (fun _ => False) := by
  refine cc_intro hst (by decide +kernel) (Nat.le_of_ble_eq_true rfl) ?_
  intro p e s m args below meth c F
  rw [show lv_args 0 [.ref 2, .int (nI b)] = [(0, .ref 2), (1, .int (nI b))] from rfl]
  refine wa_aload_n F dX6_levelOf_0 (i := 0) rfl 0 rfl ?_
  refine wa_getf (v := .ref 137) F LY_X6 (hm_m (S := S)) 37 (by decide) fl_X6_101 rfl dX6_levelOf_1 ?_
  refine wa_iload_n F dX6_levelOf_4 (i := 1) rfl 1 rfl ?_
  refine wa_iald (f := S 37) F 0 rfl (hm_37 (S := S)) b rfl (by omega) (by decide) dX6_levelOf_5 ?_
  refine wa_sipush (v := 1000) F dX6_levelOf_6 (by decide) ?_
  refine wa_imul F dX6_levelOf_9 ?_
  refine wa_aload_n F dX6_levelOf_10 (i := 0) rfl 0 rfl ?_
  refine wa_getf (v := .ref 130) F LY_X6 (hm_m (S := S)) 30 (by decide) fl_X6_80 rfl dX6_levelOf_11 ?_
  refine wa_iload_n F dX6_levelOf_14 (i := 1) rfl 1 rfl ?_
  refine wa_iald (f := S 30) F 0 rfl (hm_30 (S := S)) b rfl (by omega) (by decide) dX6_levelOf_15 ?_
  refine wa_idiv F hu dX6_levelOf_16 ?_
  refine wa_istore_n (lv' := [(2, .int (((S 37 b) * 1000) / (S 30 b))), (0, .ref 2), (1, .int (nI b))]) F dX6_levelOf_17 (i := 2) rfl (by decide) rfl ?_
  refine wa_aload_n F dX6_levelOf_18 (i := 0) rfl 1 rfl ?_
  refine wa_getf (v := .ref 136) F LY_X6 (hm_m (S := S)) 36 (by decide) fl_X6_98 rfl dX6_levelOf_19 ?_
  refine wa_iload_n F dX6_levelOf_22 (i := 1) rfl 2 rfl ?_
  refine wa_iald (f := S 36) F 0 rfl (hm_36 (S := S)) b rfl (by omega) (by decide) dX6_levelOf_23 ?_
  refine wa_iload_n F dX6_levelOf_24 (i := 2) rfl 0 rfl ?_
  refine wa_bipush (v := 50) F dX6_levelOf_25 (by decide) ?_
  refine wa_icmp_lt (tgt := 34) F dX6_levelOf_27 (by decide) (fun c27 => ?_) (fun c27 => ?_)
  · skip
    replace c27 := lt_nle c27
    refine wa_iload_n F dX6_levelOf_34 (i := 2) rfl 0 rfl ?_
    refine wa_bipush (v := 10) F dX6_levelOf_35 (by decide) ?_
    refine wa_icmp_lt (tgt := 44) F dX6_levelOf_37 (by decide) (fun c37 => ?_) (fun c37 => ?_)
    · skip
      replace c37 := lt_nle c37
      refine wa_iconst (v := 0) F dX6_levelOf_44 (by decide) ?_
      refine wa_iadd F dX6_levelOf_45 ?_
      refine wa_aload_n F dX6_levelOf_46 (i := 0) rfl 1 rfl ?_
      refine wa_getf (v := .ref 135) F LY_X6 (hm_m (S := S)) 35 (by decide) fl_X6_95 rfl dX6_levelOf_47 ?_
      refine wa_iload_n F dX6_levelOf_50 (i := 1) rfl 2 rfl ?_
      refine wa_iald (f := S 35) F 0 rfl (hm_35 (S := S)) b rfl (by omega) (by decide) dX6_levelOf_51 ?_
      refine wa_iconst (v := 2) F dX6_levelOf_52 (by decide) ?_
      refine wa_icmp_ne (tgt := 60) F dX6_levelOf_53 (by decide) (fun c53 => ?_) (fun c53 => ?_)
      · skip
        refine wa_iconst (v := 0) F dX6_levelOf_60 (by decide) ?_
        refine wa_iadd F dX6_levelOf_61 ?_
        refine wa_iret F rfl (Nat.le_of_ble_eq_true rfl) (Nat.le_of_ble_eq_true rfl) dX6_levelOf_62 ?_
        exact ⟨congrArg (fun z => some (Value.int z)) (by simp [sLevel, sShare, c27, c37, c53]), rfl, rfl⟩
      · skip
        refine wa_iconst (v := 1) F dX6_levelOf_56 (by decide) ?_
        refine wa_goto (tgt := 61) F dX6_levelOf_57 (by decide) ?_
        refine wa_iadd F dX6_levelOf_61 ?_
        refine wa_iret F rfl (Nat.le_of_ble_eq_true rfl) (Nat.le_of_ble_eq_true rfl) dX6_levelOf_62 ?_
        exact ⟨congrArg (fun z => some (Value.int z)) (by simp [sLevel, sShare, c27, c37, c53]), rfl, rfl⟩
    · skip
      replace c37 := nlt_le c37
      refine wa_iconst (v := 1) F dX6_levelOf_40 (by decide) ?_
      refine wa_goto (tgt := 45) F dX6_levelOf_41 (by decide) ?_
      refine wa_iadd F dX6_levelOf_45 ?_
      refine wa_aload_n F dX6_levelOf_46 (i := 0) rfl 1 rfl ?_
      refine wa_getf (v := .ref 135) F LY_X6 (hm_m (S := S)) 35 (by decide) fl_X6_95 rfl dX6_levelOf_47 ?_
      refine wa_iload_n F dX6_levelOf_50 (i := 1) rfl 2 rfl ?_
      refine wa_iald (f := S 35) F 0 rfl (hm_35 (S := S)) b rfl (by omega) (by decide) dX6_levelOf_51 ?_
      refine wa_iconst (v := 2) F dX6_levelOf_52 (by decide) ?_
      refine wa_icmp_ne (tgt := 60) F dX6_levelOf_53 (by decide) (fun c53 => ?_) (fun c53 => ?_)
      · skip
        refine wa_iconst (v := 0) F dX6_levelOf_60 (by decide) ?_
        refine wa_iadd F dX6_levelOf_61 ?_
        refine wa_iret F rfl (Nat.le_of_ble_eq_true rfl) (Nat.le_of_ble_eq_true rfl) dX6_levelOf_62 ?_
        exact ⟨congrArg (fun z => some (Value.int z)) (by simp [sLevel, sShare, c27, c37, c53]), rfl, rfl⟩
      · skip
        refine wa_iconst (v := 1) F dX6_levelOf_56 (by decide) ?_
        refine wa_goto (tgt := 61) F dX6_levelOf_57 (by decide) ?_
        refine wa_iadd F dX6_levelOf_61 ?_
        refine wa_iret F rfl (Nat.le_of_ble_eq_true rfl) (Nat.le_of_ble_eq_true rfl) dX6_levelOf_62 ?_
        exact ⟨congrArg (fun z => some (Value.int z)) (by simp [sLevel, sShare, c27, c37, c53]), rfl, rfl⟩
  · skip
    replace c27 := nlt_le c27
    refine wa_iconst (v := 2) F dX6_levelOf_30 (by decide) ?_
    refine wa_goto (tgt := 45) F dX6_levelOf_31 (by decide) ?_
    refine wa_iadd F dX6_levelOf_45 ?_
    refine wa_aload_n F dX6_levelOf_46 (i := 0) rfl 1 rfl ?_
    refine wa_getf (v := .ref 135) F LY_X6 (hm_m (S := S)) 35 (by decide) fl_X6_95 rfl dX6_levelOf_47 ?_
    refine wa_iload_n F dX6_levelOf_50 (i := 1) rfl 2 rfl ?_
    refine wa_iald (f := S 35) F 0 rfl (hm_35 (S := S)) b rfl (by omega) (by decide) dX6_levelOf_51 ?_
    refine wa_iconst (v := 2) F dX6_levelOf_52 (by decide) ?_
    refine wa_icmp_ne (tgt := 60) F dX6_levelOf_53 (by decide) (fun c53 => ?_) (fun c53 => ?_)
    · skip
      refine wa_iconst (v := 0) F dX6_levelOf_60 (by decide) ?_
      refine wa_iadd F dX6_levelOf_61 ?_
      refine wa_iret F rfl (Nat.le_of_ble_eq_true rfl) (Nat.le_of_ble_eq_true rfl) dX6_levelOf_62 ?_
      exact ⟨congrArg (fun z => some (Value.int z)) (by simp [sLevel, sShare, c27, c53]), rfl, rfl⟩
    · skip
      refine wa_iconst (v := 1) F dX6_levelOf_56 (by decide) ?_
      refine wa_goto (tgt := 61) F dX6_levelOf_57 (by decide) ?_
      refine wa_iadd F dX6_levelOf_61 ?_
      refine wa_iret F rfl (Nat.le_of_ble_eq_true rfl) (Nat.le_of_ble_eq_true rfl) dX6_levelOf_62 ?_
      exact ⟨congrArg (fun z => some (Value.int z)) (by simp [sLevel, sShare, c27, c53]), rfl, rfl⟩
set_option maxHeartbeats 2000000 in
set_option maxRecDepth 20000 in
theorem c_X6_onMarket {l : Launch} (hst : l.stackTraces = false) (D : va_G) (TC : Nat → ClassId) (H0 : Heap) (ad : Nat → Nat) (X S : St) (o : Nat → Int64) (b : Nat) (hb : b < 10) (hm : CN S 28 40) : CC l D (tysOf TC) H0 yX6_onMarket cX6_onMarket 4 (some .int) 0 0 0 [.ref 2, .int (nI b)] ad (hall TC X S o) (PR ad (some (.int (sMk S b))) (hall TC X S o)) (fun _ => False) := by
  refine cc_intro hst (by decide +kernel) (Nat.le_of_ble_eq_true rfl) ?_
  intro p e s m args below meth c F
  rw [show lv_args 0 [.ref 2, .int (nI b)] = [(0, .ref 2), (1, .int (nI b))] from rfl]
  have hm2 := hm.2
  refine wa_iconst (v := 0) F dX6_onMarket_0 (by decide) ?_
  refine wa_istore_n (lv' := [(2, .int 0), (0, .ref 2), (1, .int (nI b))]) F dX6_onMarket_1 (i := 2) rfl (by decide) rfl ?_
  refine wa_iconst (v := 0) F dX6_onMarket_2 (by decide) ?_
  refine wa_istore_n (lv' := [(3, .int 0), (2, .int 0), (0, .ref 2), (1, .int (nI b))]) F dX6_onMarket_3 (i := 3) rfl (by decide) rfl ?_
  have loop4 : ∀ (n k : Nat), k ≤ (cnt S 28) → (cnt S 28) - k < n → WA D H0 p l e (RM 0 0 0) s m args below meth c 4 (vx_MQ below (QC0 D H0 (PR ad (some (.int (sMk S b))) (hall TC X S o))) (XC0 D H0 (fun _ => False) ad (hall TC X S o)) args s 0 0 (hA0 H0)) ad (hall TC X S o) 0 0 4 [(3, .int (nI k)), (2, .int (adA 0 (fMk S b) k)), (0, .ref 2), (1, .int (nI b))] [] := by
    intro n
    induction n with
    | zero => intro k h1 h2; omega
    | succ n ih_k =>
      intro k hk_k hn_k
      refine wa_iload_n F dX6_onMarket_4 (i := 3) rfl 0 rfl ?_
      refine wa_aload_n F dX6_onMarket_5 (i := 0) rfl 2 rfl ?_
      refine wa_getf (v := .int (S 28 0)) F LY_X6 (hm_m (S := S)) 28 (by decide) fl_X6_124 rfl dX6_onMarket_6 ?_
      refine wa_icmp_ge (tgt := 50) F dX6_onMarket_9 (by decide) (fun c9 => ?_) (fun c9 => ?_)
      · skip
        have he_k : k = (cnt S 28) := Nat.le_antisymm hk_k (nle_k hm.1 (by omega) (by omega) c9)
        subst he_k
        refine wa_iload_n F dX6_onMarket_50 (i := 2) rfl 1 rfl ?_
        refine wa_iret F rfl (Nat.le_of_ble_eq_true rfl) (Nat.le_of_ble_eq_true rfl) dX6_onMarket_51 ?_
        exact ⟨rfl, rfl, rfl⟩
      · skip
        have hl_k : k < (cnt S 28) := knle hm.1 (by omega) (by omega) c9
        refine wa_iload_n F dX6_onMarket_12 (i := 2) rfl 1 rfl ?_
        refine wa_aload_n F dX6_onMarket_13 (i := 0) rfl 2 rfl ?_
        refine wa_getf (v := .ref 129) F LY_X6 (hm_m (S := S)) 29 (by decide) fl_X6_77 rfl dX6_onMarket_14 ?_
        refine wa_iload_n F dX6_onMarket_17 (i := 3) rfl 0 rfl ?_
        refine wa_iald (f := S 29) F 0 rfl (hm_29 (S := S)) k rfl (by omega) (by decide) dX6_onMarket_18 ?_
        refine wa_iload_n F dX6_onMarket_19 (i := 1) rfl 3 rfl ?_
        refine wa_icmp_ne (tgt := 41) F dX6_onMarket_20 (by decide) (fun c20 => ?_) (fun c20 => ?_)
        · skip
          refine wa_iconst (v := 0) F dX6_onMarket_41 (by decide) ?_
          refine wa_iadd F dX6_onMarket_42 ?_
          refine wa_istore_n (lv' := [(2, .int ((adA 0 (fMk S b) k) + 0)), (3, .int (nI k)), (0, .ref 2), (1, .int (nI b))]) F dX6_onMarket_43 (i := 2) rfl (by decide) rfl ?_
          refine wa_iinc (v := (nI (k + 1))) (j := 1) (lv' := [(3, .int (nI (k + 1))), (2, .int ((adA 0 (fMk S b) k) + 0)), (0, .ref 2), (1, .int (nI b))]) F dX6_onMarket_44 rfl ((nI_succ k).symm) (by decide) rfl ?_
          refine wa_goto (tgt := 4) F dX6_onMarket_47 (by decide) ?_
          have ea1 : ((adA 0 (fMk S b) k) + 0) = (adA 0 (fMk S b) (k + 1)) := by simp [adA, fMk, c20]
          refine wa_lv (lv' := [(3, .int (nI (k + 1))), (2, .int (adA 0 (fMk S b) (k + 1))), (0, .ref 2), (1, .int (nI b))]) [0, 1, 2, 3] (by rw [← ea1]; rfl) ?_
          exact ih_k (k + 1) (by omega) (by omega)
        · skip
          refine wa_aload_n F dX6_onMarket_23 (i := 0) rfl 2 rfl ?_
          refine wa_getf (v := .ref 134) F LY_X6 (hm_m (S := S)) 34 (by decide) fl_X6_92 rfl dX6_onMarket_24 ?_
          refine wa_iload_n F dX6_onMarket_27 (i := 3) rfl 0 rfl ?_
          refine wa_iald (f := S 34) F 0 rfl (hm_34 (S := S)) k rfl (by omega) (by decide) dX6_onMarket_28 ?_
          refine wa_if_ne (tgt := 41) F dX6_onMarket_29 (by decide) (fun c29 => ?_) (fun c29 => ?_)
          · skip
            refine wa_iconst (v := 0) F dX6_onMarket_41 (by decide) ?_
            refine wa_iadd F dX6_onMarket_42 ?_
            refine wa_istore_n (lv' := [(2, .int ((adA 0 (fMk S b) k) + 0)), (3, .int (nI k)), (0, .ref 2), (1, .int (nI b))]) F dX6_onMarket_43 (i := 2) rfl (by decide) rfl ?_
            refine wa_iinc (v := (nI (k + 1))) (j := 1) (lv' := [(3, .int (nI (k + 1))), (2, .int ((adA 0 (fMk S b) k) + 0)), (0, .ref 2), (1, .int (nI b))]) F dX6_onMarket_44 rfl ((nI_succ k).symm) (by decide) rfl ?_
            refine wa_goto (tgt := 4) F dX6_onMarket_47 (by decide) ?_
            have ea2 : ((adA 0 (fMk S b) k) + 0) = (adA 0 (fMk S b) (k + 1)) := by simp [adA, fMk, c20, c29]
            refine wa_lv (lv' := [(3, .int (nI (k + 1))), (2, .int (adA 0 (fMk S b) (k + 1))), (0, .ref 2), (1, .int (nI b))]) [0, 1, 2, 3] (by rw [← ea2]; rfl) ?_
            exact ih_k (k + 1) (by omega) (by omega)
          · skip
            refine wa_aload_n F dX6_onMarket_32 (i := 0) rfl 2 rfl ?_
            refine wa_getf (v := .ref 130) F LY_X6 (hm_m (S := S)) 30 (by decide) fl_X6_80 rfl dX6_onMarket_33 ?_
            refine wa_iload_n F dX6_onMarket_36 (i := 3) rfl 0 rfl ?_
            refine wa_iald (f := S 30) F 0 rfl (hm_30 (S := S)) k rfl (by omega) (by decide) dX6_onMarket_37 ?_
            refine wa_goto (tgt := 42) F dX6_onMarket_38 (by decide) ?_
            refine wa_iadd F dX6_onMarket_42 ?_
            refine wa_istore_n (lv' := [(2, .int ((adA 0 (fMk S b) k) + (S 30 k))), (3, .int (nI k)), (0, .ref 2), (1, .int (nI b))]) F dX6_onMarket_43 (i := 2) rfl (by decide) rfl ?_
            refine wa_iinc (v := (nI (k + 1))) (j := 1) (lv' := [(3, .int (nI (k + 1))), (2, .int ((adA 0 (fMk S b) k) + (S 30 k))), (0, .ref 2), (1, .int (nI b))]) F dX6_onMarket_44 rfl ((nI_succ k).symm) (by decide) rfl ?_
            refine wa_goto (tgt := 4) F dX6_onMarket_47 (by decide) ?_
            have ea3 : ((adA 0 (fMk S b) k) + (S 30 k)) = (adA 0 (fMk S b) (k + 1)) := by simp [adA, fMk, c20, c29]
            refine wa_lv (lv' := [(3, .int (nI (k + 1))), (2, .int (adA 0 (fMk S b) (k + 1))), (0, .ref 2), (1, .int (nI b))]) [0, 1, 2, 3] (by rw [← ea3]; rfl) ?_
            exact ih_k (k + 1) (by omega) (by omega)
  exact loop4 ((cnt S 28) + 1) 0 (Nat.zero_le _) (by omega)
set_option maxHeartbeats 2000000 in
set_option maxRecDepth 20000 in
theorem c_X6_arrives {l : Launch} (hst : l.stackTraces = false) (D : va_G) (TC : Nat → ClassId) (H0 : Heap) (ad : Nat → Nat) (X S : St) (o : Nat → Int64) (b : Nat) (q w : Int32) (hb : b < 10) (hm : CN S 28 40) (hm3 : cnt S 28 < 40) : CC l D (tysOf TC) H0 yX6_arrives cX6_arrives 4 (some .int) 0 0 0 [.ref 2, .int (nI b), .int q, .int w] ad (hall TC X S o) (PR ad (some (.int (S 28 0))) (hall TC X (uArr b q w S) o)) (fun _ => False) := by
  refine cc_intro hst (by decide +kernel) (Nat.le_of_ble_eq_true rfl) ?_
  intro p e s m args below meth c F
  rw [show lv_args 0 [.ref 2, .int (nI b), .int q, .int w] = [(0, .ref 2), (1, .int (nI b)), (2, .int q), (3, .int w)] from rfl]
  refine wa_aload_n F dX6_arrives_0 (i := 0) rfl 0 rfl ?_
  refine wa_getf (v := .ref 129) F LY_X6 (hm_m (S := S)) 29 (by decide) fl_X6_77 rfl dX6_arrives_1 ?_
  refine wa_aload_n F dX6_arrives_4 (i := 0) rfl 0 rfl ?_
  refine wa_getf (v := .int (S 28 0)) F LY_X6 (hm_m (S := S)) 28 (by decide) fl_X6_124 rfl dX6_arrives_5 ?_
  refine wa_iload_n F dX6_arrives_8 (i := 1) rfl 1 rfl ?_
  refine wa_iast F 0 rfl (hm_29 (S := S)) (cnt S 28) hm.1 (by omega) (by decide) dX6_arrives_9 (hu_29 (cnt S 28) (nI b)) ?_
  refine wa_aload_n F dX6_arrives_10 (i := 0) rfl 0 rfl ?_
  refine wa_getf (v := .ref 130) F LY_X6 (hm_m (S := (sU S 29 (cnt S 28) (nI b)))) 30 (by decide) fl_X6_80 rfl dX6_arrives_11 ?_
  refine wa_aload_n F dX6_arrives_14 (i := 0) rfl 0 rfl ?_
  refine wa_getf (v := .int (S 28 0)) F LY_X6 (hm_m (S := (sU S 29 (cnt S 28) (nI b)))) 28 (by decide) fl_X6_124 rfl dX6_arrives_15 ?_
  refine wa_iload_n F dX6_arrives_18 (i := 2) rfl 2 rfl ?_
  refine wa_iast F 0 rfl (hm_30 (S := (sU S 29 (cnt S 28) (nI b)))) (cnt S 28) hm.1 (by omega) (by decide) dX6_arrives_19 (hu_30 (cnt S 28) q) ?_
  refine wa_aload_n F dX6_arrives_20 (i := 0) rfl 0 rfl ?_
  refine wa_getf (v := .ref 131) F LY_X6 (hm_m (S := (sU (sU S 29 (cnt S 28) (nI b)) 30 (cnt S 28) q))) 31 (by decide) fl_X6_83 rfl dX6_arrives_21 ?_
  refine wa_aload_n F dX6_arrives_24 (i := 0) rfl 0 rfl ?_
  refine wa_getf (v := .int (S 28 0)) F LY_X6 (hm_m (S := (sU (sU S 29 (cnt S 28) (nI b)) 30 (cnt S 28) q))) 28 (by decide) fl_X6_124 rfl dX6_arrives_25 ?_
  refine wa_aload_n F dX6_arrives_28 (i := 0) rfl 0 rfl ?_
  refine wa_getf (v := .int (S 1 0)) F LY_X6 (hm_m (S := (sU (sU S 29 (cnt S 28) (nI b)) 30 (cnt S 28) q))) 1 (by decide) fl_X6_142 rfl dX6_arrives_29 ?_
  refine wa_iast F 0 rfl (hm_31 (S := (sU (sU S 29 (cnt S 28) (nI b)) 30 (cnt S 28) q))) (cnt S 28) hm.1 (by omega) (by decide) dX6_arrives_32 (hu_31 (cnt S 28) (S 1 0)) ?_
  refine wa_aload_n F dX6_arrives_33 (i := 0) rfl 0 rfl ?_
  refine wa_getf (v := .ref 132) F LY_X6 (hm_m (S := (sU (sU (sU S 29 (cnt S 28) (nI b)) 30 (cnt S 28) q) 31 (cnt S 28) (S 1 0)))) 32 (by decide) fl_X6_86 rfl dX6_arrives_34 ?_
  refine wa_aload_n F dX6_arrives_37 (i := 0) rfl 0 rfl ?_
  refine wa_getf (v := .int (S 28 0)) F LY_X6 (hm_m (S := (sU (sU (sU S 29 (cnt S 28) (nI b)) 30 (cnt S 28) q) 31 (cnt S 28) (S 1 0)))) 28 (by decide) fl_X6_124 rfl dX6_arrives_38 ?_
  refine wa_aload_n F dX6_arrives_41 (i := 0) rfl 0 rfl ?_
  refine wa_getf (v := .ref 115) F LY_X6 (hm_m (S := (sU (sU (sU S 29 (cnt S 28) (nI b)) 30 (cnt S 28) q) 31 (cnt S 28) (S 1 0)))) 15 (by decide) fl_X6_41 rfl dX6_arrives_42 ?_
  refine wa_iload_n F dX6_arrives_45 (i := 1) rfl 1 rfl ?_
  refine wa_iald (f := S 15) F 0 rfl (hm_15 (S := (sU (sU (sU S 29 (cnt S 28) (nI b)) 30 (cnt S 28) q) 31 (cnt S 28) (S 1 0)))) b rfl (by omega) (by decide) dX6_arrives_46 ?_
  refine wa_iast F 0 rfl (hm_32 (S := (sU (sU (sU S 29 (cnt S 28) (nI b)) 30 (cnt S 28) q) 31 (cnt S 28) (S 1 0)))) (cnt S 28) hm.1 (by omega) (by decide) dX6_arrives_47 (hu_32 (cnt S 28) (S 15 b)) ?_
  refine wa_aload_n F dX6_arrives_48 (i := 0) rfl 0 rfl ?_
  refine wa_getf (v := .ref 133) F LY_X6 (hm_m (S := (sU (sU (sU (sU S 29 (cnt S 28) (nI b)) 30 (cnt S 28) q) 31 (cnt S 28) (S 1 0)) 32 (cnt S 28) (S 15 b)))) 33 (by decide) fl_X6_89 rfl dX6_arrives_49 ?_
  refine wa_aload_n F dX6_arrives_52 (i := 0) rfl 0 rfl ?_
  refine wa_getf (v := .int (S 28 0)) F LY_X6 (hm_m (S := (sU (sU (sU (sU S 29 (cnt S 28) (nI b)) 30 (cnt S 28) q) 31 (cnt S 28) (S 1 0)) 32 (cnt S 28) (S 15 b)))) 28 (by decide) fl_X6_124 rfl dX6_arrives_53 ?_
  refine wa_iload_n F dX6_arrives_56 (i := 3) rfl 3 rfl ?_
  refine wa_iast F 0 rfl (hm_33 (S := (sU (sU (sU (sU S 29 (cnt S 28) (nI b)) 30 (cnt S 28) q) 31 (cnt S 28) (S 1 0)) 32 (cnt S 28) (S 15 b)))) (cnt S 28) hm.1 (by omega) (by decide) dX6_arrives_57 (hu_33 (cnt S 28) w) ?_
  refine wa_aload_n F dX6_arrives_58 (i := 0) rfl 0 rfl ?_
  refine wa_getf (v := .ref 135) F LY_X6 (hm_m (S := (sU (sU (sU (sU (sU S 29 (cnt S 28) (nI b)) 30 (cnt S 28) q) 31 (cnt S 28) (S 1 0)) 32 (cnt S 28) (S 15 b)) 33 (cnt S 28) w))) 35 (by decide) fl_X6_95 rfl dX6_arrives_59 ?_
  refine wa_aload_n F dX6_arrives_62 (i := 0) rfl 0 rfl ?_
  refine wa_getf (v := .int (S 28 0)) F LY_X6 (hm_m (S := (sU (sU (sU (sU (sU S 29 (cnt S 28) (nI b)) 30 (cnt S 28) q) 31 (cnt S 28) (S 1 0)) 32 (cnt S 28) (S 15 b)) 33 (cnt S 28) w))) 28 (by decide) fl_X6_124 rfl dX6_arrives_63 ?_
  refine wa_iconst (v := (-1)) F dX6_arrives_66 (by decide) ?_
  refine wa_iast F 0 rfl (hm_35 (S := (sU (sU (sU (sU (sU S 29 (cnt S 28) (nI b)) 30 (cnt S 28) q) 31 (cnt S 28) (S 1 0)) 32 (cnt S 28) (S 15 b)) 33 (cnt S 28) w))) (cnt S 28) hm.1 (by omega) (by decide) dX6_arrives_67 (hu_35 (cnt S 28) (-1)) ?_
  refine wa_aload_n F dX6_arrives_68 (i := 0) rfl 0 rfl ?_
  refine wa_dup F dX6_arrives_69 rfl ?_
  refine wa_getf (v := .int (S 28 0)) F LY_X6 (hm_m (S := (sU (sU (sU (sU (sU (sU S 29 (cnt S 28) (nI b)) 30 (cnt S 28) q) 31 (cnt S 28) (S 1 0)) 32 (cnt S 28) (S 15 b)) 33 (cnt S 28) w) 35 (cnt S 28) (-1)))) 28 (by decide) fl_X6_124 rfl dX6_arrives_70 ?_
  refine wa_iconst (v := 1) F dX6_arrives_73 (by decide) ?_
  refine wa_iadd F dX6_arrives_74 ?_
  refine wa_putf F LY_X6 (hm_m (S := (sU (sU (sU (sU (sU (sU S 29 (cnt S 28) (nI b)) 30 (cnt S 28) q) 31 (cnt S 28) (S 1 0)) 32 (cnt S 28) (S 15 b)) 33 (cnt S 28) w) 35 (cnt S 28) (-1)))) 28 (by decide) fl_X6_124 rfl rfl rfl (Nat.le_of_ble_eq_true rfl) dX6_arrives_75 (hs_28 ((S 28 0) + 1)) ?_
  refine wa_aload_n F dX6_arrives_78 (i := 0) rfl 0 rfl ?_
  refine wa_getf (v := .int ((sU (sU (sU (sU (sU (sU (sU S 29 (cnt S 28) (nI b)) 30 (cnt S 28) q) 31 (cnt S 28) (S 1 0)) 32 (cnt S 28) (S 15 b)) 33 (cnt S 28) w) 35 (cnt S 28) (-1)) 28 0 ((S 28 0) + 1)) 28 0)) F LY_X6 (hm_m (S := (sU (sU (sU (sU (sU (sU (sU S 29 (cnt S 28) (nI b)) 30 (cnt S 28) q) 31 (cnt S 28) (S 1 0)) 32 (cnt S 28) (S 15 b)) 33 (cnt S 28) w) 35 (cnt S 28) (-1)) 28 0 ((S 28 0) + 1)))) 28 (by decide) fl_X6_124 rfl dX6_arrives_79 ?_
  refine wa_iconst (v := 1) F dX6_arrives_82 (by decide) ?_
  refine wa_isub F dX6_arrives_83 ?_
  refine wa_iret F rfl (Nat.le_of_ble_eq_true rfl) (Nat.le_of_ble_eq_true rfl) dX6_arrives_84 ?_
  exact ⟨congrArg (fun z => some (Value.int z)) (by simp [sU, upd, Int32.add_sub_cancel]), rfl, rfl⟩
set_option maxHeartbeats 2000000 in
set_option maxRecDepth 20000 in
theorem c_X6_isAbove {l : Launch} (hst : l.stackTraces = false) (D : va_G) (TC : Nat → ClassId) (H0 : Heap) (ad : Nat → Nat) (X S : St) (o : Nat → Int64) (a b : Nat) (ha : a < 6) (hb : b < 6) (h7 : B01 S 7) (h8 : B01 S 8) : CC l D (tysOf TC) H0 yX6_isAbove cX6_isAbove 6 (some .boolean) 0 0 0 [.ref 2, .int (nI a), .int (nI b)] ad (hall TC X S o) (PR ad (some (.int (uReach a S 8 b))) (hall TC X (uReach a S) o)) (fun _ => False) := by
  refine cc_intro hst (by decide +kernel) (Nat.le_of_ble_eq_true rfl) ?_
  intro p e s m args below meth c F
  rw [show lv_args 0 [.ref 2, .int (nI a), .int (nI b)] = [(0, .ref 2), (1, .int (nI a)), (2, .int (nI b))] from rfl]
  refine wa_iconst (v := 0) F dX6_isAbove_0 (by decide) ?_
  refine wa_istore_n (lv' := [(3, .int 0), (0, .ref 2), (1, .int (nI a)), (2, .int (nI b))]) F dX6_isAbove_1 (i := 3) rfl (by decide) rfl ?_
  have la2 : ∀ (n k0 : Nat), k0 ≤ 6 → 6 - k0 < n → WA D H0 p l e (RM 0 0 0) s m args below meth c 6 (vx_MQ below (QC0 D H0 (PR ad (some (.int (uReach a S 8 b))) (hall TC X (uReach a S) o))) (XC0 D H0 (fun _ => False) ad (hall TC X S o)) args s 0 0 (hA0 H0)) ad (hall TC X (aI S a k0) o) 0 0 2 [(3, .int (nI k0)), (0, .ref 2), (1, .int (nI a)), (2, .int (nI b))] [] := by
    intro n
    induction n with
    | zero => intro k0 h1 h2; omega
    | succ n ih_k0 =>
      intro k0 hk_k0 hn_k0
      refine wa_iload_n F dX6_isAbove_2 (i := 3) rfl 0 rfl ?_
      refine wa_bipush (v := 6) F dX6_isAbove_3 (by decide) ?_
      refine wa_icmp_ge (tgt := 31) F dX6_isAbove_5 (by decide) (fun c5 => ?_) (fun c5 => ?_)
      · skip
        have he_k0 : k0 = 6 := Nat.le_antisymm hk_k0 (nle_k rfl (by omega) (by omega) c5)
        subst he_k0
        refine wa_iconst (v := 0) F dX6_isAbove_31 (by decide) ?_
        refine wa_istore_n (lv' := [(3, .int 0), (0, .ref 2), (1, .int (nI a)), (2, .int (nI b))]) F dX6_isAbove_32 (i := 3) rfl (by decide) rfl ?_
        have lr33 : ∀ (n r : Nat), r ≤ 6 → 6 - r < n → WA D H0 p l e (RM 0 0 0) s m args below meth c 6 (vx_MQ below (QC0 D H0 (PR ad (some (.int (uReach a S 8 b))) (hall TC X (uReach a S) o))) (XC0 D H0 (fun _ => False) ad (hall TC X S o)) args s 0 0 (hA0 H0)) ad (hall TC X (rL (aI S a 6) r) o) 0 0 33 [(3, .int (nI r)), (0, .ref 2), (1, .int (nI a)), (2, .int (nI b))] [] := by
          intro n
          induction n with
          | zero => intro r h1 h2; omega
          | succ n ih_r =>
            intro r hk_r hn_r
            refine wa_iload_n F dX6_isAbove_33 (i := 3) rfl 0 rfl ?_
            refine wa_bipush (v := 6) F dX6_isAbove_34 (by decide) ?_
            refine wa_icmp_ge (tgt := 125) F dX6_isAbove_36 (by decide) (fun c36 => ?_) (fun c36 => ?_)
            · skip
              have he_r : r = 6 := Nat.le_antisymm hk_r (nle_k rfl (by omega) (by omega) c36)
              subst he_r
              refine wa_aload_n F dX6_isAbove_125 (i := 0) rfl 1 rfl ?_
              refine wa_getf (v := .ref 108) F LY_X6 (hm_m (S := (rL (aI S a 6) 6))) 8 (by decide) fl_X6_26 rfl dX6_isAbove_126 ?_
              refine wa_iload_n F dX6_isAbove_129 (i := 2) rfl 3 rfl ?_
              refine wa_zald (f := (rL (aI S a 6) 6) 8) F 2 rfl (hm_8 (S := (rL (aI S a 6) 6))) b rfl (by omega) (by decide) dX6_isAbove_130 ?_
              refine wa_iret F (nar01 (B01.rL (B01.aI h7 h8 a 6) 6 b)) (Nat.le_of_ble_eq_true rfl) (Nat.le_of_ble_eq_true rfl) dX6_isAbove_131 ?_
              exact ⟨rfl, rfl, rfl⟩
            · skip
              have hl_r : r < 6 := knle rfl (by omega) (by omega) c36
              refine wa_iconst (v := 0) F dX6_isAbove_39 (by decide) ?_
              refine wa_istore (lv' := [(4, .int 0), (3, .int (nI r)), (0, .ref 2), (1, .int (nI a)), (2, .int (nI b))]) F dX6_isAbove_40 (by decide) rfl ?_
              have lk42 : ∀ (n k : Nat), k ≤ 6 → 6 - k < n → WA D H0 p l e (RM 0 0 0) s m args below meth c 6 (vx_MQ below (QC0 D H0 (PR ad (some (.int (uReach a S 8 b))) (hall TC X (uReach a S) o))) (XC0 D H0 (fun _ => False) ad (hall TC X S o)) args s 0 0 (hA0 H0)) ad (hall TC X (kL (rL (aI S a 6) r) k) o) 0 0 42 [(4, .int (nI k)), (3, .int (nI r)), (0, .ref 2), (1, .int (nI a)), (2, .int (nI b))] [] := by
                intro n
                induction n with
                | zero => intro k h1 h2; omega
                | succ n ih_k =>
                  intro k hk_k hn_k
                  refine wa_iload F dX6_isAbove_42 0 rfl ?_
                  refine wa_bipush (v := 6) F dX6_isAbove_44 (by decide) ?_
                  refine wa_icmp_ge (tgt := 119) F dX6_isAbove_46 (by decide) (fun c46 => ?_) (fun c46 => ?_)
                  · skip
                    have he_k : k = 6 := Nat.le_antisymm hk_k (nle_k rfl (by omega) (by omega) c46)
                    subst he_k
                    refine wa_iinc (v := (nI (r + 1))) (j := 1) (lv' := [(3, .int (nI (r + 1))), (4, .int (nI 6)), (0, .ref 2), (1, .int (nI a)), (2, .int (nI b))]) F dX6_isAbove_119 rfl ((nI_succ r).symm) (by decide) rfl ?_
                    refine wa_goto (tgt := 33) F dX6_isAbove_122 (by decide) ?_
                    refine wa_lv (lv' := [(3, .int (nI (r + 1))), (0, .ref 2), (1, .int (nI a)), (2, .int (nI b))]) [0, 2, 3, 4] rfl ?_
                    rw [← rL_s]
                    exact ih_r (r + 1) (by omega) (by omega)
                  · skip
                    have hl_k : k < 6 := knle rfl (by omega) (by omega) c46
                    refine wa_iconst (v := 0) F dX6_isAbove_49 (by decide) ?_
                    refine wa_istore (lv' := [(5, .int 0), (4, .int (nI k)), (3, .int (nI r)), (0, .ref 2), (1, .int (nI a)), (2, .int (nI b))]) F dX6_isAbove_50 (by decide) rfl ?_
                    have lj52 : ∀ (n j : Nat), j ≤ 6 → 6 - j < n → WA D H0 p l e (RM 0 0 0) s m args below meth c 6 (vx_MQ below (QC0 D H0 (PR ad (some (.int (uReach a S 8 b))) (hall TC X (uReach a S) o))) (XC0 D H0 (fun _ => False) ad (hall TC X S o)) args s 0 0 (hA0 H0)) ad (hall TC X (jL (kL (rL (aI S a 6) r) k) k j) o) 0 0 52 [(5, .int (nI j)), (4, .int (nI k)), (3, .int (nI r)), (0, .ref 2), (1, .int (nI a)), (2, .int (nI b))] [] := by
                      intro n
                      induction n with
                      | zero => intro j h1 h2; omega
                      | succ n ih_j =>
                        intro j hk_j hn_j
                        refine wa_iload F dX6_isAbove_52 0 rfl ?_
                        refine wa_bipush (v := 6) F dX6_isAbove_54 (by decide) ?_
                        refine wa_icmp_ge (tgt := 113) F dX6_isAbove_56 (by decide) (fun c56 => ?_) (fun c56 => ?_)
                        · skip
                          have he_j : j = 6 := Nat.le_antisymm hk_j (nle_k rfl (by omega) (by omega) c56)
                          subst he_j
                          refine wa_iinc (v := (nI (k + 1))) (j := 1) (lv' := [(4, .int (nI (k + 1))), (5, .int (nI 6)), (3, .int (nI r)), (0, .ref 2), (1, .int (nI a)), (2, .int (nI b))]) F dX6_isAbove_113 rfl ((nI_succ k).symm) (by decide) rfl ?_
                          refine wa_goto (tgt := 42) F dX6_isAbove_116 (by decide) ?_
                          refine wa_lv (lv' := [(4, .int (nI (k + 1))), (3, .int (nI r)), (0, .ref 2), (1, .int (nI a)), (2, .int (nI b))]) [0, 2, 3, 4, 5] rfl ?_
                          rw [← kL_s]
                          exact ih_k (k + 1) (by omega) (by omega)
                        · skip
                          have hl_j : j < 6 := knle rfl (by omega) (by omega) c56
                          refine wa_aload_n F dX6_isAbove_59 (i := 0) rfl 3 rfl ?_
                          refine wa_getf (v := .ref 108) F LY_X6 (hm_m (S := (jL (kL (rL (aI S a 6) r) k) k j))) 8 (by decide) fl_X6_26 rfl dX6_isAbove_60 ?_
                          refine wa_iload F dX6_isAbove_63 0 rfl ?_
                          refine wa_aload_n F dX6_isAbove_65 (i := 0) rfl 3 rfl ?_
                          refine wa_getf (v := .ref 108) F LY_X6 (hm_m (S := (jL (kL (rL (aI S a 6) r) k) k j))) 8 (by decide) fl_X6_26 rfl dX6_isAbove_66 ?_
                          refine wa_iload F dX6_isAbove_69 0 rfl ?_
                          refine wa_zald (f := (jL (kL (rL (aI S a 6) r) k) k j) 8) F 2 rfl (hm_8 (S := (jL (kL (rL (aI S a 6) r) k) k j))) j rfl (by omega) (by decide) dX6_isAbove_71 ?_
                          refine wa_if_ne (tgt := 101) F dX6_isAbove_72 (by decide) (fun c72 => ?_) (fun c72 => ?_)
                          · skip
                            refine wa_iconst (v := 1) F dX6_isAbove_101 (by decide) ?_
                            refine wa_goto (tgt := 106) F dX6_isAbove_102 (by decide) ?_
                            refine wa_zast F 2 rfl (hm_8 (S := (jL (kL (rL (aI S a 6) r) k) k j))) j rfl (by omega) (by decide) rfl dX6_isAbove_106 (hu_8 j 1) ?_
                            refine wa_iinc (v := (nI (j + 1))) (j := 0) (lv' := [(5, .int (nI (j + 1))), (4, .int (nI k)), (3, .int (nI r)), (0, .ref 2), (1, .int (nI a)), (2, .int (nI b))]) F dX6_isAbove_107 rfl ((nI_succ j).symm) (by decide) rfl ?_
                            refine wa_goto (tgt := 52) F dX6_isAbove_110 (by decide) ?_
                            refine wa_lv (lv' := [(5, .int (nI (j + 1))), (4, .int (nI k)), (3, .int (nI r)), (0, .ref 2), (1, .int (nI a)), (2, .int (nI b))]) [0, 1, 2, 3, 4, 5] rfl ?_
                            rw [show sU (jL (kL (rL (aI S a 6) r) k) k j) 8 j 1 = jL (kL (rL (aI S a 6) r) k) k (j + 1) from by show _ = sU _ 8 j (bV _ k j); rw [show bV (jL (kL (rL (aI S a 6) r) k) k j) k j = 1 from by simp [bV, bI, c72]]]
                            exact ih_j (j + 1) (by omega) (by omega)
                          · skip
                            refine wa_aload_n F dX6_isAbove_75 (i := 0) rfl 3 rfl ?_
                            refine wa_getf (v := .ref 108) F LY_X6 (hm_m (S := (jL (kL (rL (aI S a 6) r) k) k j))) 8 (by decide) fl_X6_26 rfl dX6_isAbove_76 ?_
                            refine wa_iload F dX6_isAbove_79 1 rfl ?_
                            refine wa_zald (f := (jL (kL (rL (aI S a 6) r) k) k j) 8) F 2 rfl (hm_8 (S := (jL (kL (rL (aI S a 6) r) k) k j))) k rfl (by omega) (by decide) dX6_isAbove_81 ?_
                            refine wa_if_eq (tgt := 105) F dX6_isAbove_82 (by decide) (fun c82 => ?_) (fun c82 => ?_)
                            · skip
                              refine wa_iconst (v := 0) F dX6_isAbove_105 (by decide) ?_
                              refine wa_zast F 2 rfl (hm_8 (S := (jL (kL (rL (aI S a 6) r) k) k j))) j rfl (by omega) (by decide) rfl dX6_isAbove_106 (hu_8 j 0) ?_
                              refine wa_iinc (v := (nI (j + 1))) (j := 0) (lv' := [(5, .int (nI (j + 1))), (4, .int (nI k)), (3, .int (nI r)), (0, .ref 2), (1, .int (nI a)), (2, .int (nI b))]) F dX6_isAbove_107 rfl ((nI_succ j).symm) (by decide) rfl ?_
                              refine wa_goto (tgt := 52) F dX6_isAbove_110 (by decide) ?_
                              refine wa_lv (lv' := [(5, .int (nI (j + 1))), (4, .int (nI k)), (3, .int (nI r)), (0, .ref 2), (1, .int (nI a)), (2, .int (nI b))]) [0, 1, 2, 3, 4, 5] rfl ?_
                              rw [show sU (jL (kL (rL (aI S a 6) r) k) k j) 8 j 0 = jL (kL (rL (aI S a 6) r) k) k (j + 1) from by show _ = sU _ 8 j (bV _ k j); rw [show bV (jL (kL (rL (aI S a 6) r) k) k j) k j = 0 from by simp [bV, bI, c72, c82]]]
                              exact ih_j (j + 1) (by omega) (by omega)
                            · skip
                              refine wa_aload_n F dX6_isAbove_85 (i := 0) rfl 3 rfl ?_
                              refine wa_getf (v := .ref 107) F LY_X6 (hm_m (S := (jL (kL (rL (aI S a 6) r) k) k j))) 7 (by decide) fl_X6_22 rfl dX6_isAbove_86 ?_
                              refine wa_bipush (v := 6) F dX6_isAbove_89 (by decide) ?_
                              refine wa_iload F dX6_isAbove_91 1 rfl ?_
                              refine wa_imulN F dX6_isAbove_93 (a := 6) (b := k) rfl rfl ?_
                              refine wa_iload F dX6_isAbove_94 0 rfl ?_
                              refine wa_iaddN F dX6_isAbove_96 (a := 6 * k) (b := j) rfl rfl ?_
                              refine wa_zald (f := (jL (kL (rL (aI S a 6) r) k) k j) 7) F 2 rfl (hm_7 (S := (jL (kL (rL (aI S a 6) r) k) k j))) ((6 * k) + j) rfl (by omega) (by decide) dX6_isAbove_97 ?_
                              refine wa_if_eq (tgt := 105) F dX6_isAbove_98 (by decide) (fun c98 => ?_) (fun c98 => ?_)
                              · skip
                                refine wa_iconst (v := 0) F dX6_isAbove_105 (by decide) ?_
                                refine wa_zast F 2 rfl (hm_8 (S := (jL (kL (rL (aI S a 6) r) k) k j))) j rfl (by omega) (by decide) rfl dX6_isAbove_106 (hu_8 j 0) ?_
                                refine wa_iinc (v := (nI (j + 1))) (j := 0) (lv' := [(5, .int (nI (j + 1))), (4, .int (nI k)), (3, .int (nI r)), (0, .ref 2), (1, .int (nI a)), (2, .int (nI b))]) F dX6_isAbove_107 rfl ((nI_succ j).symm) (by decide) rfl ?_
                                refine wa_goto (tgt := 52) F dX6_isAbove_110 (by decide) ?_
                                refine wa_lv (lv' := [(5, .int (nI (j + 1))), (4, .int (nI k)), (3, .int (nI r)), (0, .ref 2), (1, .int (nI a)), (2, .int (nI b))]) [0, 1, 2, 3, 4, 5] rfl ?_
                                rw [show sU (jL (kL (rL (aI S a 6) r) k) k j) 8 j 0 = jL (kL (rL (aI S a 6) r) k) k (j + 1) from by show _ = sU _ 8 j (bV _ k j); rw [show bV (jL (kL (rL (aI S a 6) r) k) k j) k j = 0 from by simp [bV, bI, c72, c82, c98]]]
                                exact ih_j (j + 1) (by omega) (by omega)
                              · skip
                                refine wa_iconst (v := 1) F dX6_isAbove_101 (by decide) ?_
                                refine wa_goto (tgt := 106) F dX6_isAbove_102 (by decide) ?_
                                refine wa_zast F 2 rfl (hm_8 (S := (jL (kL (rL (aI S a 6) r) k) k j))) j rfl (by omega) (by decide) rfl dX6_isAbove_106 (hu_8 j 1) ?_
                                refine wa_iinc (v := (nI (j + 1))) (j := 0) (lv' := [(5, .int (nI (j + 1))), (4, .int (nI k)), (3, .int (nI r)), (0, .ref 2), (1, .int (nI a)), (2, .int (nI b))]) F dX6_isAbove_107 rfl ((nI_succ j).symm) (by decide) rfl ?_
                                refine wa_goto (tgt := 52) F dX6_isAbove_110 (by decide) ?_
                                refine wa_lv (lv' := [(5, .int (nI (j + 1))), (4, .int (nI k)), (3, .int (nI r)), (0, .ref 2), (1, .int (nI a)), (2, .int (nI b))]) [0, 1, 2, 3, 4, 5] rfl ?_
                                rw [show sU (jL (kL (rL (aI S a 6) r) k) k j) 8 j 1 = jL (kL (rL (aI S a 6) r) k) k (j + 1) from by show _ = sU _ 8 j (bV _ k j); rw [show bV (jL (kL (rL (aI S a 6) r) k) k j) k j = 1 from by simp [bV, bI, c72, c82, c98]]]
                                exact ih_j (j + 1) (by omega) (by omega)
                    exact lj52 (6 + 1) 0 (Nat.zero_le _) (by omega)
              exact lk42 (6 + 1) 0 (Nat.zero_le _) (by omega)
        exact lr33 (6 + 1) 0 (Nat.zero_le _) (by omega)
      · skip
        have hl_k0 : k0 < 6 := knle rfl (by omega) (by omega) c5
        refine wa_aload_n F dX6_isAbove_8 (i := 0) rfl 1 rfl ?_
        refine wa_getf (v := .ref 108) F LY_X6 (hm_m (S := (aI S a k0))) 8 (by decide) fl_X6_26 rfl dX6_isAbove_9 ?_
        refine wa_iload_n F dX6_isAbove_12 (i := 3) rfl 0 rfl ?_
        refine wa_aload_n F dX6_isAbove_13 (i := 0) rfl 1 rfl ?_
        refine wa_getf (v := .ref 107) F LY_X6 (hm_m (S := (aI S a k0))) 7 (by decide) fl_X6_22 rfl dX6_isAbove_14 ?_
        refine wa_bipush (v := 6) F dX6_isAbove_17 (by decide) ?_
        refine wa_iload_n F dX6_isAbove_19 (i := 1) rfl 2 rfl ?_
        refine wa_imulN F dX6_isAbove_20 (a := 6) (b := a) rfl rfl ?_
        refine wa_iload_n F dX6_isAbove_21 (i := 3) rfl 0 rfl ?_
        refine wa_iaddN F dX6_isAbove_22 (a := 6 * a) (b := k0) rfl rfl ?_
        refine wa_zald (f := (aI S a k0) 7) F 2 rfl (hm_7 (S := (aI S a k0))) ((6 * a) + k0) rfl (by omega) (by decide) dX6_isAbove_23 ?_
        refine wa_zast F 2 rfl (hm_8 (S := (aI S a k0))) k0 rfl (by omega) (by decide) (nar01 (B01.aI7 h7 _ _ _)) dX6_isAbove_24 (hu_8 k0 ((aI S a k0) 7 ((6 * a) + k0))) ?_
        refine wa_iinc (v := (nI (k0 + 1))) (j := 0) (lv' := [(3, .int (nI (k0 + 1))), (0, .ref 2), (1, .int (nI a)), (2, .int (nI b))]) F dX6_isAbove_25 rfl ((nI_succ k0).symm) (by decide) rfl ?_
        refine wa_goto (tgt := 2) F dX6_isAbove_28 (by decide) ?_
        refine wa_lv (lv' := [(3, .int (nI (k0 + 1))), (0, .ref 2), (1, .int (nI a)), (2, .int (nI b))]) [0, 1, 2, 3] rfl ?_
        rw [← aI_s]
        exact ih_k0 (k0 + 1) (by omega) (by omega)
  exact la2 (6 + 1) 0 (Nat.zero_le _) (by omega)
