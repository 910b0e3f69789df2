theorem nle_k {x : Int32} {N k : Nat} (hx : x = nI N) (hN : N < 2 ^ 31) (hk : k < 2 ^ 31) (h : x ≤ nI k) : N ≤ k := by subst hx; exact (nI_leI hN hk).mp h
theorem knle {x : Int32} {N k : Nat} (hx : x = nI N) (hN : N < 2 ^ 31) (hk : k < 2 ^ 31) (h : ¬ x ≤ nI k) : k < N := by subst hx; exact Nat.lt_of_not_le fun z => h ((nI_leI hN hk).mpr z)
set_option maxHeartbeats 2000000 in
set_option maxRecDepth 20000 in
theorem c_X6_in {l : Launch} (hst : l.stackTraces = false) (D : va_G) (tys : List (ClassId × FieldType)) (H0 : Heap) (ad : Nat → Nat) (h : Hp) (v lo hi : Int32) : CC l D tys H0 yX6_in cX6_in 3 (some .boolean) 0 0 0 [.int v, .int lo, .int hi] ad h (PR ad (some (.int (bI (sIn v lo hi)))) h) (fun _ => False) := by
  refine cc_intro hst (by decide +kernel) (Nat.le_of_ble_eq_true rfl) ?_
  intro p e s m args below meth c F
  rw [show lv_args 0 [.int v, .int lo, .int hi] = [(0, .int v), (1, .int lo), (2, .int hi)] from rfl]
  refine wa_iload_n F dX6_in_0 (i := 0) rfl 0 rfl ?_
  refine wa_iload_n F dX6_in_1 (i := 1) rfl 1 rfl ?_
  refine wa_icmp_lt (tgt := 14) F dX6_in_2 (by decide) (fun c2 => ?_) (fun c2 => ?_)
  · skip
    replace c2 := lt_nle c2
    refine wa_iconst (v := 0) F dX6_in_14 (by decide) ?_
    refine wa_iret F rfl (Nat.le_of_ble_eq_true rfl) (Nat.le_of_ble_eq_true rfl) dX6_in_15 ?_
    exact ⟨congrArg (fun z => some (Value.int z)) (by simp [sIn, bI, c2]), rfl, rfl⟩
  · skip
    replace c2 := nlt_le c2
    refine wa_iload_n F dX6_in_5 (i := 0) rfl 0 rfl ?_
    refine wa_iload_n F dX6_in_6 (i := 2) rfl 2 rfl ?_
    refine wa_icmp_gt (tgt := 14) F dX6_in_7 (by decide) (fun c7 => ?_) (fun c7 => ?_)
    · skip
      replace c7 := lt_nle c7
      refine wa_iconst (v := 0) F dX6_in_14 (by decide) ?_
      refine wa_iret F rfl (Nat.le_of_ble_eq_true rfl) (Nat.le_of_ble_eq_true rfl) dX6_in_15 ?_
      exact ⟨congrArg (fun z => some (Value.int z)) (by simp [sIn, bI, c2, c7]), rfl, rfl⟩
    · skip
      replace c7 := nlt_le c7
      refine wa_iconst (v := 1) F dX6_in_10 (by decide) ?_
      refine wa_goto (tgt := 15) F dX6_in_11 (by decide) ?_
      refine wa_iret F rfl (Nat.le_of_ble_eq_true rfl) (Nat.le_of_ble_eq_true rfl) dX6_in_15 ?_
      exact ⟨congrArg (fun z => some (Value.int z)) (by simp [sIn, bI, c2, c7]), rfl, rfl⟩
set_option maxHeartbeats 2000000 in
set_option maxRecDepth 20000 in
theorem c_X6_refused {l : Launch} (hst : l.stackTraces = false) (D : va_G) (TC : Nat → ClassId) (H0 : Heap) (ad : Nat → Nat) (X S : St) (o : Nat → Int64) (w : Int32) : CC l D (tysOf TC) H0 yX6_refused cX6_refused 2 (some .boolean) 0 0 0 [.ref 2, .int w] ad (hall TC X S o) (PR ad (some (.int (bI (decide (¬ w = 0))))) (hall TC X (sU S 0 0 w) o)) (fun _ => False) := by
  refine cc_intro hst (by decide +kernel) (Nat.le_of_ble_eq_true rfl) ?_
  intro p e s m args below meth c F
  rw [show lv_args 0 [.ref 2, .int w] = [(0, .ref 2), (1, .int w)] from rfl]
  refine wa_aload_n F dX6_refused_0 (i := 0) rfl 0 rfl ?_
  refine wa_iload_n F dX6_refused_1 (i := 1) rfl 1 rfl ?_
  refine wa_putf F LY_X6 (hm_m (S := S)) 0 (by decide) fl_X6_104 rfl rfl rfl (Nat.le_of_ble_eq_true rfl) dX6_refused_2 (hs_0 w) ?_
  refine wa_iload_n F dX6_refused_5 (i := 1) rfl 1 rfl ?_
  refine wa_if_eq (tgt := 13) F dX6_refused_6 (by decide) (fun c6 => ?_) (fun c6 => ?_)
  · skip
    refine wa_iconst (v := 0) F dX6_refused_13 (by decide) ?_
    refine wa_iret F rfl (Nat.le_of_ble_eq_true rfl) (Nat.le_of_ble_eq_true rfl) dX6_refused_14 ?_
    exact ⟨congrArg (fun z => some (Value.int z)) (by simp [bI, c6]), rfl, rfl⟩
  · skip
    refine wa_iconst (v := 1) F dX6_refused_9 (by decide) ?_
    refine wa_goto (tgt := 14) F dX6_refused_10 (by decide) ?_
    refine wa_iret F rfl (Nat.le_of_ble_eq_true rfl) (Nat.le_of_ble_eq_true rfl) dX6_refused_14 ?_
    exact ⟨congrArg (fun z => some (Value.int z)) (by simp [bI, c6]), rfl, rfl⟩
set_option maxHeartbeats 2000000 in
set_option maxRecDepth 20000 in
theorem c_X6_isAct {l : Launch} (hst : l.stackTraces = false) (D : va_G) (TC : Nat → ClassId) (H0 : Heap) (ad : Nat → Nat) (X S : St) (o : Nat → Int64) (v : Int32) : CC l D (tysOf TC) H0 yX6_isAct cX6_isAct 2 (some .boolean) 1 0 0 [.ref 2, .int v] ad (hall TC X S o) (PR ad (some (.int (bI (sIn v 0 (S 2 0 - 1))))) (hall TC X S o)) (fun _ => False) := by
  refine cc_intro hst (by decide +kernel) (Nat.le_of_ble_eq_true rfl) ?_
  intro p e s m args below meth c F
  rw [show lv_args 0 [.ref 2, .int v] = [(0, .ref 2), (1, .int v)] from rfl]
  refine wa_iload_n F dX6_isAct_0 (i := 1) rfl 1 rfl ?_
  refine wa_iconst (v := 0) F dX6_isAct_1 (by decide) ?_
  refine wa_aload_n F dX6_isAct_2 (i := 0) rfl 0 rfl ?_
  refine wa_getf (v := .int (S 2 0)) F LY_X6 (hm_m (S := S)) 2 (by decide) fl_X6_108 rfl dX6_isAct_3 ?_
  refine wa_iconst (v := 1) F dX6_isAct_6 (by decide) ?_
  refine wa_isub F dX6_isAct_7 ?_
  refine wa_callS F [] (c_X6_in hst D (tysOf TC) H0 ad (hall TC X S o) v 0 ((S 2 0) - 1)) mw_X6_in ml_X6_111 rfl (Nat.le_of_ble_eq_true rfl) ⟨Nat.le_of_ble_eq_true rfl, Nat.le_of_ble_eq_true rfl⟩ ⟨Nat.le_of_ble_eq_true rfl, Nat.le_of_ble_eq_true rfl⟩ dX6_isAct_8 PR_ag (fun _ z => z.elim) ?_
  rintro _ _ _ ⟨rfl, rfl, rfl⟩
  refine wa_iret F (narrow_bI (sIn v 0 ((S 2 0) - 1))) (Nat.le_of_ble_eq_true rfl) (Nat.le_of_ble_eq_true rfl) dX6_isAct_11 ?_
  exact ⟨rfl, rfl, rfl⟩
set_option maxHeartbeats 2000000 in
set_option maxRecDepth 20000 in
theorem c_X6_isStandard {l : Launch} (hst : l.stackTraces = false) (D : va_G) (TC : Nat → ClassId) (H0 : Heap) (ad : Nat → Nat) (X S : St) (o : Nat → Int64) (v : Int32) : CC l D (tysOf TC) H0 yX6_isStandard cX6_isStandard 2 (some .boolean) 1 0 0 [.ref 2, .int v] ad (hall TC X S o) (PR ad (some (.int (bI (sIn v 0 (S 9 0 - 1))))) (hall TC X S o)) (fun _ => False) := by
  refine cc_intro hst (by decide +kernel) (Nat.le_of_ble_eq_true rfl) ?_
  intro p e s m args below meth c F
  rw [show lv_args 0 [.ref 2, .int v] = [(0, .ref 2), (1, .int v)] from rfl]
  refine wa_iload_n F dX6_isStandard_0 (i := 1) rfl 1 rfl ?_
  refine wa_iconst (v := 0) F dX6_isStandard_1 (by decide) ?_
  refine wa_aload_n F dX6_isStandard_2 (i := 0) rfl 0 rfl ?_
  refine wa_getf (v := .int (S 9 0)) F LY_X6 (hm_m (S := S)) 9 (by decide) fl_X6_115 rfl dX6_isStandard_3 ?_
  refine wa_iconst (v := 1) F dX6_isStandard_6 (by decide) ?_
  refine wa_isub F dX6_isStandard_7 ?_
  refine wa_callS F [] (c_X6_in hst D (tysOf TC) H0 ad (hall TC X S o) v 0 ((S 9 0) - 1)) mw_X6_in ml_X6_111 rfl (Nat.le_of_ble_eq_true rfl) ⟨Nat.le_of_ble_eq_true rfl, Nat.le_of_ble_eq_true rfl⟩ ⟨Nat.le_of_ble_eq_true rfl, Nat.le_of_ble_eq_true rfl⟩ dX6_isStandard_8 PR_ag (fun _ z => z.elim) ?_
  rintro _ _ _ ⟨rfl, rfl, rfl⟩
  refine wa_iret F (narrow_bI (sIn v 0 ((S 9 0) - 1))) (Nat.le_of_ble_eq_true rfl) (Nat.le_of_ble_eq_true rfl) dX6_isStandard_11 ?_
  exact ⟨rfl, rfl, rfl⟩
set_option maxHeartbeats 2000000 in
set_option maxRecDepth 20000 in
theorem c_X6_isProduct {l : Launch} (hst : l.stackTraces = false) (D : va_G) (TC : Nat → ClassId) (H0 : Heap) (ad : Nat → Nat) (X S : St) (o : Nat → Int64) (v : Int32) : CC l D (tysOf TC) H0 yX6_isProduct cX6_isProduct 2 (some .boolean) 1 0 0 [.ref 2, .int v] ad (hall TC X S o) (PR ad (some (.int (bI (sIn v 0 (S 13 0 - 1))))) (hall TC X S o)) (fun _ => False) := by
  refine cc_intro hst (by decide +kernel) (Nat.le_of_ble_eq_true rfl) ?_
  intro p e s m args below meth c F
  rw [show lv_args 0 [.ref 2, .int v] = [(0, .ref 2), (1, .int v)] from rfl]
  refine wa_iload_n F dX6_isProduct_0 (i := 1) rfl 1 rfl ?_
  refine wa_iconst (v := 0) F dX6_isProduct_1 (by decide) ?_
  refine wa_aload_n F dX6_isProduct_2 (i := 0) rfl 0 rfl ?_
  refine wa_getf (v := .int (S 13 0)) F LY_X6 (hm_m (S := S)) 13 (by decide) fl_X6_118 rfl dX6_isProduct_3 ?_
  refine wa_iconst (v := 1) F dX6_isProduct_6 (by decide) ?_
  refine wa_isub F dX6_isProduct_7 ?_
  refine wa_callS F [] (c_X6_in hst D (tysOf TC) H0 ad (hall TC X S o) v 0 ((S 13 0) - 1)) mw_X6_in ml_X6_111 rfl (Nat.le_of_ble_eq_true rfl) ⟨Nat.le_of_ble_eq_true rfl, Nat.le_of_ble_eq_true rfl⟩ ⟨Nat.le_of_ble_eq_true rfl, Nat.le_of_ble_eq_true rfl⟩ dX6_isProduct_8 PR_ag (fun _ z => z.elim) ?_
  rintro _ _ _ ⟨rfl, rfl, rfl⟩
  refine wa_iret F (narrow_bI (sIn v 0 ((S 13 0) - 1))) (Nat.le_of_ble_eq_true rfl) (Nat.le_of_ble_eq_true rfl) dX6_isProduct_11 ?_
  exact ⟨rfl, rfl, rfl⟩
set_option maxHeartbeats 2000000 in
set_option maxRecDepth 20000 in
theorem c_X6_isBody {l : Launch} (hst : l.stackTraces = false) (D : va_G) (TC : Nat → ClassId) (H0 : Heap) (ad : Nat → Nat) (X S : St) (o : Nat → Int64) (v : Int32) : CC l D (tysOf TC) H0 yX6_isBody cX6_isBody 2 (some .boolean) 1 0 0 [.ref 2, .int v] ad (hall TC X S o) (PR ad (some (.int (bI (sIn v 0 (S 25 0 - 1))))) (hall TC X S o)) (fun _ => False) := by
  refine cc_intro hst (by decide +kernel) (Nat.le_of_ble_eq_true rfl) ?_
  intro p e s m args below meth c F
  rw [show lv_args 0 [.ref 2, .int v] = [(0, .ref 2), (1, .int v)] from rfl]
  refine wa_iload_n F dX6_isBody_0 (i := 1) rfl 1 rfl ?_
  refine wa_iconst (v := 0) F dX6_isBody_1 (by decide) ?_
  refine wa_aload_n F dX6_isBody_2 (i := 0) rfl 0 rfl ?_
  refine wa_getf (v := .int (S 25 0)) F LY_X6 (hm_m (S := S)) 25 (by decide) fl_X6_121 rfl dX6_isBody_3 ?_
  refine wa_iconst (v := 1) F dX6_isBody_6 (by decide) ?_
  refine wa_isub F dX6_isBody_7 ?_
  refine wa_callS F [] (c_X6_in hst D (tysOf TC) H0 ad (hall TC X S o) v 0 ((S 25 0) - 1)) mw_X6_in ml_X6_111 rfl (Nat.le_of_ble_eq_true rfl) ⟨Nat.le_of_ble_eq_true rfl, Nat.le_of_ble_eq_true rfl⟩ ⟨Nat.le_of_ble_eq_true rfl, Nat.le_of_ble_eq_true rfl⟩ dX6_isBody_8 PR_ag (fun _ z => z.elim) ?_
  rintro _ _ _ ⟨rfl, rfl, rfl⟩
  refine wa_iret F (narrow_bI (sIn v 0 ((S 25 0) - 1))) (Nat.le_of_ble_eq_true rfl) (Nat.le_of_ble_eq_true rfl) dX6_isBody_11 ?_
  exact ⟨rfl, rfl, rfl⟩
set_option maxHeartbeats 2000000 in
set_option maxRecDepth 20000 in
theorem c_X6_isBatch {l : Launch} (hst : l.stackTraces = false) (D : va_G) (TC : Nat → ClassId) (H0 : Heap) (ad : Nat → Nat) (X S : St) (o : Nat → Int64) (v : Int32) : CC l D (tysOf TC) H0 yX6_isBatch cX6_isBatch 2 (some .boolean) 1 0 0 [.ref 2, .int v] ad (hall TC X S o) (PR ad (some (.int (bI (sIn v 0 (S 28 0 - 1))))) (hall TC X S o)) (fun _ => False) := by
  refine cc_intro hst (by decide +kernel) (Nat.le_of_ble_eq_true rfl) ?_
  intro p e s m args below meth c F
  rw [show lv_args 0 [.ref 2, .int v] = [(0, .ref 2), (1, .int v)] from rfl]
  refine wa_iload_n F dX6_isBatch_0 (i := 1) rfl 1 rfl ?_
  refine wa_iconst (v := 0) F dX6_isBatch_1 (by decide) ?_
  refine wa_aload_n F dX6_isBatch_2 (i := 0) rfl 0 rfl ?_
  refine wa_getf (v := .int (S 28 0)) F LY_X6 (hm_m (S := S)) 28 (by decide) fl_X6_124 rfl dX6_isBatch_3 ?_
  refine wa_iconst (v := 1) F dX6_isBatch_6 (by decide) ?_
  refine wa_isub F dX6_isBatch_7 ?_
  refine wa_callS F [] (c_X6_in hst D (tysOf TC) H0 ad (hall TC X S o) v 0 ((S 28 0) - 1)) mw_X6_in ml_X6_111 rfl (Nat.le_of_ble_eq_true rfl) ⟨Nat.le_of_ble_eq_true rfl, Nat.le_of_ble_eq_true rfl⟩ ⟨Nat.le_of_ble_eq_true rfl, Nat.le_of_ble_eq_true rfl⟩ dX6_isBatch_8 PR_ag (fun _ z => z.elim) ?_
  rintro _ _ _ ⟨rfl, rfl, rfl⟩
  refine wa_iret F (narrow_bI (sIn v 0 ((S 28 0) - 1))) (Nat.le_of_ble_eq_true rfl) (Nat.le_of_ble_eq_true rfl) dX6_isBatch_11 ?_
  exact ⟨rfl, rfl, rfl⟩
set_option maxHeartbeats 2000000 in
set_option maxRecDepth 20000 in
theorem c_X6_bits {l : Launch} (hst : l.stackTraces = false) (D : va_G) (tys : List (ClassId × FieldType)) (H0 : Heap) (ad : Nat → Nat) (h : Hp) (v : Int32) : CC l D tys H0 yX6_bits cX6_bits 3 (some .int) 0 0 0 [.int v] ad h (PR ad (some (.int (sBits v))) h) (fun _ => False) := by
  refine cc_intro hst (by decide +kernel) (Nat.le_of_ble_eq_true rfl) ?_
  intro p e s m args below meth c F
  rw [show lv_args 0 [.int v] = [(0, .int v)] from rfl]
  refine wa_iconst (v := 0) F dX6_bits_0 (by decide) ?_
  refine wa_istore_n (lv' := [(1, .int 0), (0, .int v)]) F dX6_bits_1 (i := 1) rfl (by decide) rfl ?_
  refine wa_iconst (v := 0) F dX6_bits_2 (by decide) ?_
  refine wa_istore_n (lv' := [(2, .int 0), (1, .int 0), (0, .int v)]) F dX6_bits_3 (i := 2) rfl (by decide) rfl ?_
  have loop4 : ∀ (n k : Nat), k ≤ 8 → 8 - k < n → WA D H0 p l e (RM 0 0 0) s m args below meth c 3 (vx_MQ below (QC0 D H0 (PR ad (some (.int (sBits v))) h)) (XC0 D H0 (fun _ => False) ad h) args s 0 0 (hA0 H0)) ad h 0 0 4 [(2, .int (nI k)), (1, .int (adA 0 (fBit v) k)), (0, .int v)] [] := by
    intro n
    induction n with
    | zero => intro k h1 h2; omega
    | succ n ih_k =>
      intro k hk_k hn_k
      refine wa_iload_n F dX6_bits_4 (i := 2) rfl 0 rfl ?_
      refine wa_bipush (v := 8) F dX6_bits_5 (by decide) ?_
      refine wa_icmp_ge (tgt := 24) F dX6_bits_7 (by decide) (fun c7 => ?_) (fun c7 => ?_)
      · skip
        have he_k : k = 8 := Nat.le_antisymm hk_k (nle_k rfl (by omega) (by omega) c7)
        subst he_k
        refine wa_iload_n F dX6_bits_24 (i := 1) rfl 1 rfl ?_
        refine wa_iret F rfl (Nat.le_of_ble_eq_true rfl) (Nat.le_of_ble_eq_true rfl) dX6_bits_25 ?_
        exact ⟨rfl, rfl, rfl⟩
      · skip
        have hl_k : k < 8 := knle rfl (by omega) (by omega) c7
        refine wa_iload_n F dX6_bits_10 (i := 1) rfl 1 rfl ?_
        refine wa_iload_n F dX6_bits_11 (i := 0) rfl 2 rfl ?_
        refine wa_iload_n F dX6_bits_12 (i := 2) rfl 0 rfl ?_
        refine wa_ishr F dX6_bits_13 ?_
        refine wa_iconst (v := 1) F dX6_bits_14 (by decide) ?_
        refine wa_iand F dX6_bits_15 ?_
        refine wa_iadd F dX6_bits_16 ?_
        refine wa_istore_n (lv' := [(1, .int ((adA 0 (fBit v) k) + ((v >>> ((nI k) &&& 31)) &&& 1))), (2, .int (nI k)), (0, .int v)]) F dX6_bits_17 (i := 1) rfl (by decide) rfl ?_
        refine wa_iinc (v := (nI (k + 1))) (j := 1) (lv' := [(2, .int (nI (k + 1))), (1, .int ((adA 0 (fBit v) k) + ((v >>> ((nI k) &&& 31)) &&& 1))), (0, .int v)]) F dX6_bits_18 rfl ((nI_succ k).symm) (by decide) rfl ?_
        refine wa_goto (tgt := 4) F dX6_bits_21 (by decide) ?_
        have ea1 : ((adA 0 (fBit v) k) + ((v >>> ((nI k) &&& 31)) &&& 1)) = (adA 0 (fBit v) (k + 1)) := rfl
        refine wa_lv (lv' := [(2, .int (nI (k + 1))), (1, .int (adA 0 (fBit v) (k + 1))), (0, .int v)]) [0, 1, 2] (by rw [← ea1]; rfl) ?_
        exact ih_k (k + 1) (by omega) (by omega)
  exact loop4 (8 + 1) 0 (Nat.zero_le _) (by omega)
set_option maxHeartbeats 2000000 in
set_option maxRecDepth 20000 in
theorem c_X6_isFor {l : Launch} (hst : l.stackTraces = false) (D : va_G) (TC : Nat → ClassId) (H0 : Heap) (ad : Nat → Nat) (X S : St) (o : Nat → Int64) (a b : Nat) (ha : a < 6) (hb : b < 10) : CC l D (tysOf TC) H0 yX6_isFor cX6_isFor 3 (some .boolean) 0 0 0 [.ref 2, .int (nI a), .int (nI b)] ad (hall TC X S o) (PR ad (some (.int (bI (sFor S a b)))) (hall TC X S o)) (fun _ => False) := by
  refine cc_intro hst (by decide +kernel) (Nat.le_of_ble_eq_true rfl) ?_
  intro p e s m args below meth c F
  rw [show lv_args 0 [.ref 2, .int (nI a), .int (nI b)] = [(0, .ref 2), (1, .int (nI a)), (2, .int (nI b))] from rfl]
  refine wa_aload_n F dX6_isFor_0 (i := 0) rfl 0 rfl ?_
  refine wa_getf (v := .ref 106) F LY_X6 (hm_m (S := S)) 6 (by decide) fl_X6_19 rfl dX6_isFor_1 ?_
  refine wa_iload_n F dX6_isFor_4 (i := 1) rfl 1 rfl ?_
  refine wa_iald (f := S 6) F 0 rfl (hm_6 (S := S)) a rfl (by omega) (by decide) dX6_isFor_5 ?_
  refine wa_aload_n F dX6_isFor_6 (i := 0) rfl 0 rfl ?_
  refine wa_getf (v := .int (S 1 0)) F LY_X6 (hm_m (S := S)) 1 (by decide) fl_X6_142 rfl dX6_isFor_7 ?_
  refine wa_icmp_gt (tgt := 49) F dX6_isFor_10 (by decide) (fun c10 => ?_) (fun c10 => ?_)
  · skip
    replace c10 := lt_nle c10
    refine wa_iconst (v := 0) F dX6_isFor_49 (by decide) ?_
    refine wa_iret F rfl (Nat.le_of_ble_eq_true rfl) (Nat.le_of_ble_eq_true rfl) dX6_isFor_50 ?_
    exact ⟨congrArg (fun z => some (Value.int z)) (by simp [sFor, bI, c10]), rfl, rfl⟩
  · skip
    replace c10 := nlt_le c10
    refine wa_aload_n F dX6_isFor_13 (i := 0) rfl 0 rfl ?_
    refine wa_getf (v := .ref 103) F LY_X6 (hm_m (S := S)) 3 (by decide) fl_X6_7 rfl dX6_isFor_14 ?_
    refine wa_iload_n F dX6_isFor_17 (i := 1) rfl 1 rfl ?_
    refine wa_iald (f := S 3) F 0 rfl (hm_3 (S := S)) a rfl (by omega) (by decide) dX6_isFor_18 ?_
    refine wa_aload_n F dX6_isFor_19 (i := 0) rfl 0 rfl ?_
    refine wa_getf (v := .ref 114) F LY_X6 (hm_m (S := S)) 14 (by decide) fl_X6_38 rfl dX6_isFor_20 ?_
    refine wa_iload_n F dX6_isFor_23 (i := 2) rfl 2 rfl ?_
    refine wa_iald (f := S 14) F 0 rfl (hm_14 (S := S)) b rfl (by omega) (by decide) dX6_isFor_24 ?_
    refine wa_iand F dX6_isFor_25 ?_
    refine wa_if_eq (tgt := 49) F dX6_isFor_26 (by decide) (fun c26 => ?_) (fun c26 => ?_)
    · skip
      refine wa_iconst (v := 0) F dX6_isFor_49 (by decide) ?_
      refine wa_iret F rfl (Nat.le_of_ble_eq_true rfl) (Nat.le_of_ble_eq_true rfl) dX6_isFor_50 ?_
      exact ⟨congrArg (fun z => some (Value.int z)) (by simp [sFor, bI, c10, c26]), rfl, rfl⟩
    · skip
      refine wa_aload_n F dX6_isFor_29 (i := 0) rfl 0 rfl ?_
      refine wa_getf (v := .ref 104) F LY_X6 (hm_m (S := S)) 4 (by decide) fl_X6_13 rfl dX6_isFor_30 ?_
      refine wa_iload_n F dX6_isFor_33 (i := 1) rfl 1 rfl ?_
      refine wa_iald (f := S 4) F 0 rfl (hm_4 (S := S)) a rfl (by omega) (by decide) dX6_isFor_34 ?_
      refine wa_aload_n F dX6_isFor_35 (i := 0) rfl 0 rfl ?_
      refine wa_getf (v := .ref 114) F LY_X6 (hm_m (S := S)) 14 (by decide) fl_X6_38 rfl dX6_isFor_36 ?_
      refine wa_iload_n F dX6_isFor_39 (i := 2) rfl 2 rfl ?_
      refine wa_iald (f := S 14) F 0 rfl (hm_14 (S := S)) b rfl (by omega) (by decide) dX6_isFor_40 ?_
      refine wa_iand F dX6_isFor_41 ?_
      refine wa_if_ne (tgt := 49) F dX6_isFor_42 (by decide) (fun c42 => ?_) (fun c42 => ?_)
      · skip
        refine wa_iconst (v := 0) F dX6_isFor_49 (by decide) ?_
        refine wa_iret F rfl (Nat.le_of_ble_eq_true rfl) (Nat.le_of_ble_eq_true rfl) dX6_isFor_50 ?_
        exact ⟨congrArg (fun z => some (Value.int z)) (by simp [sFor, bI, c10, c26, c42]), rfl, rfl⟩
      · skip
        refine wa_iconst (v := 1) F dX6_isFor_45 (by decide) ?_
        refine wa_goto (tgt := 50) F dX6_isFor_46 (by decide) ?_
        refine wa_iret F rfl (Nat.le_of_ble_eq_true rfl) (Nat.le_of_ble_eq_true rfl) dX6_isFor_50 ?_
        exact ⟨congrArg (fun z => some (Value.int z)) (by simp [sFor, bI, c10, c26, c42]), rfl, rfl⟩
set_option maxHeartbeats 2000000 in
set_option maxRecDepth 20000 in
theorem c_X6_doesApply {l : Launch} (hst : l.stackTraces = false) (D : va_G) (TC : Nat → ClassId) (H0 : Heap) (ad : Nat → Nat) (X S : St) (o : Nat → Int64) (a b : Nat) (ha : a < 6) (hb : b < 10) (hc : CN S 2 6) : CC l D (tysOf TC) H0 yX6_doesApply cX6_doesApply 5 (some .boolean) 1 0 0 [.ref 2, .int (nI a), .int (nI b)] ad (hall TC X S o) (PR ad (some (.int (bI (sApp S a b)))) (hall TC X S o)) (fun _ => False) := by
  refine cc_intro hst (by decide +kernel) (Nat.le_of_ble_eq_true rfl) ?_
  intro p e s m args below meth c F
  rw [show lv_args 0 [.ref 2, .int (nI a), .int (nI b)] = [(0, .ref 2), (1, .int (nI a)), (2, .int (nI b))] from rfl]
  have hc2 := hc.2
  refine wa_aload_n F dX6_doesApply_0 (i := 0) rfl 0 rfl ?_
  refine wa_iload_n F dX6_doesApply_1 (i := 1) rfl 1 rfl ?_
  refine wa_iload_n F dX6_doesApply_2 (i := 2) rfl 2 rfl ?_
  refine wa_callV F [] (c_X6_isFor hst D TC H0 ad X S o a b (by omega) (by omega)) mw_X6_isFor ml_X6_152 hm_m rfl rfl (Nat.le_of_ble_eq_true rfl) ⟨Nat.le_of_ble_eq_true rfl, Nat.le_of_ble_eq_true rfl⟩ ⟨Nat.le_of_ble_eq_true rfl, Nat.le_of_ble_eq_true rfl⟩ dX6_doesApply_3 PR_ag (fun _ z => z.elim) ?_
  rintro _ _ _ ⟨rfl, rfl, rfl⟩
  refine wa_istore_n (lv' := [(3, .int (bI (sFor S a b))), (0, .ref 2), (1, .int (nI a)), (2, .int (nI b))]) F dX6_doesApply_6 (i := 3) rfl (by decide) rfl ?_
  refine wa_iconst (v := 0) F dX6_doesApply_7 (by decide) ?_
  refine wa_istore (lv' := [(4, .int 0), (3, .int (bI (sFor S a b))), (0, .ref 2), (1, .int (nI a)), (2, .int (nI b))]) F dX6_doesApply_8 (by decide) rfl ?_
  have loop10 : ∀ (n k : Nat), k ≤ (cnt S 2) → (cnt S 2) - k < n → WA D H0 p l e (RM 1 0 0) s m args below meth c 5 (vx_MQ below (QC0 D H0 (PR ad (some (.int (bI (sApp S a b)))) (hall TC X S o))) (XC0 D H0 (fun _ => False) ad (hall TC X S o)) args s 0 0 (hA0 H0)) ad (hall TC X S o) 0 0 10 [(4, .int (nI k)), (3, .int (bI (allA (sFor S a b) (pApp S a b) k))), (0, .ref 2), (1, .int (nI a)), (2, .int (nI b))] [] := by
    intro n
    induction n with
    | zero => intro k h1 h2; omega
    | succ n ih_k =>
      intro k hk_k hn_k
      refine wa_iload F dX6_doesApply_10 0 rfl ?_
      refine wa_aload_n F dX6_doesApply_12 (i := 0) rfl 2 rfl ?_
      refine wa_getf (v := .int (S 2 0)) F LY_X6 (hm_m (S := S)) 2 (by decide) fl_X6_108 rfl dX6_doesApply_13 ?_
      refine wa_icmp_ge (tgt := 60) F dX6_doesApply_16 (by decide) (fun c16 => ?_) (fun c16 => ?_)
      · skip
        have he_k : k = (cnt S 2) := Nat.le_antisymm hk_k (nle_k hc.1 (by omega) (by omega) c16)
        subst he_k
        refine wa_iload_n F dX6_doesApply_60 (i := 3) rfl 1 rfl ?_
        refine wa_iret F (narrow_bI (allA (sFor S a b) (pApp S a b) (cnt S 2))) (Nat.le_of_ble_eq_true rfl) (Nat.le_of_ble_eq_true rfl) dX6_doesApply_61 ?_
        exact ⟨rfl, rfl, rfl⟩
      · skip
        have hl_k : k < (cnt S 2) := knle hc.1 (by omega) (by omega) c16
        refine wa_iload_n F dX6_doesApply_19 (i := 3) rfl 1 rfl ?_
        refine wa_if_eq (tgt := 52) F dX6_doesApply_20 (by decide) (fun c20 => ?_) (fun c20 => ?_)
        · skip
          replace c20 : (allA (sFor S a b) (pApp S a b) k) = false := bI_f c20
          refine wa_iconst (v := 0) F dX6_doesApply_52 (by decide) ?_
          refine wa_istore_n (lv' := [(3, .int 0), (4, .int (nI k)), (0, .ref 2), (1, .int (nI a)), (2, .int (nI b))]) F dX6_doesApply_53 (i := 3) rfl (by decide) rfl ?_
          refine wa_iinc (v := (nI (k + 1))) (j := 1) (lv' := [(4, .int (nI (k + 1))), (3, .int 0), (0, .ref 2), (1, .int (nI a)), (2, .int (nI b))]) F dX6_doesApply_54 rfl ((nI_succ k).symm) (by decide) rfl ?_
          refine wa_goto (tgt := 10) F dX6_doesApply_57 (by decide) ?_
          have ea1 : 0 = (bI (allA (sFor S a b) (pApp S a b) (k + 1))) := by simp [allA, pApp, bI, hl_k, c20]
          refine wa_lv (lv' := [(4, .int (nI (k + 1))), (3, .int (bI (allA (sFor S a b) (pApp S a b) (k + 1)))), (0, .ref 2), (1, .int (nI a)), (2, .int (nI b))]) [0, 1, 2, 3, 4] (by rw [← ea1]; rfl) ?_
          exact ih_k (k + 1) (by omega) (by omega)
        · skip
          replace c20 : (allA (sFor S a b) (pApp S a b) k) = true := bI_t c20
          refine wa_aload_n F dX6_doesApply_23 (i := 0) rfl 2 rfl ?_
          refine wa_getf (v := .ref 107) F LY_X6 (hm_m (S := S)) 7 (by decide) fl_X6_22 rfl dX6_doesApply_24 ?_
          refine wa_bipush (v := 6) F dX6_doesApply_27 (by decide) ?_
          refine wa_iload F dX6_doesApply_29 0 rfl ?_
          refine wa_imulN F dX6_doesApply_31 (a := 6) (b := k) rfl rfl ?_
          refine wa_iload_n F dX6_doesApply_32 (i := 1) rfl 3 rfl ?_
          refine wa_iaddN F dX6_doesApply_33 (a := 6 * k) (b := a) rfl rfl ?_
          refine wa_zald (f := S 7) F 2 rfl (hm_7 (S := S)) ((6 * k) + a) rfl (by omega) (by decide) dX6_doesApply_34 ?_
          refine wa_if_eq (tgt := 48) F dX6_doesApply_35 (by decide) (fun c35 => ?_) (fun c35 => ?_)
          · skip
            refine wa_iconst (v := 1) F dX6_doesApply_48 (by decide) ?_
            refine wa_goto (tgt := 53) F dX6_doesApply_49 (by decide) ?_
            refine wa_istore_n (lv' := [(3, .int 1), (4, .int (nI k)), (0, .ref 2), (1, .int (nI a)), (2, .int (nI b))]) F dX6_doesApply_53 (i := 3) rfl (by decide) rfl ?_
            refine wa_iinc (v := (nI (k + 1))) (j := 1) (lv' := [(4, .int (nI (k + 1))), (3, .int 1), (0, .ref 2), (1, .int (nI a)), (2, .int (nI b))]) F dX6_doesApply_54 rfl ((nI_succ k).symm) (by decide) rfl ?_
            refine wa_goto (tgt := 10) F dX6_doesApply_57 (by decide) ?_
            have ea2 : 1 = (bI (allA (sFor S a b) (pApp S a b) (k + 1))) := by simp [allA, pApp, bI, hl_k, c20, c35]
            refine wa_lv (lv' := [(4, .int (nI (k + 1))), (3, .int (bI (allA (sFor S a b) (pApp S a b) (k + 1)))), (0, .ref 2), (1, .int (nI a)), (2, .int (nI b))]) [0, 1, 2, 3, 4] (by rw [← ea2]; rfl) ?_
            exact ih_k (k + 1) (by omega) (by omega)
          · skip
            refine wa_aload_n F dX6_doesApply_38 (i := 0) rfl 2 rfl ?_
            refine wa_iload F dX6_doesApply_39 0 rfl ?_
            refine wa_iload_n F dX6_doesApply_41 (i := 2) rfl 4 rfl ?_
            refine wa_callV F [] (c_X6_isFor hst D TC H0 ad X S o k b (by omega) (by omega)) mw_X6_isFor ml_X6_152 hm_m rfl rfl (Nat.le_of_ble_eq_true rfl) ⟨Nat.le_of_ble_eq_true rfl, Nat.le_of_ble_eq_true rfl⟩ ⟨Nat.le_of_ble_eq_true rfl, Nat.le_of_ble_eq_true rfl⟩ dX6_doesApply_42 PR_ag (fun _ z => z.elim) ?_
            rintro _ _ _ ⟨rfl, rfl, rfl⟩
            refine wa_if_ne (tgt := 52) F dX6_doesApply_45 (by decide) (fun c45 => ?_) (fun c45 => ?_)
            · skip
              replace c45 : (sFor S k b) = true := bI_t c45
              refine wa_iconst (v := 0) F dX6_doesApply_52 (by decide) ?_
              refine wa_istore_n (lv' := [(3, .int 0), (4, .int (nI k)), (0, .ref 2), (1, .int (nI a)), (2, .int (nI b))]) F dX6_doesApply_53 (i := 3) rfl (by decide) rfl ?_
              refine wa_iinc (v := (nI (k + 1))) (j := 1) (lv' := [(4, .int (nI (k + 1))), (3, .int 0), (0, .ref 2), (1, .int (nI a)), (2, .int (nI b))]) F dX6_doesApply_54 rfl ((nI_succ k).symm) (by decide) rfl ?_
              refine wa_goto (tgt := 10) F dX6_doesApply_57 (by decide) ?_
              have ea3 : 0 = (bI (allA (sFor S a b) (pApp S a b) (k + 1))) := by simp [allA, pApp, bI, hl_k, c20, c35, c45]
              refine wa_lv (lv' := [(4, .int (nI (k + 1))), (3, .int (bI (allA (sFor S a b) (pApp S a b) (k + 1)))), (0, .ref 2), (1, .int (nI a)), (2, .int (nI b))]) [0, 1, 2, 3, 4] (by rw [← ea3]; rfl) ?_
              exact ih_k (k + 1) (by omega) (by omega)
            · skip
              replace c45 : (sFor S k b) = false := bI_f c45
              refine wa_iconst (v := 1) F dX6_doesApply_48 (by decide) ?_
              refine wa_goto (tgt := 53) F dX6_doesApply_49 (by decide) ?_
              refine wa_istore_n (lv' := [(3, .int 1), (4, .int (nI k)), (0, .ref 2), (1, .int (nI a)), (2, .int (nI b))]) F dX6_doesApply_53 (i := 3) rfl (by decide) rfl ?_
              refine wa_iinc (v := (nI (k + 1))) (j := 1) (lv' := [(4, .int (nI (k + 1))), (3, .int 1), (0, .ref 2), (1, .int (nI a)), (2, .int (nI b))]) F dX6_doesApply_54 rfl ((nI_succ k).symm) (by decide) rfl ?_
              refine wa_goto (tgt := 10) F dX6_doesApply_57 (by decide) ?_
              have ea4 : 1 = (bI (allA (sFor S a b) (pApp S a b) (k + 1))) := by simp [allA, pApp, bI, hl_k, c20, c35, c45]
              refine wa_lv (lv' := [(4, .int (nI (k + 1))), (3, .int (bI (allA (sFor S a b) (pApp S a b) (k + 1)))), (0, .ref 2), (1, .int (nI a)), (2, .int (nI b))]) [0, 1, 2, 3, 4] (by rw [← ea4]; rfl) ?_
              exact ih_k (k + 1) (by omega) (by omega)
  exact loop10 ((cnt S 2) + 1) 0 (Nat.zero_le _) (by omega)
set_option maxHeartbeats 2000000 in
set_option maxRecDepth 20000 in
theorem c_X6_applying {l : Launch} (hst : l.stackTraces = false) (D : va_G) (TC : Nat → ClassId) (H0 : Heap) (ad : Nat → Nat) (X S : St) (o : Nat → Int64) (b : Nat) (hb : b < 10) (hc : CN S 2 6) : CC l D (tysOf TC) H0 yX6_applying cX6_applying 4 (some .int) 2 0 0 [.ref 2, .int (nI b)] ad (hall TC X S o) (PR ad (some (.int (sAppl S b))) (hall TC X S o)) (fun _ => False) := by
  refine cc_intro hst (by decide +kernel) (Nat.le_of_ble_eq_true rfl) ?_
  intro p e s m args below meth c F
  rw [show lv_args 0 [.ref 2, .int (nI b)] = [(0, .ref 2), (1, .int (nI b))] from rfl]
  have hc2 := hc.2
  refine wa_iconst (v := 0) F dX6_applying_0 (by decide) ?_
  refine wa_istore_n (lv' := [(2, .int 0), (0, .ref 2), (1, .int (nI b))]) F dX6_applying_1 (i := 2) rfl (by decide) rfl ?_
  refine wa_iconst (v := 0) F dX6_applying_2 (by decide) ?_
  refine wa_istore_n (lv' := [(3, .int 0), (2, .int 0), (0, .ref 2), (1, .int (nI b))]) F dX6_applying_3 (i := 3) rfl (by decide) rfl ?_
  have loop4 : ∀ (n k : Nat), k ≤ (cnt S 2) → (cnt S 2) - k < n → WA D H0 p l e (RM 2 0 0) s m args below meth c 4 (vx_MQ below (QC0 D H0 (PR ad (some (.int (sAppl S b))) (hall TC X S o))) (XC0 D H0 (fun _ => False) ad (hall TC X S o)) args s 0 0 (hA0 H0)) ad (hall TC X S o) 0 0 4 [(3, .int (nI k)), (2, .int (orA 0 (fAppl S b) k)), (0, .ref 2), (1, .int (nI b))] [] := by
    intro n
    induction n with
    | zero => intro k h1 h2; omega
    | succ n ih_k =>
      intro k hk_k hn_k
      refine wa_iload_n F dX6_applying_4 (i := 3) rfl 0 rfl ?_
      refine wa_aload_n F dX6_applying_5 (i := 0) rfl 2 rfl ?_
      refine wa_getf (v := .int (S 2 0)) F LY_X6 (hm_m (S := S)) 2 (by decide) fl_X6_108 rfl dX6_applying_6 ?_
      refine wa_icmp_ge (tgt := 37) F dX6_applying_9 (by decide) (fun c9 => ?_) (fun c9 => ?_)
      · skip
        have he_k : k = (cnt S 2) := Nat.le_antisymm hk_k (nle_k hc.1 (by omega) (by omega) c9)
        subst he_k
        refine wa_iload_n F dX6_applying_37 (i := 2) rfl 1 rfl ?_
        refine wa_iret F rfl (Nat.le_of_ble_eq_true rfl) (Nat.le_of_ble_eq_true rfl) dX6_applying_38 ?_
        exact ⟨rfl, rfl, rfl⟩
      · skip
        have hl_k : k < (cnt S 2) := knle hc.1 (by omega) (by omega) c9
        refine wa_iload_n F dX6_applying_12 (i := 2) rfl 1 rfl ?_
        refine wa_aload_n F dX6_applying_13 (i := 0) rfl 2 rfl ?_
        refine wa_iload_n F dX6_applying_14 (i := 3) rfl 0 rfl ?_
        refine wa_iload_n F dX6_applying_15 (i := 1) rfl 3 rfl ?_
        refine wa_callV F [.int (orA 0 (fAppl S b) k)] (c_X6_doesApply hst D TC H0 ad X S o k b (by omega) (by omega) hc) mw_X6_doesApply ml_X6_155 hm_m rfl rfl (Nat.le_of_ble_eq_true rfl) ⟨Nat.le_of_ble_eq_true rfl, Nat.le_of_ble_eq_true rfl⟩ ⟨Nat.le_of_ble_eq_true rfl, Nat.le_of_ble_eq_true rfl⟩ dX6_applying_16 PR_ag (fun _ z => z.elim) ?_
        rintro _ _ _ ⟨rfl, rfl, rfl⟩
        refine wa_if_eq (tgt := 28) F dX6_applying_19 (by decide) (fun c19 => ?_) (fun c19 => ?_)
        · skip
          replace c19 : (sApp S k b) = false := bI_f c19
          refine wa_iconst (v := 0) F dX6_applying_28 (by decide) ?_
          refine wa_ior F dX6_applying_29 ?_
          refine wa_istore_n (lv' := [(2, .int ((orA 0 (fAppl S b) k) ||| 0)), (3, .int (nI k)), (0, .ref 2), (1, .int (nI b))]) F dX6_applying_30 (i := 2) rfl (by decide) rfl ?_
          refine wa_iinc (v := (nI (k + 1))) (j := 1) (lv' := [(3, .int (nI (k + 1))), (2, .int ((orA 0 (fAppl S b) k) ||| 0)), (0, .ref 2), (1, .int (nI b))]) F dX6_applying_31 rfl ((nI_succ k).symm) (by decide) rfl ?_
          refine wa_goto (tgt := 4) F dX6_applying_34 (by decide) ?_
          have ea1 : ((orA 0 (fAppl S b) k) ||| 0) = (orA 0 (fAppl S b) (k + 1)) := by simp [orA, fAppl, c19]
          refine wa_lv (lv' := [(3, .int (nI (k + 1))), (2, .int (orA 0 (fAppl S b) (k + 1))), (0, .ref 2), (1, .int (nI b))]) [0, 1, 2, 3] (by rw [← ea1]; rfl) ?_
          exact ih_k (k + 1) (by omega) (by omega)
        · skip
          replace c19 : (sApp S k b) = true := bI_t c19
          refine wa_iconst (v := 1) F dX6_applying_22 (by decide) ?_
          refine wa_iload_n F dX6_applying_23 (i := 3) rfl 0 rfl ?_
          refine wa_ishl F dX6_applying_24 ?_
          refine wa_goto (tgt := 29) F dX6_applying_25 (by decide) ?_
          refine wa_ior F dX6_applying_29 ?_
          refine wa_istore_n (lv' := [(2, .int ((orA 0 (fAppl S b) k) ||| (1 <<< ((nI k) &&& 31)))), (3, .int (nI k)), (0, .ref 2), (1, .int (nI b))]) F dX6_applying_30 (i := 2) rfl (by decide) rfl ?_
          refine wa_iinc (v := (nI (k + 1))) (j := 1) (lv' := [(3, .int (nI (k + 1))), (2, .int ((orA 0 (fAppl S b) k) ||| (1 <<< ((nI k) &&& 31)))), (0, .ref 2), (1, .int (nI b))]) F dX6_applying_31 rfl ((nI_succ k).symm) (by decide) rfl ?_
          refine wa_goto (tgt := 4) F dX6_applying_34 (by decide) ?_
          have ea2 : ((orA 0 (fAppl S b) k) ||| (1 <<< ((nI k) &&& 31))) = (orA 0 (fAppl S b) (k + 1)) := by simp [orA, fAppl, c19]
          refine wa_lv (lv' := [(3, .int (nI (k + 1))), (2, .int (orA 0 (fAppl S b) (k + 1))), (0, .ref 2), (1, .int (nI b))]) [0, 1, 2, 3] (by rw [← ea2]; rfl) ?_
          exact ih_k (k + 1) (by omega) (by omega)
  exact loop4 ((cnt S 2) + 1) 0 (Nat.zero_le _) (by omega)
