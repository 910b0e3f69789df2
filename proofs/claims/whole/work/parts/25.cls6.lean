theorem want_cases (X : St) (o : Nat) : sWant X o = 0 ∨ sWant X o = 1 ∨ sWant X o = 2 ∨ sWant X o = 3 ∨ sWant X o = 4 ∨ sWant X o = 5 ∨ sWant X o = 6 := by
  unfold sWant
  split
  · simp
  · split
    · simp
    · split
      · simp
      · split
        · simp
        · split
          · simp
          · split <;> simp
theorem want_ok {X : St} {o : Nat} (h : sWant X o = 0 ∨ sWant X o = 6) : sWant X o - sWant X o / 6 * 6 = 0 := by rcases h with h | h <;> rw [h] <;> decide
theorem want_no {X : St} {o : Nat} (h : ¬ sWant X o = 0) (h2 : ¬ sWant X o = 6) : ¬ sWant X o - sWant X o / 6 * 6 = 0 := by
  rcases want_cases X o with e | e | e | e | e | e | e <;> rw [e] at h h2 ⊢ <;> first | exact absurd rfl h | exact absurd rfl h2 | decide
theorem want_13 {X : St} {o : Nat} (h1 : ¬ sWant X o = 1) (h2 : ¬ sWant X o = 2) (h3 : ¬ sWant X o = 3) : sIn (sWant X o) 1 3 = false := by
  rcases want_cases X o with e | e | e | e | e | e | e <;> rw [e] at h1 h2 h3 ⊢ <;> first | exact absurd rfl h1 | exact absurd rfl h2 | exact absurd rfl h3 | decide
theorem want_in {X : St} {o : Nat} (h : sWant X o = 1 ∨ sWant X o = 2 ∨ sWant X o = 3) : ¬ sIn (sWant X o) 1 3 = false := by rcases h with h | h | h <;> rw [h] <;> decide
theorem sU_self {S : St} {f i : Nat} {v : Int32} (h : S f i = v) : sU S f i v = S := by
  funext g j; unfold sU upd
  by_cases h1 : g = f
  · subst h1; rw [if_pos rfl]
    by_cases h2 : j = i
    · subst h2; rw [if_pos rfl, h]
    · rw [if_neg h2]
  · rw [if_neg h1]
theorem max_eq (x y : Int32) : (if x < y then y else x) = if y ≤ x then x else y := by
  by_cases h : x < y
  · rw [if_pos h, if_neg (lt_nle h)]
  · rw [if_neg h, if_pos (nlt_le h)]
/-- the class's call: k says that it doesn't throw -/
def PK (k : Int32) (ad : Nat → Nat) (r : Option Value) (h1 : Hp) : Option Value → (Nat → Nat) → Hp → Prop := fun v ad' h' => k = 0 ∧ PR ad r h1 v ad' h'
set_option maxHeartbeats 2000000 in
set_option maxRecDepth 20000 in
theorem c_X5_pass {l : Launch} (hst : l.stackTraces = false) (D : va_G) (TC : Nat → ClassId) (H0 : Heap) (ad : Nat → Nat) (X S : St) (o : Nat → Int64) (d : Int32) (n : Nat) (hi : INV n X) : CC l D (tysOf TC) H0 yX5_pass cX5_pass 2 (some .int) 7 1 6 [.ref 0, .int d] ad (hall TC X S o) (PK (kPa X d) ad (some (.int (rPa X d))) (hall TC (uPa d X) S o)) (fun E => (E = "java/lang/IllegalArgumentException" ∧ kPa X d = 1) ∨ (E = "java/lang/IllegalStateException" ∧ kPa X d = 2)) := by
  refine cc_intro hst (by decide +kernel) (Nat.le_of_ble_eq_true rfl) ?_
  intro p e s m args below meth c F
  rw [show lv_args 0 [.ref 0, .int d] = [(0, .ref 0), (1, .int d)] from rfl]
  obtain ⟨hc, hs, hpp, hd0, hmm, h7, h8, hbo, hu0, hvr⟩ := id hi
  obtain ⟨hvh, hday, hclo, h5, h12, h21, hze, h24, hrk, hbz⟩ := hvr
  have hb2 := hc.2; have hb9 := hs.2; have hb13 := hpp.2; have hb25 := hd0.2; have hb28 := hmm.2
  refine wa_iload_n F dX5_pass_0 (i := 1) rfl 1 rfl ?_
  refine wa_iconst (v := 1) F dX5_pass_1 (by decide) ?_
  refine wa_sipush (v := 500) F dX5_pass_2 (by decide) ?_
  by_cases c5 : sIn d 1 500 = true
  · skip
    refine wa_callS F [] (c_X5_checkRange_ok hst D (tysOf TC) H0 ad (hall TC X S o) d 1 500 c5) mw_X5_checkRange ml_X5_39 rfl (Nat.le_of_ble_eq_true rfl) ⟨(Nat.le_of_ble_eq_true rfl), (Nat.le_of_ble_eq_true rfl)⟩ ⟨(Nat.le_of_ble_eq_true rfl), (Nat.le_of_ble_eq_true rfl)⟩ dX5_pass_5 PR_ag (fun _ z => z.elim) ?_
    rintro _ _ _ ⟨rfl, rfl, rfl⟩
    refine wa_aload_n F dX5_pass_8 (i := 0) rfl 0 rfl ?_
    refine wa_getf (v := .int (X 1 0)) F LY_X5 (hm_c (TC := TC) (X := X) (S := S) (o := o)) 10 (by decide) fl_X5_91 rfl dX5_pass_9 ?_
    refine wa_iload_n F dX5_pass_12 (i := 1) rfl 1 rfl ?_
    refine wa_iadd F dX5_pass_13 ?_
    refine wa_sipush (v := 5000) F dX5_pass_14 (by decide) ?_
    refine wa_icmp_le (tgt := 30) F dX5_pass_17 (by decide) (fun c17 => ?_) (fun c17 => ?_)
    · skip
      refine wa_aload_n F dX5_pass_30 (i := 0) rfl 0 rfl ?_
      refine wa_dup F dX5_pass_31 rfl ?_
      refine wa_getf (v := .int (X 1 0)) F LY_X5 (hm_c (TC := TC) (X := X) (S := S) (o := o)) 10 (by decide) fl_X5_91 rfl dX5_pass_32 ?_
      refine wa_iload_n F dX5_pass_35 (i := 1) rfl 1 rfl ?_
      refine wa_iadd F dX5_pass_36 ?_
      refine wa_putf F LY_X5 (hm_c (TC := TC) (X := X) (S := S) (o := o)) 10 (by decide) fl_X5_91 rfl rfl rfl (Nat.le_of_ble_eq_true rfl) dX5_pass_37 (pu_day ((X 1 0) + d)) ?_
      refine wa_aload_n F dX5_pass_40 (i := 0) rfl 0 rfl ?_
      refine wa_getf (v := .int ((sU X 1 0 ((X 1 0) + d)) 1 0)) F LY_X5 (hm_c (TC := TC) (X := (sU X 1 0 ((X 1 0) + d))) (S := S) (o := o)) 10 (by decide) fl_X5_91 rfl dX5_pass_41 ?_
      refine wa_iret F rfl (Nat.le_of_ble_eq_true rfl) (Nat.le_of_ble_eq_true rfl) dX5_pass_44 ?_
      have ek : kPa X d = 0 := by simp [kPa, c5, c17]
      refine ⟨ek, ?_, rfl, ?_⟩
      · refine congrArg (fun z => some (Value.int z)) ?_
        rfl
      · refine congrArg (fun z => hall TC z S o) ?_
        rfl
    · skip
      have ek : kPa X d = 2 := by simp [kPa, c5, c17]
      exact wa_throwS F ft_IS cl_X5_47 in_IS sr_X5_243 at_IS gd_IS dX5_pass_20 dX5_pass_23 dX5_pass_24 dX5_pass_26 dX5_pass_29 (Nat.le_of_ble_eq_true rfl) (Nat.le_of_ble_eq_true rfl) (Nat.le_of_ble_eq_true rfl) (Nat.le_of_ble_eq_true rfl) (Nat.le_of_ble_eq_true rfl) (Nat.le_of_ble_eq_true rfl) (Nat.le_of_ble_eq_true rfl) (Or.inr ⟨rfl, ek⟩) rfl rfl
  · skip
    replace c5 : sIn d 1 500 = false := Bool.eq_false_iff.mpr c5
    refine wa_callS F [] (c_X5_checkRange_no hst D (tysOf TC) H0 ad (hall TC X S o) d 1 500 c5) mw_X5_checkRange ml_X5_39 rfl (Nat.le_of_ble_eq_true rfl) ⟨(Nat.le_of_ble_eq_true rfl), (Nat.le_of_ble_eq_true rfl)⟩ ⟨(Nat.le_of_ble_eq_true rfl), (Nat.le_of_ble_eq_true rfl)⟩ dX5_pass_5 (fun _ _ _ z => z.elim) (fun E hE => ?_) (fun _ _ _ z => z.elim)
    subst hE
    have ek : kPa X d = 1 := by simp [kPa, c5]
    exact wx_out F (Nat.le_of_ble_eq_true rfl) (Nat.le_of_ble_eq_true rfl) (Or.inl ⟨rfl, ek⟩) rfl rfl
set_option maxHeartbeats 2000000 in
set_option maxRecDepth 20000 in
theorem c_X5_withdraw {l : Launch} (hst : l.stackTraces = false) (D : va_G) (TC : Nat → ClassId) (H0 : Heap) (ad : Nat → Nat) (X S : St) (o : Nat → Int64) (v : Int32) (b : Int32) (n : Nat) (hi : INV n X) : CC l D (tysOf TC) H0 yX5_withdraw cX5_withdraw 5 (some .int) 7 1 6 [.ref 0, .int v, .int b] ad (hall TC X S o) (PK (kWd X v b) ad (some (.int (rWd X v))) (hall TC (uWd v b X) S o)) (fun E => (E = "java/lang/IndexOutOfBoundsException" ∧ kWd X v b = 1) ∨ (E = "java/lang/IllegalArgumentException" ∧ kWd X v b = 2)) := by
  refine cc_intro hst (by decide +kernel) (Nat.le_of_ble_eq_true rfl) ?_
  intro p e s m args below meth c F
  rw [show lv_args 0 [.ref 0, .int v, .int b] = [(0, .ref 0), (1, .int v), (2, .int b)] from rfl]
  obtain ⟨hc, hs, hpp, hd0, hmm, h7, h8, hbo, hu0, hvr⟩ := id hi
  obtain ⟨hvh, hday, hclo, h5, h12, h21, hze, h24, hrk, hbz⟩ := hvr
  have hb2 := hc.2; have hb9 := hs.2; have hb13 := hpp.2; have hb25 := hd0.2; have hb28 := hmm.2
  refine wa_aload_n F dX5_withdraw_0 (i := 0) rfl 0 rfl ?_
  refine wa_iload_n F dX5_withdraw_1 (i := 1) rfl 1 rfl ?_
  by_cases c2 : sIn v 0 (X 9 0 - 1) = true
  · skip
    obtain ⟨jv, lv, rfl⟩ := sIn_nat hs.1 (by omega) c2
    have ev : tn (nI jv) = jv := tn_nI (by omega)
    refine wa_callV F [] (c_X5_standardAt_ok hst D TC H0 ad X S o jv lv hb9 (hall TC X S o) (fun _ _ z => z)) mw_X5_standardAt ml_X5_87 (hm_c (TC := TC) (X := X) (S := S) (o := o)) rfl rfl (Nat.le_of_ble_eq_true rfl) ⟨(Nat.le_of_ble_eq_true rfl), (Nat.le_of_ble_eq_true rfl)⟩ ⟨(Nat.le_of_ble_eq_true rfl), (Nat.le_of_ble_eq_true rfl)⟩ dX5_withdraw_2 PR_ag (fun _ z => z.elim) ?_
    rintro _ _ _ ⟨rfl, rfl, rfl⟩
    refine wa_astore_n (lv' := [(3, .ref (1100 + jv)), (0, .ref 0), (1, .int (nI jv)), (2, .int b)]) F dX5_withdraw_5 (i := 3) rfl (by decide) rfl ?_
    refine wa_iload_n F dX5_withdraw_6 (i := 2) rfl 3 rfl ?_
    refine wa_aload_n F dX5_withdraw_7 (i := 0) rfl 1 rfl ?_
    refine wa_getf (v := .int (X 1 0)) F LY_X5 (hm_c (TC := TC) (X := X) (S := S) (o := o)) 10 (by decide) fl_X5_91 rfl dX5_withdraw_8 ?_
    refine wa_sipush (v := 5000) F dX5_withdraw_11 (by decide) ?_
    by_cases c14 : sIn b (X 1 0) 5000 = true
    · skip
      refine wa_callS F [] (c_X5_checkRange_ok hst D (tysOf TC) H0 ad (hall TC X S o) b (X 1 0) 5000 c14) mw_X5_checkRange ml_X5_39 rfl (Nat.le_of_ble_eq_true rfl) ⟨(Nat.le_of_ble_eq_true rfl), (Nat.le_of_ble_eq_true rfl)⟩ ⟨(Nat.le_of_ble_eq_true rfl), (Nat.le_of_ble_eq_true rfl)⟩ dX5_withdraw_14 PR_ag (fun _ z => z.elim) ?_
      rintro _ _ _ ⟨rfl, rfl, rfl⟩
      refine wa_aload_n F dX5_withdraw_17 (i := 3) rfl 0 rfl ?_
      refine wa_getN (v := .int (unt X jv)) F LY_X4 (hm_std (TC := TC) (X := X) (S := S) (o := o) lv hb9) 2 (by decide) fn_X5_94 rfl dX5_withdraw_18 ?_
      refine wa_istore (lv' := [(4, .int (unt X jv)), (3, .ref (1100 + jv)), (0, .ref 0), (1, .int (nI jv)), (2, .int b)]) F dX5_withdraw_21 (by decide) rfl ?_
      refine wa_aload_n F dX5_withdraw_23 (i := 3) rfl 1 rfl ?_
      refine wa_iload_n F dX5_withdraw_24 (i := 2) rfl 4 rfl ?_
      refine wa_putN F LY_X4 (hm_std (TC := TC) (X := X) (S := S) (o := o) lv hb9) 2 (by decide) fn_X5_94 rfl rfl rfl (Nat.le_of_ble_eq_true rfl) dX5_withdraw_25 (pu_std_2 b (not_mil (by have z := c14; simp [sIn] at z; exact z.2)) lv hb9) ?_
      refine wa_iload F dX5_withdraw_28 0 rfl ?_
      refine wa_iret F rfl (Nat.le_of_ble_eq_true rfl) (Nat.le_of_ble_eq_true rfl) dX5_withdraw_30 ?_
      have ek : kWd X (nI jv) b = 0 := by simp [kWd, c2, c14, ev]
      refine ⟨ek, ?_, rfl, ?_⟩
      · refine congrArg (fun z => some (Value.int z)) ?_
        unfold rWd; rw [ev]
      · refine congrArg (fun z => hall TC z S o) ?_
        unfold uWd; rw [ev]
    · skip
      replace c14 : sIn b (X 1 0) 5000 = false := Bool.eq_false_iff.mpr c14
      refine wa_callS F [] (c_X5_checkRange_no hst D (tysOf TC) H0 ad (hall TC X S o) b (X 1 0) 5000 c14) mw_X5_checkRange ml_X5_39 rfl (Nat.le_of_ble_eq_true rfl) ⟨(Nat.le_of_ble_eq_true rfl), (Nat.le_of_ble_eq_true rfl)⟩ ⟨(Nat.le_of_ble_eq_true rfl), (Nat.le_of_ble_eq_true rfl)⟩ dX5_withdraw_14 (fun _ _ _ z => z.elim) (fun E hE => ?_) (fun _ _ _ z => z.elim)
      subst hE
      have ek : kWd X (nI jv) b = 2 := by simp [kWd, c2, c14, ev]
      exact wx_out F (Nat.le_of_ble_eq_true rfl) (Nat.le_of_ble_eq_true rfl) (Or.inr ⟨rfl, ek⟩) rfl rfl
  · skip
    replace c2 : sIn v 0 (X 9 0 - 1) = false := Bool.eq_false_iff.mpr c2
    refine wa_callV F [] (c_X5_standardAt_no hst D TC H0 ad X S o v hs.1 hb9 c2 (hall TC X S o) (fun _ _ z => z)) mw_X5_standardAt ml_X5_87 (hm_c (TC := TC) (X := X) (S := S) (o := o)) rfl rfl (Nat.le_of_ble_eq_true rfl) ⟨(Nat.le_of_ble_eq_true rfl), (Nat.le_of_ble_eq_true rfl)⟩ ⟨(Nat.le_of_ble_eq_true rfl), (Nat.le_of_ble_eq_true rfl)⟩ dX5_withdraw_2 (fun _ _ _ z => z.elim) (fun E hE => ?_) (fun _ _ _ z => z.elim)
    subst hE
    have ek : kWd X v b = 1 := by simp [kWd, c2]
    exact wx_out F (Nat.le_of_ble_eq_true rfl) (Nat.le_of_ble_eq_true rfl) (Or.inl ⟨rfl, ek⟩) rfl rfl
set_option maxHeartbeats 2000000 in
set_option maxRecDepth 20000 in
theorem c_X5_restrict {l : Launch} (hst : l.stackTraces = false) (D : va_G) (TC : Nat → ClassId) (H0 : Heap) (ad : Nat → Nat) (X S : St) (o : Nat → Int64) (v : Int32) (b : Int32) (n : Nat) (hi : INV n X) : CC l D (tysOf TC) H0 yX5_restrict cX5_restrict 4 (some .int) 7 1 6 [.ref 0, .int v, .int b] ad (hall TC X S o) (PK (kRs X v b) ad (some (.int (rRs X v b))) (hall TC (uRs v b X) S o)) (fun E => (E = "java/lang/IndexOutOfBoundsException" ∧ kRs X v b = 1) ∨ (E = "java/lang/IllegalArgumentException" ∧ kRs X v b = 2)) := by
  refine cc_intro hst (by decide +kernel) (Nat.le_of_ble_eq_true rfl) ?_
  intro p e s m args below meth c F
  rw [show lv_args 0 [.ref 0, .int v, .int b] = [(0, .ref 0), (1, .int v), (2, .int b)] from rfl]
  obtain ⟨hc, hs, hpp, hd0, hmm, h7, h8, hbo, hu0, hvr⟩ := id hi
  obtain ⟨hvh, hday, hclo, h5, h12, h21, hze, h24, hrk, hbz⟩ := hvr
  have hb2 := hc.2; have hb9 := hs.2; have hb13 := hpp.2; have hb25 := hd0.2; have hb28 := hmm.2
  refine wa_aload_n F dX5_restrict_0 (i := 0) rfl 0 rfl ?_
  refine wa_iload_n F dX5_restrict_1 (i := 1) rfl 1 rfl ?_
  by_cases c2 : sIn v 0 (X 9 0 - 1) = true
  · skip
    obtain ⟨jv, lv, rfl⟩ := sIn_nat hs.1 (by omega) c2
    have ev : tn (nI jv) = jv := tn_nI (by omega)
    refine wa_callV F [] (c_X5_standardAt_ok hst D TC H0 ad X S o jv lv hb9 (hall TC X S o) (fun _ _ z => z)) mw_X5_standardAt ml_X5_87 (hm_c (TC := TC) (X := X) (S := S) (o := o)) rfl rfl (Nat.le_of_ble_eq_true rfl) ⟨(Nat.le_of_ble_eq_true rfl), (Nat.le_of_ble_eq_true rfl)⟩ ⟨(Nat.le_of_ble_eq_true rfl), (Nat.le_of_ble_eq_true rfl)⟩ dX5_restrict_2 PR_ag (fun _ z => z.elim) ?_
    rintro _ _ _ ⟨rfl, rfl, rfl⟩
    refine wa_astore_n (lv' := [(3, .ref (1100 + jv)), (0, .ref 0), (1, .int (nI jv)), (2, .int b)]) F dX5_restrict_5 (i := 3) rfl (by decide) rfl ?_
    refine wa_iload_n F dX5_restrict_6 (i := 2) rfl 3 rfl ?_
    refine wa_iconst (v := 1) F dX5_restrict_7 (by decide) ?_
    refine wa_sipush (v := 255) F dX5_restrict_8 (by decide) ?_
    by_cases c11 : sIn b 1 255 = true
    · skip
      refine wa_callS F [] (c_X5_checkRange_ok hst D (tysOf TC) H0 ad (hall TC X S o) b 1 255 c11) mw_X5_checkRange ml_X5_39 rfl (Nat.le_of_ble_eq_true rfl) ⟨(Nat.le_of_ble_eq_true rfl), (Nat.le_of_ble_eq_true rfl)⟩ ⟨(Nat.le_of_ble_eq_true rfl), (Nat.le_of_ble_eq_true rfl)⟩ dX5_restrict_11 PR_ag (fun _ z => z.elim) ?_
      rintro _ _ _ ⟨rfl, rfl, rfl⟩
      refine wa_aload_n F dX5_restrict_14 (i := 3) rfl 0 rfl ?_
      refine wa_dup F dX5_restrict_15 rfl ?_
      refine wa_getN (v := .int (X 10 jv)) F LY_X4 (hm_std (TC := TC) (X := X) (S := S) (o := o) lv hb9) 1 (by decide) fn_X5_97 rfl dX5_restrict_16 ?_
      refine wa_iload_n F dX5_restrict_19 (i := 2) rfl 3 rfl ?_
      refine wa_iconst (v := (-1)) F dX5_restrict_20 (by decide) ?_
      refine wa_ixor F dX5_restrict_21 ?_
      refine wa_iand F dX5_restrict_22 ?_
      refine wa_putN F LY_X4 (hm_std (TC := TC) (X := X) (S := S) (o := o) lv hb9) 1 (by decide) fn_X5_97 rfl rfl rfl (Nat.le_of_ble_eq_true rfl) dX5_restrict_23 (pu_std_1 ((X 10 jv) &&& (b ^^^ (-1))) lv hb9) ?_
      refine wa_aload_n F dX5_restrict_26 (i := 3) rfl 0 rfl ?_
      refine wa_getN (v := .int ((sU X 10 jv ((X 10 jv) &&& (b ^^^ (-1)))) 10 jv)) F LY_X4 (hm_std (TC := TC) (X := (sU X 10 jv ((X 10 jv) &&& (b ^^^ (-1))))) (S := S) (o := o) (lt_u lv) (le_u hb9)) 1 (by decide) fn_X5_97 rfl dX5_restrict_27 ?_
      refine wa_iret F rfl (Nat.le_of_ble_eq_true rfl) (Nat.le_of_ble_eq_true rfl) dX5_restrict_30 ?_
      have ek : kRs X (nI jv) b = 0 := by simp [kRs, c2, c11, ev]
      refine ⟨ek, ?_, rfl, ?_⟩
      · refine congrArg (fun z => some (Value.int z)) ?_
        unfold rRs; rw [ev]; simp [sU, upd]
      · refine congrArg (fun z => hall TC z S o) ?_
        unfold uRs; rw [ev]
    · skip
      replace c11 : sIn b 1 255 = false := Bool.eq_false_iff.mpr c11
      refine wa_callS F [] (c_X5_checkRange_no hst D (tysOf TC) H0 ad (hall TC X S o) b 1 255 c11) mw_X5_checkRange ml_X5_39 rfl (Nat.le_of_ble_eq_true rfl) ⟨(Nat.le_of_ble_eq_true rfl), (Nat.le_of_ble_eq_true rfl)⟩ ⟨(Nat.le_of_ble_eq_true rfl), (Nat.le_of_ble_eq_true rfl)⟩ dX5_restrict_11 (fun _ _ _ z => z.elim) (fun E hE => ?_) (fun _ _ _ z => z.elim)
      subst hE
      have ek : kRs X (nI jv) b = 2 := by simp [kRs, c2, c11, ev]
      exact wx_out F (Nat.le_of_ble_eq_true rfl) (Nat.le_of_ble_eq_true rfl) (Or.inr ⟨rfl, ek⟩) rfl rfl
  · skip
    replace c2 : sIn v 0 (X 9 0 - 1) = false := Bool.eq_false_iff.mpr c2
    refine wa_callV F [] (c_X5_standardAt_no hst D TC H0 ad X S o v hs.1 hb9 c2 (hall TC X S o) (fun _ _ z => z)) mw_X5_standardAt ml_X5_87 (hm_c (TC := TC) (X := X) (S := S) (o := o)) rfl rfl (Nat.le_of_ble_eq_true rfl) ⟨(Nat.le_of_ble_eq_true rfl), (Nat.le_of_ble_eq_true rfl)⟩ ⟨(Nat.le_of_ble_eq_true rfl), (Nat.le_of_ble_eq_true rfl)⟩ dX5_restrict_2 (fun _ _ _ z => z.elim) (fun E hE => ?_) (fun _ _ _ z => z.elim)
    subst hE
    have ek : kRs X v b = 1 := by simp [kRs, c2]
    exact wx_out F (Nat.le_of_ble_eq_true rfl) (Nat.le_of_ble_eq_true rfl) (Or.inl ⟨rfl, ek⟩) rfl rfl
set_option maxHeartbeats 2000000 in
set_option maxRecDepth 20000 in
theorem c_X5_prove {l : Launch} (hst : l.stackTraces = false) (D : va_G) (TC : Nat → ClassId) (H0 : Heap) (ad : Nat → Nat) (X S : St) (o : Nat → Int64) (v : Int32) (b : Int32) (n : Nat) (hi : INV n X) : CC l D (tysOf TC) H0 yX5_prove cX5_prove 4 (some .int) 7 1 6 [.ref 0, .int v, .int b] ad (hall TC X S o) (PK (kPv X v b) ad (some (.int (rPv X v b))) (hall TC (uPv v b X) S o)) (fun E => (E = "java/lang/IndexOutOfBoundsException" ∧ kPv X v b = 1) ∨ (E = "java/lang/IllegalArgumentException" ∧ kPv X v b = 2)) := by
  refine cc_intro hst (by decide +kernel) (Nat.le_of_ble_eq_true rfl) ?_
  intro p e s m args below meth c F
  rw [show lv_args 0 [.ref 0, .int v, .int b] = [(0, .ref 0), (1, .int v), (2, .int b)] from rfl]
  obtain ⟨hc, hs, hpp, hd0, hmm, h7, h8, hbo, hu0, hvr⟩ := id hi
  obtain ⟨hvh, hday, hclo, h5, h12, h21, hze, h24, hrk, hbz⟩ := hvr
  have hb2 := hc.2; have hb9 := hs.2; have hb13 := hpp.2; have hb25 := hd0.2; have hb28 := hmm.2
  refine wa_aload_n F dX5_prove_0 (i := 0) rfl 0 rfl ?_
  refine wa_iload_n F dX5_prove_1 (i := 1) rfl 1 rfl ?_
  by_cases c2 : sIn v 0 (X 13 0 - 1) = true
  · skip
    obtain ⟨jv, lv, rfl⟩ := sIn_nat hpp.1 (by omega) c2
    have ev : tn (nI jv) = jv := tn_nI (by omega)
    refine wa_callV F [] (c_X5_productAt_ok hst D TC H0 ad X S o jv lv hb13 (hall TC X S o) (fun _ _ z => z)) mw_X5_productAt ml_X5_108 (hm_c (TC := TC) (X := X) (S := S) (o := o)) rfl rfl (Nat.le_of_ble_eq_true rfl) ⟨(Nat.le_of_ble_eq_true rfl), (Nat.le_of_ble_eq_true rfl)⟩ ⟨(Nat.le_of_ble_eq_true rfl), (Nat.le_of_ble_eq_true rfl)⟩ dX5_prove_2 PR_ag (fun _ z => z.elim) ?_
    rintro _ _ _ ⟨rfl, rfl, rfl⟩
    refine wa_astore_n (lv' := [(3, .ref (1200 + jv)), (0, .ref 0), (1, .int (nI jv)), (2, .int b)]) F dX5_prove_5 (i := 3) rfl (by decide) rfl ?_
    refine wa_iload_n F dX5_prove_6 (i := 2) rfl 3 rfl ?_
    refine wa_iconst (v := 1) F dX5_prove_7 (by decide) ?_
    refine wa_sipush (v := 255) F dX5_prove_8 (by decide) ?_
    by_cases c11 : sIn b 1 255 = true
    · skip
      refine wa_callS F [] (c_X5_checkRange_ok hst D (tysOf TC) H0 ad (hall TC X S o) b 1 255 c11) mw_X5_checkRange ml_X5_39 rfl (Nat.le_of_ble_eq_true rfl) ⟨(Nat.le_of_ble_eq_true rfl), (Nat.le_of_ble_eq_true rfl)⟩ ⟨(Nat.le_of_ble_eq_true rfl), (Nat.le_of_ble_eq_true rfl)⟩ dX5_prove_11 PR_ag (fun _ z => z.elim) ?_
      rintro _ _ _ ⟨rfl, rfl, rfl⟩
      refine wa_aload_n F dX5_prove_14 (i := 3) rfl 0 rfl ?_
      refine wa_dup F dX5_prove_15 rfl ?_
      refine wa_getN (v := .int (X 19 jv)) F LY_X3 (hm_prd (TC := TC) (X := X) (S := S) (o := o) lv hb13) 5 (by decide) fn_X5_134 rfl dX5_prove_16 ?_
      refine wa_iload_n F dX5_prove_19 (i := 2) rfl 3 rfl ?_
      refine wa_ior F dX5_prove_20 ?_
      refine wa_putN F LY_X3 (hm_prd (TC := TC) (X := X) (S := S) (o := o) lv hb13) 5 (by decide) fn_X5_134 rfl rfl rfl (Nat.le_of_ble_eq_true rfl) dX5_prove_21 (pu_prd_5 ((X 19 jv) ||| b) lv hb13) ?_
      refine wa_aload_n F dX5_prove_24 (i := 3) rfl 0 rfl ?_
      refine wa_getN (v := .int ((sU X 19 jv ((X 19 jv) ||| b)) 19 jv)) F LY_X3 (hm_prd (TC := TC) (X := (sU X 19 jv ((X 19 jv) ||| b))) (S := S) (o := o) (lt_u lv) (le_u hb13)) 5 (by decide) fn_X5_134 rfl dX5_prove_25 ?_
      refine wa_iret F rfl (Nat.le_of_ble_eq_true rfl) (Nat.le_of_ble_eq_true rfl) dX5_prove_28 ?_
      have ek : kPv X (nI jv) b = 0 := by simp [kPv, c2, c11, ev]
      refine ⟨ek, ?_, rfl, ?_⟩
      · refine congrArg (fun z => some (Value.int z)) ?_
        unfold rPv; rw [ev]; simp [sU, upd]
      · refine congrArg (fun z => hall TC z S o) ?_
        unfold uPv; rw [ev]
    · skip
      replace c11 : sIn b 1 255 = false := Bool.eq_false_iff.mpr c11
      refine wa_callS F [] (c_X5_checkRange_no hst D (tysOf TC) H0 ad (hall TC X S o) b 1 255 c11) mw_X5_checkRange ml_X5_39 rfl (Nat.le_of_ble_eq_true rfl) ⟨(Nat.le_of_ble_eq_true rfl), (Nat.le_of_ble_eq_true rfl)⟩ ⟨(Nat.le_of_ble_eq_true rfl), (Nat.le_of_ble_eq_true rfl)⟩ dX5_prove_11 (fun _ _ _ z => z.elim) (fun E hE => ?_) (fun _ _ _ z => z.elim)
      subst hE
      have ek : kPv X (nI jv) b = 2 := by simp [kPv, c2, c11, ev]
      exact wx_out F (Nat.le_of_ble_eq_true rfl) (Nat.le_of_ble_eq_true rfl) (Or.inr ⟨rfl, ek⟩) rfl rfl
  · skip
    replace c2 : sIn v 0 (X 13 0 - 1) = false := Bool.eq_false_iff.mpr c2
    refine wa_callV F [] (c_X5_productAt_no hst D TC H0 ad X S o v hpp.1 hb13 c2 (hall TC X S o) (fun _ _ z => z)) mw_X5_productAt ml_X5_108 (hm_c (TC := TC) (X := X) (S := S) (o := o)) rfl rfl (Nat.le_of_ble_eq_true rfl) ⟨(Nat.le_of_ble_eq_true rfl), (Nat.le_of_ble_eq_true rfl)⟩ ⟨(Nat.le_of_ble_eq_true rfl), (Nat.le_of_ble_eq_true rfl)⟩ dX5_prove_2 (fun _ _ _ z => z.elim) (fun E hE => ?_) (fun _ _ _ z => z.elim)
    subst hE
    have ek : kPv X v b = 1 := by simp [kPv, c2]
    exact wx_out F (Nat.le_of_ble_eq_true rfl) (Nat.le_of_ble_eq_true rfl) (Or.inl ⟨rfl, ek⟩) rfl rfl
set_option maxHeartbeats 2000000 in
set_option maxRecDepth 20000 in
theorem c_X5_follow {l : Launch} (hst : l.stackTraces = false) (D : va_G) (TC : Nat → ClassId) (H0 : Heap) (ad : Nat → Nat) (X S : St) (o : Nat → Int64) (v : Int32) (t : Int32) (b : Int32) (n : Nat) (hi : INV n X) : CC l D (tysOf TC) H0 yX5_follow cX5_follow 6 (some .int) 7 1 6 [.ref 0, .int v, .int t, .int b] ad (hall TC X S o) (PK (kFo X v t b) ad (some (.int (rFo X v t))) (hall TC (uFo v t b X) S o)) (fun E => (E = "java/lang/IndexOutOfBoundsException" ∧ kFo X v t b = 1) ∨ (E = "java/lang/IllegalArgumentException" ∧ kFo X v t b = 2)) := by
  refine cc_intro hst (by decide +kernel) (Nat.le_of_ble_eq_true rfl) ?_
  intro p e s m args below meth c F
  rw [show lv_args 0 [.ref 0, .int v, .int t, .int b] = [(0, .ref 0), (1, .int v), (2, .int t), (3, .int b)] from rfl]
  obtain ⟨hc, hs, hpp, hd0, hmm, h7, h8, hbo, hu0, hvr⟩ := id hi
  obtain ⟨hvh, hday, hclo, h5, h12, h21, hze, h24, hrk, hbz⟩ := hvr
  have hb2 := hc.2; have hb9 := hs.2; have hb13 := hpp.2; have hb25 := hd0.2; have hb28 := hmm.2
  refine wa_aload_n F dX5_follow_0 (i := 0) rfl 0 rfl ?_
  refine wa_iload_n F dX5_follow_1 (i := 1) rfl 1 rfl ?_
  by_cases c2 : sIn v 0 (X 13 0 - 1) = true
  · skip
    obtain ⟨jv, lv, rfl⟩ := sIn_nat hpp.1 (by omega) c2
    have ev : tn (nI jv) = jv := tn_nI (by omega)
    refine wa_callV F [] (c_X5_productAt_ok hst D TC H0 ad X S o jv lv hb13 (hall TC X S o) (fun _ _ z => z)) mw_X5_productAt ml_X5_108 (hm_c (TC := TC) (X := X) (S := S) (o := o)) rfl rfl (Nat.le_of_ble_eq_true rfl) ⟨(Nat.le_of_ble_eq_true rfl), (Nat.le_of_ble_eq_true rfl)⟩ ⟨(Nat.le_of_ble_eq_true rfl), (Nat.le_of_ble_eq_true rfl)⟩ dX5_follow_2 PR_ag (fun _ z => z.elim) ?_
    rintro _ _ _ ⟨rfl, rfl, rfl⟩
    refine wa_astore (lv' := [(4, .ref (1200 + jv)), (0, .ref 0), (1, .int (nI jv)), (2, .int t), (3, .int b)]) F dX5_follow_5 (by decide) rfl ?_
    refine wa_aload_n F dX5_follow_7 (i := 0) rfl 1 rfl ?_
    refine wa_iload_n F dX5_follow_8 (i := 2) rfl 3 rfl ?_
    by_cases c9 : sIn t 0 (X 9 0 - 1) = true
    · skip
      obtain ⟨jt, lt, rfl⟩ := sIn_nat hs.1 (by omega) c9
      have et : tn (nI jt) = jt := tn_nI (by omega)
      refine wa_callV F [] (c_X5_standardAt_ok hst D TC H0 ad X S o jt lt hb9 (hall TC X S o) (fun _ _ z => z)) mw_X5_standardAt ml_X5_87 (hm_c (TC := TC) (X := X) (S := S) (o := o)) rfl rfl (Nat.le_of_ble_eq_true rfl) ⟨(Nat.le_of_ble_eq_true rfl), (Nat.le_of_ble_eq_true rfl)⟩ ⟨(Nat.le_of_ble_eq_true rfl), (Nat.le_of_ble_eq_true rfl)⟩ dX5_follow_9 PR_ag (fun _ z => z.elim) ?_
      rintro _ _ _ ⟨rfl, rfl, rfl⟩
      refine wa_pop F dX5_follow_12 rfl ?_
      refine wa_iload_n F dX5_follow_13 (i := 3) rfl 4 rfl ?_
      refine wa_iconst (v := 0) F dX5_follow_14 (by decide) ?_
      refine wa_sipush (v := 255) F dX5_follow_15 (by decide) ?_
      by_cases c18 : sIn b 0 255 = true
      · skip
        refine wa_callS F [] (c_X5_checkRange_ok hst D (tysOf TC) H0 ad (hall TC X S o) b 0 255 c18) mw_X5_checkRange ml_X5_39 rfl (Nat.le_of_ble_eq_true rfl) ⟨(Nat.le_of_ble_eq_true rfl), (Nat.le_of_ble_eq_true rfl)⟩ ⟨(Nat.le_of_ble_eq_true rfl), (Nat.le_of_ble_eq_true rfl)⟩ dX5_follow_18 PR_ag (fun _ z => z.elim) ?_
        rintro _ _ _ ⟨rfl, rfl, rfl⟩
        refine wa_aload F dX5_follow_21 0 rfl ?_
        refine wa_getN (v := .ref (1700 + jv)) F LY_X3 (hm_prd (TC := TC) (X := X) (S := S) (o := o) lv hb13) 2 (by decide) fn_X5_131 rfl dX5_follow_23 ?_
        refine wa_iload_n F dX5_follow_26 (i := 2) rfl 3 rfl ?_
        refine wa_ialV F 0 rfl (hm_fo (TC := TC) (X := X) (S := S) (o := o) lv hb13) jt rfl (by omega) (by decide) (v := (X 18 (12 * jv + jt))) (mk_lt (by omega)) dX5_follow_27 ?_
        refine wa_istore (lv' := [(5, .int (X 18 (12 * jv + jt))), (4, .ref (1200 + jv)), (0, .ref 0), (1, .int (nI jv)), (2, .int (nI jt)), (3, .int b)]) F dX5_follow_28 (by decide) rfl ?_
        refine wa_aload F dX5_follow_30 1 rfl ?_
        refine wa_getN (v := .ref (1700 + jv)) F LY_X3 (hm_prd (TC := TC) (X := X) (S := S) (o := o) lv hb13) 2 (by decide) fn_X5_131 rfl dX5_follow_32 ?_
        refine wa_iload_n F dX5_follow_35 (i := 2) rfl 4 rfl ?_
        refine wa_iload_n F dX5_follow_36 (i := 3) rfl 5 rfl ?_
        refine wa_iast F 0 rfl (hm_fo (TC := TC) (X := X) (S := S) (o := o) lv hb13) jt rfl (by omega) (by decide) dX5_follow_37 (pu_fo jt b (by omega) lv hb13) ?_
        refine wa_iload F dX5_follow_38 0 rfl ?_
        refine wa_iret F rfl (Nat.le_of_ble_eq_true rfl) (Nat.le_of_ble_eq_true rfl) dX5_follow_40 ?_
        have ek : kFo X (nI jv) (nI jt) b = 0 := by simp [kFo, c2, c9, c18, ev, et]
        refine ⟨ek, ?_, rfl, ?_⟩
        · refine congrArg (fun z => some (Value.int z)) ?_
          unfold rFo; rw [ev, et]
        · refine congrArg (fun z => hall TC z S o) ?_
          unfold uFo; rw [ev, et]
      · skip
        replace c18 : sIn b 0 255 = false := Bool.eq_false_iff.mpr c18
        refine wa_callS F [] (c_X5_checkRange_no hst D (tysOf TC) H0 ad (hall TC X S o) b 0 255 c18) mw_X5_checkRange ml_X5_39 rfl (Nat.le_of_ble_eq_true rfl) ⟨(Nat.le_of_ble_eq_true rfl), (Nat.le_of_ble_eq_true rfl)⟩ ⟨(Nat.le_of_ble_eq_true rfl), (Nat.le_of_ble_eq_true rfl)⟩ dX5_follow_18 (fun _ _ _ z => z.elim) (fun E hE => ?_) (fun _ _ _ z => z.elim)
        subst hE
        have ek : kFo X (nI jv) (nI jt) b = 2 := by simp [kFo, c2, c9, c18, ev, et]
        exact wx_out F (Nat.le_of_ble_eq_true rfl) (Nat.le_of_ble_eq_true rfl) (Or.inr ⟨rfl, ek⟩) rfl rfl
    · skip
      replace c9 : sIn t 0 (X 9 0 - 1) = false := Bool.eq_false_iff.mpr c9
      refine wa_callV F [] (c_X5_standardAt_no hst D TC H0 ad X S o t hs.1 hb9 c9 (hall TC X S o) (fun _ _ z => z)) mw_X5_standardAt ml_X5_87 (hm_c (TC := TC) (X := X) (S := S) (o := o)) rfl rfl (Nat.le_of_ble_eq_true rfl) ⟨(Nat.le_of_ble_eq_true rfl), (Nat.le_of_ble_eq_true rfl)⟩ ⟨(Nat.le_of_ble_eq_true rfl), (Nat.le_of_ble_eq_true rfl)⟩ dX5_follow_9 (fun _ _ _ z => z.elim) (fun E hE => ?_) (fun _ _ _ z => z.elim)
      subst hE
      have ek : kFo X (nI jv) t b = 1 := by simp [kFo, c2, c9, ev]
      exact wx_out F (Nat.le_of_ble_eq_true rfl) (Nat.le_of_ble_eq_true rfl) (Or.inl ⟨rfl, ek⟩) rfl rfl
  · skip
    replace c2 : sIn v 0 (X 13 0 - 1) = false := Bool.eq_false_iff.mpr c2
    refine wa_callV F [] (c_X5_productAt_no hst D TC H0 ad X S o v hpp.1 hb13 c2 (hall TC X S o) (fun _ _ z => z)) mw_X5_productAt ml_X5_108 (hm_c (TC := TC) (X := X) (S := S) (o := o)) rfl rfl (Nat.le_of_ble_eq_true rfl) ⟨(Nat.le_of_ble_eq_true rfl), (Nat.le_of_ble_eq_true rfl)⟩ ⟨(Nat.le_of_ble_eq_true rfl), (Nat.le_of_ble_eq_true rfl)⟩ dX5_follow_2 (fun _ _ _ z => z.elim) (fun E hE => ?_) (fun _ _ _ z => z.elim)
    subst hE
    have ek : kFo X v t b = 1 := by simp [kFo, c2]
    exact wx_out F (Nat.le_of_ble_eq_true rfl) (Nat.le_of_ble_eq_true rfl) (Or.inl ⟨rfl, ek⟩) rfl rfl
set_option maxHeartbeats 2000000 in
set_option maxRecDepth 20000 in
theorem c_X5_way {l : Launch} (hst : l.stackTraces = false) (D : va_G) (TC : Nat → ClassId) (H0 : Heap) (ad : Nat → Nat) (X S : St) (o : Nat → Int64) (v : Int32) (n : Nat) (hi : INV n X) : CC l D (tysOf TC) H0 yX5_way cX5_way 3 (some .int) 7 1 6 [.ref 0, .int v] ad (hall TC X S o) (PK (kQp X v) ad (some (.int (rWy X v))) (hall TC X S o)) (fun E => (E = "java/lang/IndexOutOfBoundsException" ∧ kQp X v = 1)) := by
  refine cc_intro hst (by decide +kernel) (Nat.le_of_ble_eq_true rfl) ?_
  intro p e s m args below meth c F
  rw [show lv_args 0 [.ref 0, .int v] = [(0, .ref 0), (1, .int v)] from rfl]
  obtain ⟨hc, hs, hpp, hd0, hmm, h7, h8, hbo, hu0, hvr⟩ := id hi
  obtain ⟨hvh, hday, hclo, h5, h12, h21, hze, h24, hrk, hbz⟩ := hvr
  have hb2 := hc.2; have hb9 := hs.2; have hb13 := hpp.2; have hb25 := hd0.2; have hb28 := hmm.2
  refine wa_aload_n F dX5_way_0 (i := 0) rfl 0 rfl ?_
  refine wa_iload_n F dX5_way_1 (i := 1) rfl 1 rfl ?_
  by_cases c2 : sIn v 0 (X 13 0 - 1) = true
  · skip
    obtain ⟨jv, lv, rfl⟩ := sIn_nat hpp.1 (by omega) c2
    have ev : tn (nI jv) = jv := tn_nI (by omega)
    refine wa_callV F [] (c_X5_productAt_ok hst D TC H0 ad X S o jv lv hb13 (hall TC X S o) (fun _ _ z => z)) mw_X5_productAt ml_X5_108 (hm_c (TC := TC) (X := X) (S := S) (o := o)) rfl rfl (Nat.le_of_ble_eq_true rfl) ⟨(Nat.le_of_ble_eq_true rfl), (Nat.le_of_ble_eq_true rfl)⟩ ⟨(Nat.le_of_ble_eq_true rfl), (Nat.le_of_ble_eq_true rfl)⟩ dX5_way_2 PR_ag (fun _ z => z.elim) ?_
    rintro _ _ _ ⟨rfl, rfl, rfl⟩
    refine wa_astore_n (lv' := [(2, .ref (1200 + jv)), (0, .ref 0), (1, .int (nI jv))]) F dX5_way_5 (i := 2) rfl (by decide) rfl ?_
    refine wa_aload_n F dX5_way_6 (i := 0) rfl 1 rfl ?_
    refine wa_aload_n F dX5_way_7 (i := 2) rfl 0 rfl ?_
    refine wa_aload_n F dX5_way_8 (i := 0) rfl 1 rfl ?_
    refine wa_aload_n F dX5_way_9 (i := 2) rfl 0 rfl ?_
    refine wa_callV F [.ref (1200 + jv), .ref 0] (c_X5_hazardsDemanded hst D TC H0 ad X S o jv lv _ hi (hall TC X S o) (fun _ _ z => z)) mw_X5_hazardsDemanded ml_X5_248 (hm_c (TC := TC) (X := X) (S := S) (o := o)) rfl rfl (Nat.le_of_ble_eq_true rfl) ⟨Nat.le_of_ble_eq_true rfl, Nat.le_of_ble_eq_true rfl⟩ ⟨Nat.le_of_ble_eq_true rfl, Nat.le_of_ble_eq_true rfl⟩ dX5_way_10 PR_ag (fun _ z => z.elim) ?_
    rintro _ _ _ ⟨rfl, rfl, rfl⟩
    refine wa_callV F [] (c_X5_wayOf hst D TC H0 ad X S o jv lv _ hi (hall TC X S o) (fun _ _ z => z)) mw_X5_wayOf ml_X5_255 (hm_c (TC := TC) (X := X) (S := S) (o := o)) rfl rfl (Nat.le_of_ble_eq_true rfl) ⟨Nat.le_of_ble_eq_true rfl, Nat.le_of_ble_eq_true rfl⟩ ⟨Nat.le_of_ble_eq_true rfl, Nat.le_of_ble_eq_true rfl⟩ dX5_way_13 PR_ag (fun _ z => z.elim) ?_
    rintro _ _ _ ⟨rfl, rfl, rfl⟩
    refine wa_iret F rfl (Nat.le_of_ble_eq_true rfl) (Nat.le_of_ble_eq_true rfl) dX5_way_16 ?_
    have ek : kQp X (nI jv) = 0 := by simp [kQp, c2, ev]
    refine ⟨ek, ?_, rfl, ?_⟩
    · refine congrArg (fun z => some (Value.int z)) ?_
      unfold rWy; rw [ev]
    · rfl
  · skip
    replace c2 : sIn v 0 (X 13 0 - 1) = false := Bool.eq_false_iff.mpr c2
    refine wa_callV F [] (c_X5_productAt_no hst D TC H0 ad X S o v hpp.1 hb13 c2 (hall TC X S o) (fun _ _ z => z)) mw_X5_productAt ml_X5_108 (hm_c (TC := TC) (X := X) (S := S) (o := o)) rfl rfl (Nat.le_of_ble_eq_true rfl) ⟨(Nat.le_of_ble_eq_true rfl), (Nat.le_of_ble_eq_true rfl)⟩ ⟨(Nat.le_of_ble_eq_true rfl), (Nat.le_of_ble_eq_true rfl)⟩ dX5_way_2 (fun _ _ _ z => z.elim) (fun E hE => ?_) (fun _ _ _ z => z.elim)
    subst hE
    have ek : kQp X v = 1 := by simp [kQp, c2]
    exact wx_out F (Nat.le_of_ble_eq_true rfl) (Nat.le_of_ble_eq_true rfl) ⟨rfl, ek⟩ rfl rfl
set_option maxHeartbeats 2000000 in
set_option maxRecDepth 20000 in
theorem c_X5_wanting {l : Launch} (hst : l.stackTraces = false) (D : va_G) (TC : Nat → ClassId) (H0 : Heap) (ad : Nat → Nat) (X S : St) (o : Nat → Int64) (v : Int32) (n : Nat) (hi : INV n X) : CC l D (tysOf TC) H0 yX5_wanting cX5_wanting 2 (some .int) 7 1 6 [.ref 0, .int v] ad (hall TC X S o) (PK (kQp X v) ad (some (.int (rWt X v))) (hall TC X S o)) (fun E => (E = "java/lang/IndexOutOfBoundsException" ∧ kQp X v = 1)) := by
  refine cc_intro hst (by decide +kernel) (Nat.le_of_ble_eq_true rfl) ?_
  intro p e s m args below meth c F
  rw [show lv_args 0 [.ref 0, .int v] = [(0, .ref 0), (1, .int v)] from rfl]
  obtain ⟨hc, hs, hpp, hd0, hmm, h7, h8, hbo, hu0, hvr⟩ := id hi
  obtain ⟨hvh, hday, hclo, h5, h12, h21, hze, h24, hrk, hbz⟩ := hvr
  have hb2 := hc.2; have hb9 := hs.2; have hb13 := hpp.2; have hb25 := hd0.2; have hb28 := hmm.2
  refine wa_aload_n F dX5_wanting_0 (i := 0) rfl 0 rfl ?_
  refine wa_aload_n F dX5_wanting_1 (i := 0) rfl 0 rfl ?_
  refine wa_iload_n F dX5_wanting_2 (i := 1) rfl 1 rfl ?_
  by_cases c3 : sIn v 0 (X 13 0 - 1) = true
  · skip
    obtain ⟨jv, lv, rfl⟩ := sIn_nat hpp.1 (by omega) c3
    have ev : tn (nI jv) = jv := tn_nI (by omega)
    refine wa_callV F [.ref 0] (c_X5_productAt_ok hst D TC H0 ad X S o jv lv hb13 (hall TC X S o) (fun _ _ z => z)) mw_X5_productAt ml_X5_108 (hm_c (TC := TC) (X := X) (S := S) (o := o)) rfl rfl (Nat.le_of_ble_eq_true rfl) ⟨(Nat.le_of_ble_eq_true rfl), (Nat.le_of_ble_eq_true rfl)⟩ ⟨(Nat.le_of_ble_eq_true rfl), (Nat.le_of_ble_eq_true rfl)⟩ dX5_wanting_3 PR_ag (fun _ z => z.elim) ?_
    rintro _ _ _ ⟨rfl, rfl, rfl⟩
    refine wa_callV F [] (c_X5_firstLack hst D TC H0 ad X S o jv lv _ hi (hall TC X S o) (fun _ _ z => z)) mw_X5_firstLack ml_X5_137 (hm_c (TC := TC) (X := X) (S := S) (o := o)) rfl rfl (Nat.le_of_ble_eq_true rfl) ⟨Nat.le_of_ble_eq_true rfl, Nat.le_of_ble_eq_true rfl⟩ ⟨Nat.le_of_ble_eq_true rfl, Nat.le_of_ble_eq_true rfl⟩ dX5_wanting_6 PR_ag (fun _ z => z.elim) ?_
    rintro _ _ _ ⟨rfl, rfl, rfl⟩
    refine wa_iret F rfl (Nat.le_of_ble_eq_true rfl) (Nat.le_of_ble_eq_true rfl) dX5_wanting_9 ?_
    have ek : kQp X (nI jv) = 0 := by simp [kQp, c3, ev]
    refine ⟨ek, ?_, rfl, ?_⟩
    · refine congrArg (fun z => some (Value.int z)) ?_
      unfold rWt; rw [ev]
    · rfl
  · skip
    replace c3 : sIn v 0 (X 13 0 - 1) = false := Bool.eq_false_iff.mpr c3
    refine wa_callV F [.ref 0] (c_X5_productAt_no hst D TC H0 ad X S o v hpp.1 hb13 c3 (hall TC X S o) (fun _ _ z => z)) mw_X5_productAt ml_X5_108 (hm_c (TC := TC) (X := X) (S := S) (o := o)) rfl rfl (Nat.le_of_ble_eq_true rfl) ⟨(Nat.le_of_ble_eq_true rfl), (Nat.le_of_ble_eq_true rfl)⟩ ⟨(Nat.le_of_ble_eq_true rfl), (Nat.le_of_ble_eq_true rfl)⟩ dX5_wanting_3 (fun _ _ _ z => z.elim) (fun E hE => ?_) (fun _ _ _ z => z.elim)
    subst hE
    have ek : kQp X v = 1 := by simp [kQp, c3]
    exact wx_out F (Nat.le_of_ble_eq_true rfl) (Nat.le_of_ble_eq_true rfl) ⟨rfl, ek⟩ rfl rfl
set_option maxHeartbeats 2000000 in
set_option maxRecDepth 20000 in
theorem c_X5_wantingAnew {l : Launch} (hst : l.stackTraces = false) (D : va_G) (TC : Nat → ClassId) (H0 : Heap) (ad : Nat → Nat) (X S : St) (o : Nat → Int64) (v : Int32) (n : Nat) (hi : INV n X) : CC l D (tysOf TC) H0 yX5_wantingAnew cX5_wantingAnew 2 (some .int) 7 1 6 [.ref 0, .int v] ad (hall TC X S o) (PK (kWn X v) ad (some (.int (rWn X v))) (hall TC X S o)) (fun E => (E = "java/lang/IndexOutOfBoundsException" ∧ kWn X v = 1)) := by
  refine cc_intro hst (by decide +kernel) (Nat.le_of_ble_eq_true rfl) ?_
  intro p e s m args below meth c F
  rw [show lv_args 0 [.ref 0, .int v] = [(0, .ref 0), (1, .int v)] from rfl]
  obtain ⟨hc, hs, hpp, hd0, hmm, h7, h8, hbo, hu0, hvr⟩ := id hi
  obtain ⟨hvh, hday, hclo, h5, h12, h21, hze, h24, hrk, hbz⟩ := hvr
  have hb2 := hc.2; have hb9 := hs.2; have hb13 := hpp.2; have hb25 := hd0.2; have hb28 := hmm.2
  refine wa_aload_n F dX5_wantingAnew_0 (i := 0) rfl 0 rfl ?_
  refine wa_iload_n F dX5_wantingAnew_1 (i := 1) rfl 1 rfl ?_
  by_cases c2 : sIn v 0 (X 28 0 - 1) = true
  · skip
    obtain ⟨jv, lv, rfl⟩ := sIn_nat hmm.1 (by omega) c2
    have ev : tn (nI jv) = jv := tn_nI (by omega)
    refine wa_callV F [] (c_X5_batchAt_ok hst D TC H0 ad X S o jv lv hb28 (hall TC X S o) (fun _ _ z => z)) mw_X5_batchAt ml_X5_193 (hm_c (TC := TC) (X := X) (S := S) (o := o)) rfl rfl (Nat.le_of_ble_eq_true rfl) ⟨(Nat.le_of_ble_eq_true rfl), (Nat.le_of_ble_eq_true rfl)⟩ ⟨(Nat.le_of_ble_eq_true rfl), (Nat.le_of_ble_eq_true rfl)⟩ dX5_wantingAnew_2 PR_ag (fun _ z => z.elim) ?_
    rintro _ _ _ ⟨rfl, rfl, rfl⟩
    refine wa_getN (v := .int (X 33 jv)) F LY_X1 (hm_bat (TC := TC) (X := X) (S := S) (o := o) lv hb28) 4 (by decide) fn_X5_270 rfl dX5_wantingAnew_5 ?_
    refine wa_iret F rfl (Nat.le_of_ble_eq_true rfl) (Nat.le_of_ble_eq_true rfl) dX5_wantingAnew_8 ?_
    have ek : kWn X (nI jv) = 0 := by simp [kWn, c2, ev]
    refine ⟨ek, ?_, rfl, ?_⟩
    · refine congrArg (fun z => some (Value.int z)) ?_
      unfold rWn; rw [ev]
    · rfl
  · skip
    replace c2 : sIn v 0 (X 28 0 - 1) = false := Bool.eq_false_iff.mpr c2
    refine wa_callV F [] (c_X5_batchAt_no hst D TC H0 ad X S o v hmm.1 hb28 c2 (hall TC X S o) (fun _ _ z => z)) mw_X5_batchAt ml_X5_193 (hm_c (TC := TC) (X := X) (S := S) (o := o)) rfl rfl (Nat.le_of_ble_eq_true rfl) ⟨(Nat.le_of_ble_eq_true rfl), (Nat.le_of_ble_eq_true rfl)⟩ ⟨(Nat.le_of_ble_eq_true rfl), (Nat.le_of_ble_eq_true rfl)⟩ dX5_wantingAnew_2 (fun _ _ _ z => z.elim) (fun E hE => ?_) (fun _ _ _ z => z.elim)
    subst hE
    have ek : kWn X v = 1 := by simp [kWn, c2]
    exact wx_out F (Nat.le_of_ble_eq_true rfl) (Nat.le_of_ble_eq_true rfl) ⟨rfl, ek⟩ rfl rfl
set_option maxHeartbeats 2000000 in
set_option maxRecDepth 20000 in
theorem c_X5_demands {l : Launch} (hst : l.stackTraces = false) (D : va_G) (TC : Nat → ClassId) (H0 : Heap) (ad : Nat → Nat) (X S : St) (o : Nat → Int64) (v : Int32) (q : Bool) (n : Nat) (hi : INV n X) : CC l D (tysOf TC) H0 yX5_demands cX5_demands 5 (some .int) 7 1 6 [.ref 0, .int v, .int (bI q)] ad (hall TC X S o) (PK (kQp X v) ad (some (.int (rDm X v q))) (hall TC X S o)) (fun E => (E = "java/lang/IndexOutOfBoundsException" ∧ kQp X v = 1)) := by
  refine cc_intro hst (by decide +kernel) (Nat.le_of_ble_eq_true rfl) ?_
  intro p e s m args below meth c F
  rw [show lv_args 0 [.ref 0, .int v, .int (bI q)] = [(0, .ref 0), (1, .int v), (2, .int (bI q))] from rfl]
  obtain ⟨hc, hs, hpp, hd0, hmm, h7, h8, hbo, hu0, hvr⟩ := id hi
  obtain ⟨hvh, hday, hclo, h5, h12, h21, hze, h24, hrk, hbz⟩ := hvr
  have hb2 := hc.2; have hb9 := hs.2; have hb13 := hpp.2; have hb25 := hd0.2; have hb28 := hmm.2
  refine wa_aload_n F dX5_demands_0 (i := 0) rfl 0 rfl ?_
  refine wa_iload_n F dX5_demands_1 (i := 1) rfl 1 rfl ?_
  by_cases c2 : sIn v 0 (X 13 0 - 1) = true
  · skip
    obtain ⟨jv, lv, rfl⟩ := sIn_nat hpp.1 (by omega) c2
    have ev : tn (nI jv) = jv := tn_nI (by omega)
    refine wa_callV F [] (c_X5_productAt_ok hst D TC H0 ad X S o jv lv hb13 (hall TC X S o) (fun _ _ z => z)) mw_X5_productAt ml_X5_108 (hm_c (TC := TC) (X := X) (S := S) (o := o)) rfl rfl (Nat.le_of_ble_eq_true rfl) ⟨(Nat.le_of_ble_eq_true rfl), (Nat.le_of_ble_eq_true rfl)⟩ ⟨(Nat.le_of_ble_eq_true rfl), (Nat.le_of_ble_eq_true rfl)⟩ dX5_demands_2 PR_ag (fun _ z => z.elim) ?_
    rintro _ _ _ ⟨rfl, rfl, rfl⟩
    refine wa_astore_n (lv' := [(3, .ref (1200 + jv)), (0, .ref 0), (1, .int (nI jv)), (2, .int (bI q))]) F dX5_demands_5 (i := 3) rfl (by decide) rfl ?_
    refine wa_aload_n F dX5_demands_6 (i := 0) rfl 1 rfl ?_
    refine wa_aload_n F dX5_demands_7 (i := 3) rfl 0 rfl ?_
    refine wa_callV F [] (c_X5_hazardsDemanded hst D TC H0 ad X S o jv lv _ hi (hall TC X S o) (fun _ _ z => z)) mw_X5_hazardsDemanded ml_X5_248 (hm_c (TC := TC) (X := X) (S := S) (o := o)) rfl rfl (Nat.le_of_ble_eq_true rfl) ⟨Nat.le_of_ble_eq_true rfl, Nat.le_of_ble_eq_true rfl⟩ ⟨Nat.le_of_ble_eq_true rfl, Nat.le_of_ble_eq_true rfl⟩ dX5_demands_8 PR_ag (fun _ z => z.elim) ?_
    rintro _ _ _ ⟨rfl, rfl, rfl⟩
    refine wa_istore (lv' := [(4, .int (sDem X jv)), (3, .ref (1200 + jv)), (0, .ref 0), (1, .int (nI jv)), (2, .int (bI q))]) F dX5_demands_11 (by decide) rfl ?_
    refine wa_iload_n F dX5_demands_13 (i := 2) rfl 4 rfl ?_
    refine wa_if_eq (tgt := 27) F dX5_demands_14 (by decide) (fun c14 => ?_) (fun c14 => ?_)
    · skip
      replace c14 : q = false := bI_f c14
      refine wa_iload F dX5_demands_27 0 rfl ?_
      refine wa_iret F rfl (Nat.le_of_ble_eq_true rfl) (Nat.le_of_ble_eq_true rfl) dX5_demands_29 ?_
      have ek : kQp X (nI jv) = 0 := by simp [kQp, c2, c14, ev]
      refine ⟨ek, ?_, rfl, ?_⟩
      · refine congrArg (fun z => some (Value.int z)) ?_
        unfold rDm; rw [ev, c14]; rfl
      · rfl
    · skip
      replace c14 : q = true := bI_t c14
      refine wa_aload_n F dX5_demands_17 (i := 0) rfl 2 rfl ?_
      refine wa_aload_n F dX5_demands_18 (i := 3) rfl 1 rfl ?_
      refine wa_iload F dX5_demands_19 0 rfl ?_
      refine wa_callV F [] (c_X5_hazardsKept hst D TC H0 ad X S o jv lv _ hi (hall TC X S o) (fun _ _ z => z)) mw_X5_hazardsKept ml_X5_251 (hm_c (TC := TC) (X := X) (S := S) (o := o)) rfl rfl (Nat.le_of_ble_eq_true rfl) ⟨Nat.le_of_ble_eq_true rfl, Nat.le_of_ble_eq_true rfl⟩ ⟨Nat.le_of_ble_eq_true rfl, Nat.le_of_ble_eq_true rfl⟩ dX5_demands_21 PR_ag (fun _ z => z.elim) ?_
      rintro _ _ _ ⟨rfl, rfl, rfl⟩
      refine wa_goto (tgt := 29) F dX5_demands_24 (by decide) ?_
      refine wa_iret F rfl (Nat.le_of_ble_eq_true rfl) (Nat.le_of_ble_eq_true rfl) dX5_demands_29 ?_
      have ek : kQp X (nI jv) = 0 := by simp [kQp, c2, c14, ev]
      refine ⟨ek, ?_, rfl, ?_⟩
      · refine congrArg (fun z => some (Value.int z)) ?_
        unfold rDm; rw [ev, c14]; rfl
      · rfl
  · skip
    replace c2 : sIn v 0 (X 13 0 - 1) = false := Bool.eq_false_iff.mpr c2
    refine wa_callV F [] (c_X5_productAt_no hst D TC H0 ad X S o v hpp.1 hb13 c2 (hall TC X S o) (fun _ _ z => z)) mw_X5_productAt ml_X5_108 (hm_c (TC := TC) (X := X) (S := S) (o := o)) rfl rfl (Nat.le_of_ble_eq_true rfl) ⟨(Nat.le_of_ble_eq_true rfl), (Nat.le_of_ble_eq_true rfl)⟩ ⟨(Nat.le_of_ble_eq_true rfl), (Nat.le_of_ble_eq_true rfl)⟩ dX5_demands_2 (fun _ _ _ z => z.elim) (fun E hE => ?_) (fun _ _ _ z => z.elim)
    subst hE
    have ek : kQp X v = 1 := by simp [kQp, c2]
    exact wx_out F (Nat.le_of_ble_eq_true rfl) (Nat.le_of_ble_eq_true rfl) ⟨rfl, ek⟩ rfl rfl
set_option maxHeartbeats 2000000 in
set_option maxRecDepth 20000 in
theorem c_X5_riskOf {l : Launch} (hst : l.stackTraces = false) (D : va_G) (TC : Nat → ClassId) (H0 : Heap) (ad : Nat → Nat) (X S : St) (o : Nat → Int64) (v : Int32) (z : Int32) (q : Bool) (n : Nat) (hi : INV n X) : CC l D (tysOf TC) H0 yX5_riskOf cX5_riskOf 5 (some .int) 7 1 6 [.ref 0, .int v, .int z, .int (bI q)] ad (hall TC X S o) (PK (kRO X v z) ad (some (.int (rRO X v z q))) (hall TC X S o)) (fun E => (E = "java/lang/IndexOutOfBoundsException" ∧ kRO X v z = 1)) := by
  refine cc_intro hst (by decide +kernel) (Nat.le_of_ble_eq_true rfl) ?_
  intro p e s m args below meth c F
  rw [show lv_args 0 [.ref 0, .int v, .int z, .int (bI q)] = [(0, .ref 0), (1, .int v), (2, .int z), (3, .int (bI q))] from rfl]
  obtain ⟨hc, hs, hpp, hd0, hmm, h7, h8, hbo, hu0, hvr⟩ := id hi
  obtain ⟨hvh, hday, hclo, h5, h12, h21, hze, h24, hrk, hbz⟩ := hvr
  have hb2 := hc.2; have hb9 := hs.2; have hb13 := hpp.2; have hb25 := hd0.2; have hb28 := hmm.2
  refine wa_aload_n F dX5_riskOf_0 (i := 0) rfl 0 rfl ?_
  refine wa_iload_n F dX5_riskOf_1 (i := 1) rfl 1 rfl ?_
  by_cases c2 : sIn v 0 (X 13 0 - 1) = true
  · skip
    obtain ⟨jv, lv, rfl⟩ := sIn_nat hpp.1 (by omega) c2
    have ev : tn (nI jv) = jv := tn_nI (by omega)
    refine wa_callV F [] (c_X5_productAt_ok hst D TC H0 ad X S o jv lv hb13 (hall TC X S o) (fun _ _ z => z)) mw_X5_productAt ml_X5_108 (hm_c (TC := TC) (X := X) (S := S) (o := o)) rfl rfl (Nat.le_of_ble_eq_true rfl) ⟨(Nat.le_of_ble_eq_true rfl), (Nat.le_of_ble_eq_true rfl)⟩ ⟨(Nat.le_of_ble_eq_true rfl), (Nat.le_of_ble_eq_true rfl)⟩ dX5_riskOf_2 PR_ag (fun _ z => z.elim) ?_
    rintro _ _ _ ⟨rfl, rfl, rfl⟩
    refine wa_astore (lv' := [(4, .ref (1200 + jv)), (0, .ref 0), (1, .int (nI jv)), (2, .int z), (3, .int (bI q))]) F dX5_riskOf_5 (by decide) rfl ?_
    refine wa_iload_n F dX5_riskOf_7 (i := 2) rfl 3 rfl ?_
    by_cases c8 : sIn z 0 7 = true
    · skip
      obtain ⟨jz, lz, rfl⟩ := sIn_lit (n := 7) (by decide) c8
      have ez : tn (nI jz) = jz := tn_nI (by omega)
      refine wa_callS F [] (c_X5_checkHazard_ok hst D (tysOf TC) H0 ad (hall TC X S o) (nI jz) c8) mw_X5_checkHazard ml_X5_121 rfl (Nat.le_of_ble_eq_true rfl) ⟨(Nat.le_of_ble_eq_true rfl), (Nat.le_of_ble_eq_true rfl)⟩ ⟨(Nat.le_of_ble_eq_true rfl), (Nat.le_of_ble_eq_true rfl)⟩ dX5_riskOf_8 PR_ag (fun _ z => z.elim) ?_
      rintro _ _ _ ⟨rfl, rfl, rfl⟩
      refine wa_iload_n F dX5_riskOf_11 (i := 3) rfl 4 rfl ?_
      refine wa_if_eq (tgt := 25) F dX5_riskOf_12 (by decide) (fun c12 => ?_) (fun c12 => ?_)
      · skip
        replace c12 : q = false := bI_f c12
        refine wa_aload F dX5_riskOf_25 0 rfl ?_
        refine wa_getN (v := .ref (1500 + jv)) F LY_X3 (hm_prd (TC := TC) (X := X) (S := S) (o := o) lv hb13) 0 (by decide) fn_X5_124 rfl dX5_riskOf_27 ?_
        refine wa_iload_n F dX5_riskOf_30 (i := 2) rfl 3 rfl ?_
        refine wa_ialV F 0 rfl (hm_rb (TC := TC) (X := X) (S := S) (o := o) lv hb13) jz rfl (by omega) (by decide) (v := (X 16 (8 * jv + jz))) (mk_lt (by omega)) dX5_riskOf_31 ?_
        refine wa_iret F rfl (Nat.le_of_ble_eq_true rfl) (Nat.le_of_ble_eq_true rfl) dX5_riskOf_32 ?_
        have ek : kRO X (nI jv) (nI jz) = 0 := by simp [kRO, c2, c8, c12, ev, ez]
        refine ⟨ek, ?_, rfl, ?_⟩
        · refine congrArg (fun z => some (Value.int z)) ?_
          unfold rRO; rw [ev, ez, c12]; rfl
        · rfl
      · skip
        replace c12 : q = true := bI_t c12
        refine wa_aload F dX5_riskOf_15 0 rfl ?_
        refine wa_getN (v := .ref (1600 + jv)) F LY_X3 (hm_prd (TC := TC) (X := X) (S := S) (o := o) lv hb13) 1 (by decide) fn_X5_128 rfl dX5_riskOf_17 ?_
        refine wa_iload_n F dX5_riskOf_20 (i := 2) rfl 3 rfl ?_
        refine wa_ialV F 0 rfl (hm_ra (TC := TC) (X := X) (S := S) (o := o) lv hb13) jz rfl (by omega) (by decide) (v := (X 17 (8 * jv + jz))) (mk_lt (by omega)) dX5_riskOf_21 ?_
        refine wa_goto (tgt := 32) F dX5_riskOf_22 (by decide) ?_
        refine wa_iret F rfl (Nat.le_of_ble_eq_true rfl) (Nat.le_of_ble_eq_true rfl) dX5_riskOf_32 ?_
        have ek : kRO X (nI jv) (nI jz) = 0 := by simp [kRO, c2, c8, c12, ev, ez]
        refine ⟨ek, ?_, rfl, ?_⟩
        · refine congrArg (fun z => some (Value.int z)) ?_
          unfold rRO; rw [ev, ez, c12]; rfl
        · rfl
    · skip
      replace c8 : sIn z 0 7 = false := Bool.eq_false_iff.mpr c8
      refine wa_callS F [] (c_X5_checkHazard_no hst D (tysOf TC) H0 ad (hall TC X S o) z c8) mw_X5_checkHazard ml_X5_121 rfl (Nat.le_of_ble_eq_true rfl) ⟨(Nat.le_of_ble_eq_true rfl), (Nat.le_of_ble_eq_true rfl)⟩ ⟨(Nat.le_of_ble_eq_true rfl), (Nat.le_of_ble_eq_true rfl)⟩ dX5_riskOf_8 (fun _ _ _ z => z.elim) (fun E hE => ?_) (fun _ _ _ z => z.elim)
      subst hE
      have ek : kRO X (nI jv) z = 1 := by simp [kRO, c2, c8, ev]
      exact wx_out F (Nat.le_of_ble_eq_true rfl) (Nat.le_of_ble_eq_true rfl) ⟨rfl, ek⟩ rfl rfl
  · skip
    replace c2 : sIn v 0 (X 13 0 - 1) = false := Bool.eq_false_iff.mpr c2
    refine wa_callV F [] (c_X5_productAt_no hst D TC H0 ad X S o v hpp.1 hb13 c2 (hall TC X S o) (fun _ _ z => z)) mw_X5_productAt ml_X5_108 (hm_c (TC := TC) (X := X) (S := S) (o := o)) rfl rfl (Nat.le_of_ble_eq_true rfl) ⟨(Nat.le_of_ble_eq_true rfl), (Nat.le_of_ble_eq_true rfl)⟩ ⟨(Nat.le_of_ble_eq_true rfl), (Nat.le_of_ble_eq_true rfl)⟩ dX5_riskOf_2 (fun _ _ _ z => z.elim) (fun E hE => ?_) (fun _ _ _ z => z.elim)
    subst hE
    have ek : kRO X v z = 1 := by simp [kRO, c2]
    exact wx_out F (Nat.le_of_ble_eq_true rfl) (Nat.le_of_ble_eq_true rfl) ⟨rfl, ek⟩ rfl rfl
