theorem rcU_s (S : St) (v : Int32) (a c : Nat) : rcU S v a (c + 1) = sU (rcU S v a c) 34 (a + c) (if rcF (rcU S v a c) v (a + c) then 1 else rcU S v a c 34 (a + c)) := rfl
theorem rcT_s (S : St) (v : Int32) (a c : Nat) : rcT S v a (c + 1) = rcT S v a c + (if rcF (rcU S v a c) v (a + c) then rcU S v a c 30 (a + c) else 0) := rfl
theorem cnt_r {X : St} {v : Int32} {a : Nat} {g : Nat} (h : (g != 34) = true) : ∀ c, cnt X g = cnt (rcU X v a c) g
  | 0 => rfl
  | c + 1 => (cnt_r h c).trans (cnt_u h)
theorem lt_r {X : St} {v : Int32} {a c i g : Nat} (hi : i < cnt X g) (h : (g != 34) = true := by decide) : i < cnt (rcU X v a c) g := (cnt_r h c) ▸ hi
theorem le_r {X : St} {v : Int32} {a c n g : Nat} (hi : cnt X g ≤ n) (h : (g != 34) = true := by decide) : cnt (rcU X v a c) g ≤ n := (cnt_r h c) ▸ hi
set_option maxHeartbeats 2000000 in
set_option maxRecDepth 20000 in
theorem c_X5_special {l : Launch} (hst : l.stackTraces = false) (D : va_G) (TC : Nat → ClassId) (H0 : Heap) (ad : Nat → Nat) (X S : St) (o : Nat → Int64) (a : Int32) (b : Int32) (n : Nat) (hi : INV n X) : CC l D (tysOf TC) H0 yX5_special cX5_special 6 (some .boolean) 7 1 6 [.ref 0, .int a, .int b] ad (hall TC X S o) (PK (kSpc X a b) ad (some (.int (rSpc X a b))) (hall TC (uSpc a b X) S o)) (fun E => (E = "java/lang/IndexOutOfBoundsException" ∧ kSpc X a b = 1) ∨ (E = "java/lang/IllegalArgumentException" ∧ kSpc X a b = 2) ∨ (E = "java/lang/IllegalStateException" ∧ kSpc X a b = 3)) := by
  refine cc_intro hst (by decide +kernel) (Nat.le_of_ble_eq_true rfl) ?_
  intro p e s m args below meth c F
  rw [show lv_args 0 [.ref 0, .int a, .int b] = [(0, .ref 0), (1, .int a), (2, .int b)] from rfl]
  obtain ⟨hc, hs, hpp, hd0, hmm, h7, h8, hbo, hu0, hvr⟩ := id hi
  obtain ⟨hvh, hday, hclo, h5, h12, h21, hze, h24, hrk, hbz⟩ := hvr
  have hb2 := hc.2; have hb9 := hs.2; have hb13 := hpp.2; have hb25 := hd0.2; have hb28 := hmm.2
  refine wa_aload_n F dX5_special_0 (i := 0) rfl 0 rfl ?_
  refine wa_iload_n F dX5_special_1 (i := 1) rfl 1 rfl ?_
  by_cases c2 : sIn a 0 (X 2 0 - 1) = true
  · skip
    obtain ⟨ja, la, rfl⟩ := sIn_nat hc.1 (by omega) c2
    have ea : tn (nI ja) = ja := tn_nI (by omega)
    refine wa_callV F [] (c_X5_actAt_ok hst D TC H0 ad X S o ja la hb2 (hall TC X S o) (fun _ _ z => z)) mw_X5_actAt ml_X5_57 (hm_c (TC := TC) (X := X) (S := S) (o := o)) rfl rfl (Nat.le_of_ble_eq_true rfl) ⟨(Nat.le_of_ble_eq_true rfl), (Nat.le_of_ble_eq_true rfl)⟩ ⟨(Nat.le_of_ble_eq_true rfl), (Nat.le_of_ble_eq_true rfl)⟩ dX5_special_2 PR_ag (fun _ z => z.elim) ?_
    rintro _ _ _ ⟨rfl, rfl, rfl⟩
    refine wa_astore_n (lv' := [(3, .ref (1000 + ja)), (0, .ref 0), (1, .int (nI ja)), (2, .int b)]) F dX5_special_5 (i := 3) rfl (by decide) rfl ?_
    refine wa_aload_n F dX5_special_6 (i := 0) rfl 1 rfl ?_
    refine wa_iload_n F dX5_special_7 (i := 2) rfl 3 rfl ?_
    by_cases c8 : sIn b 0 (X 2 0 - 1) = true
    · skip
      obtain ⟨jb, lb, rfl⟩ := sIn_nat hc.1 (by omega) c8
      have eb : tn (nI jb) = jb := tn_nI (by omega)
      refine wa_callV F [] (c_X5_actAt_ok hst D TC H0 ad X S o jb lb hb2 (hall TC X S o) (fun _ _ z => z)) mw_X5_actAt ml_X5_57 (hm_c (TC := TC) (X := X) (S := S) (o := o)) rfl rfl (Nat.le_of_ble_eq_true rfl) ⟨(Nat.le_of_ble_eq_true rfl), (Nat.le_of_ble_eq_true rfl)⟩ ⟨(Nat.le_of_ble_eq_true rfl), (Nat.le_of_ble_eq_true rfl)⟩ dX5_special_8 PR_ag (fun _ z => z.elim) ?_
      rintro _ _ _ ⟨rfl, rfl, rfl⟩
      refine wa_astore (lv' := [(4, .ref (1000 + jb)), (3, .ref (1000 + ja)), (0, .ref 0), (1, .int (nI ja)), (2, .int (nI jb))]) F dX5_special_11 (by decide) rfl ?_
      refine wa_iload_n F dX5_special_13 (i := 1) rfl 3 rfl ?_
      refine wa_iload_n F dX5_special_14 (i := 2) rfl 4 rfl ?_
      refine wa_icmp_ne (tgt := 28) F dX5_special_15 (by decide) (fun c15 => ?_) (fun c15 => ?_)
      · skip
        refine wa_aload_n F dX5_special_28 (i := 0) rfl 2 rfl ?_
        refine wa_aload_n F dX5_special_29 (i := 3) rfl 1 rfl ?_
        refine wa_callV F [] (c_X5_actsMoreSpecialThan hst D TC H0 ad X S o ja la _ hi (hall TC X S o) (fun _ _ z => z)) mw_X5_actsMoreSpecialThan ml_X5_66 (hm_c (TC := TC) (X := X) (S := S) (o := o)) rfl rfl (Nat.le_of_ble_eq_true rfl) ⟨Nat.le_of_ble_eq_true rfl, Nat.le_of_ble_eq_true rfl⟩ ⟨Nat.le_of_ble_eq_true rfl, Nat.le_of_ble_eq_true rfl⟩ dX5_special_30 PR_ag (fun _ z => z.elim) ?_
        rintro _ _ _ ⟨rfl, rfl, rfl⟩
        refine wa_iload_n F dX5_special_33 (i := 2) rfl 4 rfl ?_
        refine wa_callS F [] (c_X5_hasBit hst D (tysOf TC) H0 ad (hall TC X S o) (mO X (msB X ja) 5) (nI jb)) mw_X5_hasBit ml_X5_70 rfl (Nat.le_of_ble_eq_true rfl) ⟨Nat.le_of_ble_eq_true rfl, Nat.le_of_ble_eq_true rfl⟩ ⟨Nat.le_of_ble_eq_true rfl, Nat.le_of_ble_eq_true rfl⟩ dX5_special_34 PR_ag (fun _ z => z.elim) ?_
        rintro _ _ _ ⟨rfl, rfl, rfl⟩
        refine wa_if_eq (tgt := 50) F dX5_special_37 (by decide) (fun c37 => ?_) (fun c37 => ?_)
        · skip
          replace c37 : (hB (mO X (msB X ja) 5) (nI jb)) = false := bI_f c37
          rw [ring_eq hi (by omega) (by omega)] at c37; simp at c37
          refine wa_aload F dX5_special_50 0 rfl ?_
          refine wa_getN (v := .int (msB X jb)) F LY_X0 (hm_act (TC := TC) (X := X) (S := S) (o := o) lb hb2) 4 (by decide) fn_X5_76 rfl dX5_special_52 ?_
          refine wa_iload_n F dX5_special_55 (i := 1) rfl 3 rfl ?_
          refine wa_callS F [] (c_X5_hasBit hst D (tysOf TC) H0 ad (hall TC X S o) (msB X jb) (nI ja)) mw_X5_hasBit ml_X5_70 rfl (Nat.le_of_ble_eq_true rfl) ⟨Nat.le_of_ble_eq_true rfl, Nat.le_of_ble_eq_true rfl⟩ ⟨Nat.le_of_ble_eq_true rfl, Nat.le_of_ble_eq_true rfl⟩ dX5_special_56 PR_ag (fun _ z => z.elim) ?_
          rintro _ _ _ ⟨rfl, rfl, rfl⟩
          refine wa_if_ne (tgt := 66) F dX5_special_59 (by decide) (fun c59 => ?_) (fun c59 => ?_)
          · skip
            replace c59 : (hB (msB X jb) (nI ja)) = true := bI_t c59
            rw [hB_gb _ (by omega), gb_ms X jb (by omega)] at c59; unfold RR at c59; simp at c59
            refine wa_iconst (v := 0) F dX5_special_66 (by decide) ?_
            refine wa_istore (lv' := [(5, .int 0), (4, .ref (1000 + jb)), (3, .ref (1000 + ja)), (0, .ref 0), (1, .int (nI ja)), (2, .int (nI jb))]) F dX5_special_67 (by decide) rfl ?_
            refine wa_aload F dX5_special_69 1 rfl ?_
            refine wa_dup F dX5_special_71 rfl ?_
            refine wa_getN (v := .int (msB X jb)) F LY_X0 (hm_act (TC := TC) (X := X) (S := S) (o := o) lb hb2) 4 (by decide) fn_X5_76 rfl dX5_special_72 ?_
            refine wa_iconst (v := 1) F dX5_special_75 (by decide) ?_
            refine wa_iload_n F dX5_special_76 (i := 1) rfl 4 rfl ?_
            refine wa_ishl F dX5_special_77 ?_
            refine wa_ior F dX5_special_78 ?_
            refine wa_putN F LY_X0 (hm_act (TC := TC) (X := X) (S := S) (o := o) lb hb2) 4 (by decide) fn_X5_76 rfl rfl rfl (Nat.le_of_ble_eq_true rfl) dX5_special_79 (pu_act_4 (show ja < 6 by omega) lb hb2) ?_
            refine wa_iload F dX5_special_82 0 rfl ?_
            refine wa_iret F rfl (Nat.le_of_ble_eq_true rfl) (Nat.le_of_ble_eq_true rfl) dX5_special_84 ?_
            have ek : kSpc X (nI ja) (nI jb) = 0 := by simp [kSpc, c2, c8, c15, c37, c59, ea, eb]
            refine ⟨ek, ?_, rfl, ?_⟩
            · refine congrArg (fun z => some (Value.int z)) ?_
              unfold rSpc; rw [ea, eb]; simp [bI, c59]
            · refine congrArg (fun z => hall TC z S o) ?_
              unfold uSpc; rw [ea, eb]
          · skip
            replace c59 : (hB (msB X jb) (nI ja)) = false := bI_f c59
            rw [hB_gb _ (by omega), gb_ms X jb (by omega)] at c59; unfold RR at c59; simp at c59
            refine wa_iconst (v := 1) F dX5_special_62 (by decide) ?_
            refine wa_goto (tgt := 67) F dX5_special_63 (by decide) ?_
            refine wa_istore (lv' := [(5, .int 1), (4, .ref (1000 + jb)), (3, .ref (1000 + ja)), (0, .ref 0), (1, .int (nI ja)), (2, .int (nI jb))]) F dX5_special_67 (by decide) rfl ?_
            refine wa_aload F dX5_special_69 1 rfl ?_
            refine wa_dup F dX5_special_71 rfl ?_
            refine wa_getN (v := .int (msB X jb)) F LY_X0 (hm_act (TC := TC) (X := X) (S := S) (o := o) lb hb2) 4 (by decide) fn_X5_76 rfl dX5_special_72 ?_
            refine wa_iconst (v := 1) F dX5_special_75 (by decide) ?_
            refine wa_iload_n F dX5_special_76 (i := 1) rfl 4 rfl ?_
            refine wa_ishl F dX5_special_77 ?_
            refine wa_ior F dX5_special_78 ?_
            refine wa_putN F LY_X0 (hm_act (TC := TC) (X := X) (S := S) (o := o) lb hb2) 4 (by decide) fn_X5_76 rfl rfl rfl (Nat.le_of_ble_eq_true rfl) dX5_special_79 (pu_act_4 (show ja < 6 by omega) lb hb2) ?_
            refine wa_iload F dX5_special_82 0 rfl ?_
            refine wa_iret F rfl (Nat.le_of_ble_eq_true rfl) (Nat.le_of_ble_eq_true rfl) dX5_special_84 ?_
            have ek : kSpc X (nI ja) (nI jb) = 0 := by simp [kSpc, c2, c8, c15, c37, c59, ea, eb]
            refine ⟨ek, ?_, rfl, ?_⟩
            · refine congrArg (fun z => some (Value.int z)) ?_
              unfold rSpc; rw [ea, eb]; simp [bI, c59]
            · refine congrArg (fun z => hall TC z S o) ?_
              unfold uSpc; rw [ea, eb]
        · skip
          replace c37 : (hB (mO X (msB X ja) 5) (nI jb)) = true := bI_t c37
          rw [ring_eq hi (by omega) (by omega)] at c37; simp at c37
          have ek : kSpc X (nI ja) (nI jb) = 3 := by simp [kSpc, c2, c8, c15, c37, ea, eb]
          exact wa_throwS F ft_IS cl_X5_47 in_IS sr_X5_74 at_IS gd_IS dX5_special_40 dX5_special_43 dX5_special_44 dX5_special_46 dX5_special_49 (Nat.le_of_ble_eq_true rfl) (Nat.le_of_ble_eq_true rfl) (Nat.le_of_ble_eq_true rfl) (Nat.le_of_ble_eq_true rfl) (Nat.le_of_ble_eq_true rfl) (Nat.le_of_ble_eq_true rfl) (Nat.le_of_ble_eq_true rfl) (Or.inr (Or.inr ⟨rfl, ek⟩)) rfl rfl
      · skip
        have ek : kSpc X (nI ja) (nI jb) = 2 := by simp [kSpc, c2, c8, c15, ea, eb]
        exact wa_throwS F ft_IA cl_X5_61 in_IA sr_X5_63 at_IA gd_IA dX5_special_18 dX5_special_21 dX5_special_22 dX5_special_24 dX5_special_27 (Nat.le_of_ble_eq_true rfl) (Nat.le_of_ble_eq_true rfl) (Nat.le_of_ble_eq_true rfl) (Nat.le_of_ble_eq_true rfl) (Nat.le_of_ble_eq_true rfl) (Nat.le_of_ble_eq_true rfl) (Nat.le_of_ble_eq_true rfl) (Or.inr (Or.inl ⟨rfl, ek⟩)) rfl rfl
    · skip
      replace c8 : sIn b 0 (X 2 0 - 1) = false := Bool.eq_false_iff.mpr c8
      refine wa_callV F [] (c_X5_actAt_no hst D TC H0 ad X S o b hc.1 hb2 c8 (hall TC X S o) (fun _ _ z => z)) mw_X5_actAt ml_X5_57 (hm_c (TC := TC) (X := X) (S := S) (o := o)) rfl rfl (Nat.le_of_ble_eq_true rfl) ⟨(Nat.le_of_ble_eq_true rfl), (Nat.le_of_ble_eq_true rfl)⟩ ⟨(Nat.le_of_ble_eq_true rfl), (Nat.le_of_ble_eq_true rfl)⟩ dX5_special_8 (fun _ _ _ z => z.elim) (fun E hE => ?_) (fun _ _ _ z => z.elim)
      subst hE
      have ek : kSpc X (nI ja) b = 1 := by simp [kSpc, c2, c8, ea]
      exact wx_out F (Nat.le_of_ble_eq_true rfl) (Nat.le_of_ble_eq_true rfl) (Or.inl ⟨rfl, ek⟩) rfl rfl
  · skip
    replace c2 : sIn a 0 (X 2 0 - 1) = false := Bool.eq_false_iff.mpr c2
    refine wa_callV F [] (c_X5_actAt_no hst D TC H0 ad X S o a hc.1 hb2 c2 (hall TC X S o) (fun _ _ z => z)) mw_X5_actAt ml_X5_57 (hm_c (TC := TC) (X := X) (S := S) (o := o)) rfl rfl (Nat.le_of_ble_eq_true rfl) ⟨(Nat.le_of_ble_eq_true rfl), (Nat.le_of_ble_eq_true rfl)⟩ ⟨(Nat.le_of_ble_eq_true rfl), (Nat.le_of_ble_eq_true rfl)⟩ dX5_special_2 (fun _ _ _ z => z.elim) (fun E hE => ?_) (fun _ _ _ z => z.elim)
    subst hE
    have ek : kSpc X a b = 1 := by simp [kSpc, c2]
    exact wx_out F (Nat.le_of_ble_eq_true rfl) (Nat.le_of_ble_eq_true rfl) (Or.inl ⟨rfl, ek⟩) rfl rfl
set_option maxHeartbeats 2000000 in
set_option maxRecDepth 20000 in
theorem c_X5_productOf {l : Launch} (hst : l.stackTraces = false) (D : va_G) (TC : Nat → ClassId) (H0 : Heap) (ad : Nat → Nat) (X S : St) (o : Nat → Int64) (v : Int32) (w : Int32) (n : Nat) (hi : INV n X) : CC l D (tysOf TC) H0 yX5_productOf cX5_productOf 4 (some .int) 7 1 6 [.ref 0, .int v, .int w] ad (hall TC X S o) (PK (kPO X v w) ad (some (.int (rPO X v w))) (hall TC X S o)) (fun E => (E = "java/lang/IndexOutOfBoundsException" ∧ kPO X v w = 1) ∨ (E = "java/lang/IllegalArgumentException" ∧ kPO X v w = 2)) := by
  refine cc_intro hst (by decide +kernel) (Nat.le_of_ble_eq_true rfl) ?_
  intro p e s m args below meth c F
  rw [show lv_args 0 [.ref 0, .int v, .int w] = [(0, .ref 0), (1, .int v), (2, .int w)] from rfl]
  obtain ⟨hc, hs, hpp, hd0, hmm, h7, h8, hbo, hu0, hvr⟩ := id hi
  obtain ⟨hvh, hday, hclo, h5, h12, h21, hze, h24, hrk, hbz⟩ := hvr
  have hb2 := hc.2; have hb9 := hs.2; have hb13 := hpp.2; have hb25 := hd0.2; have hb28 := hmm.2
  refine wa_aload_n F dX5_productOf_0 (i := 0) rfl 0 rfl ?_
  refine wa_iload_n F dX5_productOf_1 (i := 1) rfl 1 rfl ?_
  by_cases c2 : sIn v 0 (X 13 0 - 1) = true
  · skip
    obtain ⟨jv, lv, rfl⟩ := sIn_nat hpp.1 (by omega) c2
    have ev : tn (nI jv) = jv := tn_nI (by omega)
    refine wa_callV F [] (c_X5_productAt_ok hst D TC H0 ad X S o jv lv hb13 (hall TC X S o) (fun _ _ z => z)) mw_X5_productAt ml_X5_108 (hm_c (TC := TC) (X := X) (S := S) (o := o)) rfl rfl (Nat.le_of_ble_eq_true rfl) ⟨(Nat.le_of_ble_eq_true rfl), (Nat.le_of_ble_eq_true rfl)⟩ ⟨(Nat.le_of_ble_eq_true rfl), (Nat.le_of_ble_eq_true rfl)⟩ dX5_productOf_2 PR_ag (fun _ z => z.elim) ?_
    rintro _ _ _ ⟨rfl, rfl, rfl⟩
    refine wa_astore_n (lv' := [(3, .ref (1200 + jv)), (0, .ref 0), (1, .int (nI jv)), (2, .int w)]) F dX5_productOf_5 (i := 3) rfl (by decide) rfl ?_
    refine wa_iload_n F dX5_productOf_6 (i := 2) rfl 3 rfl ?_
    by_cases c7 : sIn w 0 6 = true
    · skip
      obtain ⟨jw, lw, rfl⟩ := sIn_lit (n := 6) (by decide) c7
      have hsw : jw = 0 ∨ jw = 1 ∨ jw = 2 ∨ jw = 3 ∨ jw = 4 ∨ jw = 5 ∨ jw = 6 := by omega
      rcases hsw with rfl | rfl | rfl | rfl | rfl | rfl | rfl
      · skip
        refine wa_tableIn (off := 41) (tgt := 48) F dX5_productOf_7 (by decide) (by decide) rfl (by decide) ?_
        refine wa_aload_n F dX5_productOf_48 (i := 3) rfl 0 rfl ?_
        refine wa_getN (v := .int (X 14 jv)) F LY_X3 (hm_prd (TC := TC) (X := X) (S := S) (o := o) lv hb13) 3 (by decide) fn_X5_112 rfl dX5_productOf_49 ?_
        refine wa_iret F rfl (Nat.le_of_ble_eq_true rfl) (Nat.le_of_ble_eq_true rfl) dX5_productOf_52 ?_
        have ek : kPO X (nI jv) (nI 0) = 0 := by simp [kPO, c2, c7, ev]
        refine ⟨ek, ?_, rfl, ?_⟩
        · refine congrArg (fun z => some (Value.int z)) ?_
          unfold rPO; rw [ev]; rfl
        · rfl
      · skip
        refine wa_tableIn (off := 46) (tgt := 53) F dX5_productOf_7 (by decide) (by decide) rfl (by decide) ?_
        refine wa_aload_n F dX5_productOf_53 (i := 3) rfl 0 rfl ?_
        refine wa_getN (v := .int (X 15 jv)) F LY_X3 (hm_prd (TC := TC) (X := X) (S := S) (o := o) lv hb13) 4 (by decide) fn_X5_118 rfl dX5_productOf_54 ?_
        refine wa_iret F rfl (Nat.le_of_ble_eq_true rfl) (Nat.le_of_ble_eq_true rfl) dX5_productOf_57 ?_
        have ek : kPO X (nI jv) (nI 1) = 0 := by simp [kPO, c2, c7, ev]
        refine ⟨ek, ?_, rfl, ?_⟩
        · refine congrArg (fun z => some (Value.int z)) ?_
          unfold rPO; rw [ev]; rfl
        · rfl
      · skip
        refine wa_tableIn (off := 51) (tgt := 58) F dX5_productOf_7 (by decide) (by decide) rfl (by decide) ?_
        refine wa_aload_n F dX5_productOf_58 (i := 3) rfl 0 rfl ?_
        by_cases c59 : X 20 jv = -1
        · skip
          refine wa_getN (v := .null) F LY_X3 (hm_prd (TC := TC) (X := X) (S := S) (o := o) lv hb13) 7 (by decide) fn_X5_169 (congrArg some (cert_n c59)) dX5_productOf_59 ?_
          refine wa_ifnonnullN F dX5_productOf_62 ?_
          refine wa_iconst (v := (-1)) F dX5_productOf_65 (by decide) ?_
          refine wa_goto (tgt := 76) F dX5_productOf_66 (by decide) ?_
          refine wa_iret F rfl (Nat.le_of_ble_eq_true rfl) (Nat.le_of_ble_eq_true rfl) dX5_productOf_76 ?_
          have ek : kPO X (nI jv) (nI 2) = 0 := by simp [kPO, c2, c7, c59, ev]
          refine ⟨ek, ?_, rfl, ?_⟩
          · refine congrArg (fun z => some (Value.int z)) ?_
            unfold rPO; rw [ev]; exact c59
          · rfl
        · skip
          have hc59 : (X 20 jv).toNatClampNeg < cnt X 25 := ((hbo jv lv).resolve_left c59).2
          refine wa_getN (v := .ref (1300 + ((X 20 jv).toNatClampNeg))) F LY_X3 (hm_prd (TC := TC) (X := X) (S := S) (o := o) lv hb13) 7 (by decide) fn_X5_169 (congrArg some (cert_r c59)) dX5_productOf_59 ?_
          refine wa_ifnonnull (tgt := 69) F dX5_productOf_62 (by decide) ?_
          refine wa_aload_n F dX5_productOf_69 (i := 3) rfl 0 rfl ?_
          refine wa_getN (v := .ref (1300 + ((X 20 jv).toNatClampNeg))) F LY_X3 (hm_prd (TC := TC) (X := X) (S := S) (o := o) lv hb13) 7 (by decide) fn_X5_169 (congrArg some (cert_r c59)) dX5_productOf_70 ?_
          refine wa_getN (v := .int (nI ((X 20 jv).toNatClampNeg))) F LY_X2 (hm_bod (TC := TC) (X := X) (S := S) (o := o) hc59 hb25) 0 (by decide) fn_X5_178 rfl dX5_productOf_73 ?_
          refine wa_iret F rfl (Nat.le_of_ble_eq_true rfl) (Nat.le_of_ble_eq_true rfl) dX5_productOf_76 ?_
          have ek : kPO X (nI jv) (nI 2) = 0 := by simp [kPO, c2, c7, c59, ev]
          refine ⟨ek, ?_, rfl, ?_⟩
          · refine congrArg (fun z => some (Value.int z)) ?_
            unfold rPO; rw [ev]; exact ((hbo jv lv).resolve_left c59).1
          · rfl
      · skip
        refine wa_tableIn (off := 70) (tgt := 77) F dX5_productOf_7 (by decide) (by decide) rfl (by decide) ?_
        refine wa_aload_n F dX5_productOf_77 (i := 3) rfl 0 rfl ?_
        refine wa_getN (v := .int (X 21 jv)) F LY_X3 (hm_prd (TC := TC) (X := X) (S := S) (o := o) lv hb13) 8 (by decide) fn_X5_173 rfl dX5_productOf_78 ?_
        refine wa_iret F rfl (Nat.le_of_ble_eq_true rfl) (Nat.le_of_ble_eq_true rfl) dX5_productOf_81 ?_
        have ek : kPO X (nI jv) (nI 3) = 0 := by simp [kPO, c2, c7, ev]
        refine ⟨ek, ?_, rfl, ?_⟩
        · refine congrArg (fun z => some (Value.int z)) ?_
          unfold rPO; rw [ev]; rfl
        · rfl
      · skip
        refine wa_tableIn (off := 75) (tgt := 82) F dX5_productOf_7 (by decide) (by decide) rfl (by decide) ?_
        refine wa_aload_n F dX5_productOf_82 (i := 3) rfl 0 rfl ?_
        refine wa_getN (v := .int (X 22 jv)) F LY_X3 (hm_prd (TC := TC) (X := X) (S := S) (o := o) lv hb13) 9 (by decide) fn_X5_181 rfl dX5_productOf_83 ?_
        refine wa_iret F rfl (Nat.le_of_ble_eq_true rfl) (Nat.le_of_ble_eq_true rfl) dX5_productOf_86 ?_
        have ek : kPO X (nI jv) (nI 4) = 0 := by simp [kPO, c2, c7, ev]
        refine ⟨ek, ?_, rfl, ?_⟩
        · refine congrArg (fun z => some (Value.int z)) ?_
          unfold rPO; rw [ev]; rfl
        · rfl
      · skip
        refine wa_tableIn (off := 80) (tgt := 87) F dX5_productOf_7 (by decide) (by decide) rfl (by decide) ?_
        refine wa_aload_n F dX5_productOf_87 (i := 3) rfl 0 rfl ?_
        refine wa_getN (v := .int (X 23 jv)) F LY_X3 (hm_prd (TC := TC) (X := X) (S := S) (o := o) lv hb13) 6 (by decide) fn_X5_143 rfl dX5_productOf_88 ?_
        refine wa_iret F rfl (Nat.le_of_ble_eq_true rfl) (Nat.le_of_ble_eq_true rfl) dX5_productOf_91 ?_
        have ek : kPO X (nI jv) (nI 5) = 0 := by simp [kPO, c2, c7, ev]
        refine ⟨ek, ?_, rfl, ?_⟩
        · refine congrArg (fun z => some (Value.int z)) ?_
          unfold rPO; rw [ev]; rfl
        · rfl
      · skip
        refine wa_tableIn (off := 85) (tgt := 92) F dX5_productOf_7 (by decide) (by decide) rfl (by decide) ?_
        refine wa_aload_n F dX5_productOf_92 (i := 0) rfl 1 rfl ?_
        refine wa_iload_n F dX5_productOf_93 (i := 1) rfl 2 rfl ?_
        refine wa_callV F [] (c_X5_unitsOnMarket hst D TC H0 ad X S o jv _ hi (hall TC X S o) (fun _ _ z => z)) mw_X5_unitsOnMarket ml_X5_258 (hm_c (TC := TC) (X := X) (S := S) (o := o)) rfl rfl (Nat.le_of_ble_eq_true rfl) ⟨Nat.le_of_ble_eq_true rfl, Nat.le_of_ble_eq_true rfl⟩ ⟨Nat.le_of_ble_eq_true rfl, Nat.le_of_ble_eq_true rfl⟩ dX5_productOf_94 PR_ag (fun _ z => z.elim) ?_
        rintro _ _ _ ⟨rfl, rfl, rfl⟩
        refine wa_iret F rfl (Nat.le_of_ble_eq_true rfl) (Nat.le_of_ble_eq_true rfl) dX5_productOf_97 ?_
        have ek : kPO X (nI jv) (nI 6) = 0 := by simp [kPO, c2, c7, ev]
        refine ⟨ek, ?_, rfl, ?_⟩
        · refine congrArg (fun z => some (Value.int z)) ?_
          unfold rPO; rw [ev]; rfl
        · rfl
    · skip
      replace c7 : sIn w 0 6 = false := Bool.eq_false_iff.mpr c7
      refine wa_tableOut (tgt := 98) F dX5_productOf_7 (sw_out (k := 6) rfl c7) (by decide) ?_
      have ek : kPO X (nI jv) w = 2 := by simp [kPO, c2, c7, ev]
      exact wa_throwSW F ft_IA cl_X5_61 in_IA sr_X5_261 at_IA gd_IA dX5_productOf_98 dX5_productOf_101 dX5_productOf_102 dX5_productOf_105 dX5_productOf_108 (Nat.le_of_ble_eq_true rfl) (Nat.le_of_ble_eq_true rfl) (Nat.le_of_ble_eq_true rfl) (Nat.le_of_ble_eq_true rfl) (Nat.le_of_ble_eq_true rfl) (Nat.le_of_ble_eq_true rfl) (Nat.le_of_ble_eq_true rfl) (Or.inr ⟨rfl, ek⟩) rfl rfl
  · skip
    replace c2 : sIn v 0 (X 13 0 - 1) = false := Bool.eq_false_iff.mpr c2
    refine wa_callV F [] (c_X5_productAt_no hst D TC H0 ad X S o v hpp.1 hb13 c2 (hall TC X S o) (fun _ _ z => z)) mw_X5_productAt ml_X5_108 (hm_c (TC := TC) (X := X) (S := S) (o := o)) rfl rfl (Nat.le_of_ble_eq_true rfl) ⟨(Nat.le_of_ble_eq_true rfl), (Nat.le_of_ble_eq_true rfl)⟩ ⟨(Nat.le_of_ble_eq_true rfl), (Nat.le_of_ble_eq_true rfl)⟩ dX5_productOf_2 (fun _ _ _ z => z.elim) (fun E hE => ?_) (fun _ _ _ z => z.elim)
    subst hE
    have ek : kPO X v w = 1 := by simp [kPO, c2]
    exact wx_out F (Nat.le_of_ble_eq_true rfl) (Nat.le_of_ble_eq_true rfl) (Or.inl ⟨rfl, ek⟩) rfl rfl
set_option maxHeartbeats 2000000 in
set_option maxRecDepth 20000 in
theorem c_X5_batchOf {l : Launch} (hst : l.stackTraces = false) (D : va_G) (TC : Nat → ClassId) (H0 : Heap) (ad : Nat → Nat) (X S : St) (o : Nat → Int64) (v : Int32) (w : Int32) (n : Nat) (hi : INV n X) (hn512 : n ≤ 512) : CC l D (tysOf TC) H0 yX5_batchOf cX5_batchOf 4 (some .int) 7 1 6 [.ref 0, .int v, .int w] ad (hall TC X S o) (PK (kBO X v w) ad (some (.int (rBO X v w))) (hall TC X S o)) (fun E => (E = "java/lang/IndexOutOfBoundsException" ∧ kBO X v w = 1) ∨ (E = "java/lang/IllegalArgumentException" ∧ kBO X v w = 2)) := by
  refine cc_intro hst (by decide +kernel) (Nat.le_of_ble_eq_true rfl) ?_
  intro p e s m args below meth c F
  rw [show lv_args 0 [.ref 0, .int v, .int w] = [(0, .ref 0), (1, .int v), (2, .int w)] from rfl]
  obtain ⟨hc, hs, hpp, hd0, hmm, h7, h8, hbo, hu0, hvr⟩ := id hi
  obtain ⟨hvh, hday, hclo, h5, h12, h21, hze, h24, hrk, hbz⟩ := hvr
  have hb2 := hc.2; have hb9 := hs.2; have hb13 := hpp.2; have hb25 := hd0.2; have hb28 := hmm.2
  refine wa_aload_n F dX5_batchOf_0 (i := 0) rfl 0 rfl ?_
  refine wa_iload_n F dX5_batchOf_1 (i := 1) rfl 1 rfl ?_
  by_cases c2 : sIn v 0 (X 28 0 - 1) = true
  · skip
    obtain ⟨jv, lv, rfl⟩ := sIn_nat hmm.1 (by omega) c2
    have ev : tn (nI jv) = jv := tn_nI (by omega)
    refine wa_callV F [] (c_X5_batchAt_ok hst D TC H0 ad X S o jv lv hb28 (hall TC X S o) (fun _ _ z => z)) mw_X5_batchAt ml_X5_193 (hm_c (TC := TC) (X := X) (S := S) (o := o)) rfl rfl (Nat.le_of_ble_eq_true rfl) ⟨(Nat.le_of_ble_eq_true rfl), (Nat.le_of_ble_eq_true rfl)⟩ ⟨(Nat.le_of_ble_eq_true rfl), (Nat.le_of_ble_eq_true rfl)⟩ dX5_batchOf_2 PR_ag (fun _ z => z.elim) ?_
    rintro _ _ _ ⟨rfl, rfl, rfl⟩
    refine wa_astore_n (lv' := [(3, .ref (1400 + jv)), (0, .ref 0), (1, .int (nI jv)), (2, .int w)]) F dX5_batchOf_5 (i := 3) rfl (by decide) rfl ?_
    refine wa_iload_n F dX5_batchOf_6 (i := 2) rfl 3 rfl ?_
    by_cases c7 : sIn w 0 8 = true
    · skip
      obtain ⟨jw, lw, rfl⟩ := sIn_lit (n := 8) (by decide) c7
      have hsw : jw = 0 ∨ jw = 1 ∨ jw = 2 ∨ jw = 3 ∨ jw = 4 ∨ jw = 5 ∨ jw = 6 ∨ jw = 7 ∨ jw = 8 := by omega
      rcases hsw with rfl | rfl | rfl | rfl | rfl | rfl | rfl | rfl | rfl
      · skip
        refine wa_tableIn (off := 49) (tgt := 56) F dX5_batchOf_7 (by decide) (by decide) rfl (by decide) ?_
        refine wa_aload_n F dX5_batchOf_56 (i := 3) rfl 0 rfl ?_
        refine wa_getN (v := .int (X 29 jv)) F LY_X1 (hm_bat (TC := TC) (X := X) (S := S) (o := o) lv hb28) 0 (by decide) fn_X5_263 rfl dX5_batchOf_57 ?_
        refine wa_iret F rfl (Nat.le_of_ble_eq_true rfl) (Nat.le_of_ble_eq_true rfl) dX5_batchOf_60 ?_
        have ek : kBO X (nI jv) (nI 0) = 0 := by simp [kBO, c2, c7, ev]
        refine ⟨ek, ?_, rfl, ?_⟩
        · refine congrArg (fun z => some (Value.int z)) ?_
          unfold rBO; rw [ev]; rfl
        · rfl
      · skip
        refine wa_tableIn (off := 54) (tgt := 61) F dX5_batchOf_7 (by decide) (by decide) rfl (by decide) ?_
        refine wa_aload_n F dX5_batchOf_61 (i := 3) rfl 0 rfl ?_
        refine wa_getN (v := .int (X 30 jv)) F LY_X1 (hm_bat (TC := TC) (X := X) (S := S) (o := o) lv hb28) 1 (by decide) fn_X5_226 rfl dX5_batchOf_62 ?_
        refine wa_iret F rfl (Nat.le_of_ble_eq_true rfl) (Nat.le_of_ble_eq_true rfl) dX5_batchOf_65 ?_
        have ek : kBO X (nI jv) (nI 1) = 0 := by simp [kBO, c2, c7, ev]
        refine ⟨ek, ?_, rfl, ?_⟩
        · refine congrArg (fun z => some (Value.int z)) ?_
          unfold rBO; rw [ev]; rfl
        · rfl
      · skip
        refine wa_tableIn (off := 59) (tgt := 66) F dX5_batchOf_7 (by decide) (by decide) rfl (by decide) ?_
        refine wa_aload_n F dX5_batchOf_66 (i := 3) rfl 0 rfl ?_
        refine wa_getN (v := .int (X 31 jv)) F LY_X1 (hm_bat (TC := TC) (X := X) (S := S) (o := o) lv hb28) 2 (by decide) fn_X5_266 rfl dX5_batchOf_67 ?_
        refine wa_iret F rfl (Nat.le_of_ble_eq_true rfl) (Nat.le_of_ble_eq_true rfl) dX5_batchOf_70 ?_
        have ek : kBO X (nI jv) (nI 2) = 0 := by simp [kBO, c2, c7, ev]
        refine ⟨ek, ?_, rfl, ?_⟩
        · refine congrArg (fun z => some (Value.int z)) ?_
          unfold rBO; rw [ev]; rfl
        · rfl
      · skip
        refine wa_tableIn (off := 64) (tgt := 71) F dX5_batchOf_7 (by decide) (by decide) rfl (by decide) ?_
        refine wa_aload_n F dX5_batchOf_71 (i := 3) rfl 0 rfl ?_
        refine wa_getN (v := .int (X 32 jv)) F LY_X1 (hm_bat (TC := TC) (X := X) (S := S) (o := o) lv hb28) 3 (by decide) fn_X5_269 rfl dX5_batchOf_72 ?_
        refine wa_iret F rfl (Nat.le_of_ble_eq_true rfl) (Nat.le_of_ble_eq_true rfl) dX5_batchOf_75 ?_
        have ek : kBO X (nI jv) (nI 3) = 0 := by simp [kBO, c2, c7, ev]
        refine ⟨ek, ?_, rfl, ?_⟩
        · refine congrArg (fun z => some (Value.int z)) ?_
          unfold rBO; rw [ev]; rfl
        · rfl
      · skip
        refine wa_tableIn (off := 69) (tgt := 76) F dX5_batchOf_7 (by decide) (by decide) rfl (by decide) ?_
        refine wa_aload_n F dX5_batchOf_76 (i := 3) rfl 0 rfl ?_
        refine wa_getN (v := .int (X 33 jv)) F LY_X1 (hm_bat (TC := TC) (X := X) (S := S) (o := o) lv hb28) 4 (by decide) fn_X5_270 rfl dX5_batchOf_77 ?_
        refine wa_iret F rfl (Nat.le_of_ble_eq_true rfl) (Nat.le_of_ble_eq_true rfl) dX5_batchOf_80 ?_
        have ek : kBO X (nI jv) (nI 4) = 0 := by simp [kBO, c2, c7, ev]
        refine ⟨ek, ?_, rfl, ?_⟩
        · refine congrArg (fun z => some (Value.int z)) ?_
          unfold rBO; rw [ev]; rfl
        · rfl
      · skip
        refine wa_tableIn (off := 74) (tgt := 81) F dX5_batchOf_7 (by decide) (by decide) rfl (by decide) ?_
        refine wa_aload_n F dX5_batchOf_81 (i := 3) rfl 0 rfl ?_
        refine wa_getN (v := .int (X 34 jv)) F LY_X1 (hm_bat (TC := TC) (X := X) (S := S) (o := o) lv hb28) 5 (by decide) fn_X5_223 rfl dX5_batchOf_82 ?_
        refine wa_iret F rfl (Nat.le_of_ble_eq_true rfl) (Nat.le_of_ble_eq_true rfl) dX5_batchOf_85 ?_
        have ek : kBO X (nI jv) (nI 5) = 0 := by simp [kBO, c2, c7, ev]
        refine ⟨ek, ?_, rfl, ?_⟩
        · refine congrArg (fun z => some (Value.int z)) ?_
          unfold rBO; rw [ev]; rfl
        · rfl
      · skip
        refine wa_tableIn (off := 79) (tgt := 86) F dX5_batchOf_7 (by decide) (by decide) rfl (by decide) ?_
        refine wa_aload_n F dX5_batchOf_86 (i := 3) rfl 0 rfl ?_
        refine wa_getN (v := .int (X 35 jv)) F LY_X1 (hm_bat (TC := TC) (X := X) (S := S) (o := o) lv hb28) 6 (by decide) fn_X5_198 rfl dX5_batchOf_87 ?_
        refine wa_iret F rfl (Nat.le_of_ble_eq_true rfl) (Nat.le_of_ble_eq_true rfl) dX5_batchOf_90 ?_
        have ek : kBO X (nI jv) (nI 6) = 0 := by simp [kBO, c2, c7, ev]
        refine ⟨ek, ?_, rfl, ?_⟩
        · refine congrArg (fun z => some (Value.int z)) ?_
          unfold rBO; rw [ev]; rfl
        · rfl
      · skip
        refine wa_tableIn (off := 84) (tgt := 91) F dX5_batchOf_7 (by decide) (by decide) rfl (by decide) ?_
        refine wa_aload_n F dX5_batchOf_91 (i := 3) rfl 0 rfl ?_
        refine wa_callV F [] (c_X1_alarmLevel hst D TC H0 ad X S o jv lv hb28 (hu0 jv lv) (by have z := hvh jv lv; omega) (hall TC X S o) (fun _ _ z => z)) mw_X1_alarmLevel ml_X5_213 (hm_bat (TC := TC) (X := X) (S := S) (o := o) lv hb28) rfl rfl (Nat.le_of_ble_eq_true rfl) ⟨Nat.le_of_ble_eq_true rfl, Nat.le_of_ble_eq_true rfl⟩ ⟨Nat.le_of_ble_eq_true rfl, Nat.le_of_ble_eq_true rfl⟩ dX5_batchOf_92 PR_ag (fun _ z => z.elim) ?_
        rintro _ _ _ ⟨rfl, rfl, rfl⟩
        refine wa_iret F rfl (Nat.le_of_ble_eq_true rfl) (Nat.le_of_ble_eq_true rfl) dX5_batchOf_95 ?_
        have ek : kBO X (nI jv) (nI 7) = 0 := by simp [kBO, c2, c7, ev]
        refine ⟨ek, ?_, rfl, ?_⟩
        · refine congrArg (fun z => some (Value.int z)) ?_
          unfold rBO; rw [ev]; rfl
        · rfl
      · skip
        refine wa_tableIn (off := 89) (tgt := 96) F dX5_batchOf_7 (by decide) (by decide) rfl (by decide) ?_
        refine wa_aload_n F dX5_batchOf_96 (i := 3) rfl 0 rfl ?_
        refine wa_getN (v := .int (X 37 jv)) F LY_X1 (hm_bat (TC := TC) (X := X) (S := S) (o := o) lv hb28) 8 (by decide) fn_X5_210 rfl dX5_batchOf_97 ?_
        refine wa_iret F rfl (Nat.le_of_ble_eq_true rfl) (Nat.le_of_ble_eq_true rfl) dX5_batchOf_100 ?_
        have ek : kBO X (nI jv) (nI 8) = 0 := by simp [kBO, c2, c7, ev]
        refine ⟨ek, ?_, rfl, ?_⟩
        · refine congrArg (fun z => some (Value.int z)) ?_
          unfold rBO; rw [ev]; rfl
        · rfl
    · skip
      replace c7 : sIn w 0 8 = false := Bool.eq_false_iff.mpr c7
      refine wa_tableOut (tgt := 101) F dX5_batchOf_7 (sw_out (k := 8) rfl c7) (by decide) ?_
      have ek : kBO X (nI jv) w = 2 := by simp [kBO, c2, c7, ev]
      exact wa_throwSW F ft_IA cl_X5_61 in_IA sr_X5_261 at_IA gd_IA dX5_batchOf_101 dX5_batchOf_104 dX5_batchOf_105 dX5_batchOf_108 dX5_batchOf_111 (Nat.le_of_ble_eq_true rfl) (Nat.le_of_ble_eq_true rfl) (Nat.le_of_ble_eq_true rfl) (Nat.le_of_ble_eq_true rfl) (Nat.le_of_ble_eq_true rfl) (Nat.le_of_ble_eq_true rfl) (Nat.le_of_ble_eq_true rfl) (Or.inr ⟨rfl, ek⟩) rfl rfl
  · skip
    replace c2 : sIn v 0 (X 28 0 - 1) = false := Bool.eq_false_iff.mpr c2
    refine wa_callV F [] (c_X5_batchAt_no hst D TC H0 ad X S o v hmm.1 hb28 c2 (hall TC X S o) (fun _ _ z => z)) mw_X5_batchAt ml_X5_193 (hm_c (TC := TC) (X := X) (S := S) (o := o)) rfl rfl (Nat.le_of_ble_eq_true rfl) ⟨(Nat.le_of_ble_eq_true rfl), (Nat.le_of_ble_eq_true rfl)⟩ ⟨(Nat.le_of_ble_eq_true rfl), (Nat.le_of_ble_eq_true rfl)⟩ dX5_batchOf_2 (fun _ _ _ z => z.elim) (fun E hE => ?_) (fun _ _ _ z => z.elim)
    subst hE
    have ek : kBO X v w = 1 := by simp [kBO, c2]
    exact wx_out F (Nat.le_of_ble_eq_true rfl) (Nat.le_of_ble_eq_true rfl) (Or.inl ⟨rfl, ek⟩) rfl rfl
set_option maxHeartbeats 2000000 in
set_option maxRecDepth 20000 in
theorem c_X5_recall {l : Launch} (hst : l.stackTraces = false) (D : va_G) (TC : Nat → ClassId) (H0 : Heap) (ad : Nat → Nat) (X S : St) (o : Nat → Int64) (v : Int32) (a : Int32) (b : Int32) (n : Nat) (hi : INV n X) : CC l D (tysOf TC) H0 yX5_recall cX5_recall 7 (some .int) 7 1 6 [.ref 0, .int v, .int a, .int b] ad (hall TC X S o) (PK (kRc X v a b) ad (some (.int (rRc X v a b))) (hall TC (uRc v a b X) S o)) (fun E => (E = "java/lang/IndexOutOfBoundsException" ∧ kRc X v a b = 1) ∨ (E = "java/lang/IllegalArgumentException" ∧ kRc X v a b = 2)) := by
  refine cc_intro hst (by decide +kernel) (Nat.le_of_ble_eq_true rfl) ?_
  intro p e s m args below meth c F
  rw [show lv_args 0 [.ref 0, .int v, .int a, .int b] = [(0, .ref 0), (1, .int v), (2, .int a), (3, .int b)] from rfl]
  obtain ⟨hc, hs, hpp, hd0, hmm, h7, h8, hbo, hu0, hvr⟩ := id hi
  obtain ⟨hvh, hday, hclo, h5, h12, h21, hze, h24, hrk, hbz⟩ := hvr
  have hb2 := hc.2; have hb9 := hs.2; have hb13 := hpp.2; have hb25 := hd0.2; have hb28 := hmm.2
  refine wa_aload_n F dX5_recall_0 (i := 0) rfl 0 rfl ?_
  refine wa_iload_n F dX5_recall_1 (i := 1) rfl 1 rfl ?_
  by_cases c2 : sIn v 0 (X 13 0 - 1) = true
  · skip
    obtain ⟨jv, lv, rfl⟩ := sIn_nat hpp.1 (by omega) c2
    have ev : tn (nI jv) = jv := tn_nI (by omega)
    refine wa_callV F [] (c_X5_productAt_ok hst D TC H0 ad X S o jv lv hb13 (hall TC X S o) (fun _ _ z => z)) mw_X5_productAt ml_X5_108 (hm_c (TC := TC) (X := X) (S := S) (o := o)) rfl rfl (Nat.le_of_ble_eq_true rfl) ⟨(Nat.le_of_ble_eq_true rfl), (Nat.le_of_ble_eq_true rfl)⟩ ⟨(Nat.le_of_ble_eq_true rfl), (Nat.le_of_ble_eq_true rfl)⟩ dX5_recall_2 PR_ag (fun _ z => z.elim) ?_
    rintro _ _ _ ⟨rfl, rfl, rfl⟩
    refine wa_pop F dX5_recall_5 rfl ?_
    refine wa_aload_n F dX5_recall_6 (i := 0) rfl 0 rfl ?_
    refine wa_iload_n F dX5_recall_7 (i := 2) rfl 2 rfl ?_
    by_cases c8 : sIn a 0 (X 28 0 - 1) = true
    · skip
      obtain ⟨ja, la, rfl⟩ := sIn_nat hmm.1 (by omega) c8
      have ea : tn (nI ja) = ja := tn_nI (by omega)
      refine wa_callV F [] (c_X5_batchAt_ok hst D TC H0 ad X S o ja la hb28 (hall TC X S o) (fun _ _ z => z)) mw_X5_batchAt ml_X5_193 (hm_c (TC := TC) (X := X) (S := S) (o := o)) rfl rfl (Nat.le_of_ble_eq_true rfl) ⟨(Nat.le_of_ble_eq_true rfl), (Nat.le_of_ble_eq_true rfl)⟩ ⟨(Nat.le_of_ble_eq_true rfl), (Nat.le_of_ble_eq_true rfl)⟩ dX5_recall_8 PR_ag (fun _ z => z.elim) ?_
      rintro _ _ _ ⟨rfl, rfl, rfl⟩
      refine wa_pop F dX5_recall_11 rfl ?_
      refine wa_aload_n F dX5_recall_12 (i := 0) rfl 0 rfl ?_
      refine wa_iload_n F dX5_recall_13 (i := 3) rfl 3 rfl ?_
      by_cases c14 : sIn b 0 (X 28 0 - 1) = true
      · skip
        obtain ⟨jb, lb, rfl⟩ := sIn_nat hmm.1 (by omega) c14
        have eb : tn (nI jb) = jb := tn_nI (by omega)
        refine wa_callV F [] (c_X5_batchAt_ok hst D TC H0 ad X S o jb lb hb28 (hall TC X S o) (fun _ _ z => z)) mw_X5_batchAt ml_X5_193 (hm_c (TC := TC) (X := X) (S := S) (o := o)) rfl rfl (Nat.le_of_ble_eq_true rfl) ⟨(Nat.le_of_ble_eq_true rfl), (Nat.le_of_ble_eq_true rfl)⟩ ⟨(Nat.le_of_ble_eq_true rfl), (Nat.le_of_ble_eq_true rfl)⟩ dX5_recall_14 PR_ag (fun _ z => z.elim) ?_
        rintro _ _ _ ⟨rfl, rfl, rfl⟩
        refine wa_pop F dX5_recall_17 rfl ?_
        refine wa_iload_n F dX5_recall_18 (i := 3) rfl 3 rfl ?_
        refine wa_iload_n F dX5_recall_19 (i := 2) rfl 2 rfl ?_
        refine wa_icmp_ge (tgt := 33) F dX5_recall_20 (by decide) (fun c20 => ?_) (fun c20 => ?_)
        · skip
          have hab : ja ≤ jb := (nI_leI (by omega) (by omega)).mp c20
          refine wa_iconst (v := 0) F dX5_recall_33 (by decide) ?_
          refine wa_istore (lv' := [(4, .int 0), (0, .ref 0), (1, .int (nI jv)), (2, .int (nI ja)), (3, .int (nI jb))]) F dX5_recall_34 (by decide) rfl ?_
          refine wa_iload_n F dX5_recall_36 (i := 2) rfl 3 rfl ?_
          refine wa_istore (lv' := [(5, .int (nI ja)), (4, .int 0), (0, .ref 0), (1, .int (nI jv)), (2, .int (nI ja)), (3, .int (nI jb))]) F dX5_recall_37 (by decide) rfl ?_
          have loop39 : ∀ (n kk : Nat), kk ≤ (jb + 1 - ja) → (jb + 1 - ja) - kk < n → WA D H0 p l e (RM 7 1 6) s m args below meth c 7 (vx_MQ below (QC0 D H0 (PK (kRc X (nI jv) (nI ja) (nI jb)) ad (some (.int (rRc X (nI jv) (nI ja) (nI jb)))) (hall TC (uRc (nI jv) (nI ja) (nI jb) X) S o))) (XC0 D H0 (fun E => (E = "java/lang/IndexOutOfBoundsException" ∧ kRc X (nI jv) (nI ja) (nI jb) = 1) ∨ (E = "java/lang/IllegalArgumentException" ∧ kRc X (nI jv) (nI ja) (nI jb) = 2)) ad (hall TC X S o)) args s 1 6 (hA0 H0)) ad (hall TC (rcU X (nI jv) ja kk) S o) 0 0 39 [(5, .int (nI (ja + kk))), (4, .int (rcT X (nI jv) ja kk)), (0, .ref 0), (1, .int (nI jv)), (2, .int (nI ja)), (3, .int (nI jb))] [] := by
            intro n
            induction n with
            | zero => intro kk h1 h2; omega
            | succ n ih_kk =>
              intro kk hk_kk hn_kk
              refine wa_iload F dX5_recall_39 0 rfl ?_
              refine wa_iload_n F dX5_recall_41 (i := 3) rfl 5 rfl ?_
              refine wa_icmp_gt (tgt := 84) F dX5_recall_42 (by decide) (fun c42 => ?_) (fun c42 => ?_)
              · skip
                replace c42 := lt_nle c42
                have he_kk : kk = (jb + 1 - ja) := by have := Nat.lt_of_not_le fun z => c42 (nI_le (a := ja + kk) (b := jb) z (by omega)); omega
                subst he_kk
                refine wa_iload F dX5_recall_84 1 rfl ?_
                refine wa_iret F rfl (Nat.le_of_ble_eq_true rfl) (Nat.le_of_ble_eq_true rfl) dX5_recall_86 ?_
                have ek : kRc X (nI jv) (nI ja) (nI jb) = 0 := by simp [kRc, c2, c8, c14, c20, ev, ea, eb]
                refine ⟨ek, ?_, rfl, ?_⟩
                · refine congrArg (fun z => some (Value.int z)) ?_
                  unfold rRc; rw [ea, eb]
                · refine congrArg (fun z => hall TC z S o) ?_
                  unfold uRc; rw [ea, eb]
              · skip
                replace c42 := nlt_le c42
                have hl_kk : kk < (jb + 1 - ja) := by have := (nI_leI (a := ja + kk) (b := jb) (by omega) (by omega)).mp c42; omega
                have hk28 : ja + kk < cnt X 28 := by omega
                refine wa_aload_n F dX5_recall_45 (i := 0) rfl 2 rfl ?_
                refine wa_iload F dX5_recall_46 0 rfl ?_
                refine wa_callV F [] (c_X5_batchAt_ok hst D TC H0 ad (rcU X (nI jv) ja kk) S o (ja + kk) (lt_r hk28) (le_r hb28) (hall TC (rcU X (nI jv) ja kk) S o) (fun _ _ z => z)) mw_X5_batchAt ml_X5_193 (hm_c (TC := TC) (X := (rcU X (nI jv) ja kk)) (S := S) (o := o)) rfl rfl (Nat.le_of_ble_eq_true rfl) ⟨(Nat.le_of_ble_eq_true rfl), (Nat.le_of_ble_eq_true rfl)⟩ ⟨(Nat.le_of_ble_eq_true rfl), (Nat.le_of_ble_eq_true rfl)⟩ dX5_recall_48 PR_ag (fun _ z => z.elim) ?_
                rintro _ _ _ ⟨rfl, rfl, rfl⟩
                refine wa_astore (lv' := [(6, .ref (1400 + (ja + kk))), (5, .int (nI (ja + kk))), (4, .int (rcT X (nI jv) ja kk)), (0, .ref 0), (1, .int (nI jv)), (2, .int (nI ja)), (3, .int (nI jb))]) F dX5_recall_51 (by decide) rfl ?_
                refine wa_aload F dX5_recall_53 0 rfl ?_
                refine wa_iload_n F dX5_recall_55 (i := 1) rfl 4 rfl ?_
                refine wa_callV F [] (c_X1_isOnMarketOf hst D TC H0 ad (rcU X (nI jv) ja kk) S o (ja + kk) (lt_r hk28) (le_r hb28) (nI jv) (hall TC (rcU X (nI jv) ja kk) S o) (fun _ _ z => z)) mw_X1_isOnMarketOf ml_X5_219 (hm_bat (TC := TC) (X := (rcU X (nI jv) ja kk)) (S := S) (o := o) (lt_r hk28) (le_r hb28)) rfl rfl (Nat.le_of_ble_eq_true rfl) ⟨Nat.le_of_ble_eq_true rfl, Nat.le_of_ble_eq_true rfl⟩ ⟨Nat.le_of_ble_eq_true rfl, Nat.le_of_ble_eq_true rfl⟩ dX5_recall_56 PR_ag (fun _ z => z.elim) ?_
                rintro _ _ _ ⟨rfl, rfl, rfl⟩
                refine wa_if_eq (tgt := 78) F dX5_recall_59 (by decide) (fun c59 => ?_) (fun c59 => ?_)
                · skip
                  replace c59 : (decide ((rcU X (nI jv) ja kk) 29 (ja + kk) = (nI jv)) && decide ((rcU X (nI jv) ja kk) 34 (ja + kk) = 0)) = false := bI_f c59
                  refine wa_iinc (v := (nI ((ja + kk) + 1))) (j := 1) (lv' := [(5, .int (nI ((ja + kk) + 1))), (6, .ref (1400 + (ja + kk))), (4, .int (rcT X (nI jv) ja kk)), (0, .ref 0), (1, .int (nI jv)), (2, .int (nI ja)), (3, .int (nI jb))]) F dX5_recall_78 rfl ((nI_succ (ja + kk)).symm) (by decide) rfl ?_
                  refine wa_goto (tgt := 39) F dX5_recall_81 (by decide) ?_
                  have ea1 : (rcT X (nI jv) ja kk) = (rcT X (nI jv) ja (kk + 1)) := by rw [rcT_s, if_neg (by rw [show rcF (rcU X (nI jv) ja kk) (nI jv) (ja + kk) = false from c59]; decide), Int32.add_zero]
                  refine wa_lv (lv' := [(5, .int (nI (ja + (kk + 1)))), (4, .int (rcT X (nI jv) ja (kk + 1))), (0, .ref 0), (1, .int (nI jv)), (2, .int (nI ja)), (3, .int (nI jb))]) [0, 2, 3, 4, 5, 6] (by rw [← ea1]; rfl) ?_
                  rw [show (rcU X (nI jv) ja kk) = rcU X (nI jv) ja (kk + 1) from by rw [rcU_s, if_neg (by rw [show rcF (rcU X (nI jv) ja kk) (nI jv) (ja + kk) = false from c59]; decide), sU_self rfl]]
                  exact ih_kk (kk + 1) (by omega) (by omega)
                · skip
                  replace c59 : (decide ((rcU X (nI jv) ja kk) 29 (ja + kk) = (nI jv)) && decide ((rcU X (nI jv) ja kk) 34 (ja + kk) = 0)) = true := bI_t c59
                  refine wa_aload F dX5_recall_62 0 rfl ?_
                  refine wa_iconst (v := 1) F dX5_recall_64 (by decide) ?_
                  refine wa_putN F LY_X1 (hm_bat (TC := TC) (X := (rcU X (nI jv) ja kk)) (S := S) (o := o) (lt_r hk28) (le_r hb28)) 5 (by decide) fn_X5_223 rfl rfl rfl (Nat.le_of_ble_eq_true rfl) dX5_recall_65 (pu_bat_5 1 (lt_r hk28) (le_r hb28)) ?_
                  refine wa_iload F dX5_recall_68 2 rfl ?_
                  refine wa_aload F dX5_recall_70 0 rfl ?_
                  refine wa_getN (v := .int ((sU (rcU X (nI jv) ja kk) 34 (ja + kk) 1) 30 (ja + kk))) F LY_X1 (hm_bat (TC := TC) (X := (sU (rcU X (nI jv) ja kk) 34 (ja + kk) 1)) (S := S) (o := o) (lt_u (lt_r hk28)) (le_u (le_r hb28))) 1 (by decide) fn_X5_226 rfl dX5_recall_72 ?_
                  refine wa_iadd F dX5_recall_75 ?_
                  refine wa_istore (lv' := [(4, .int ((rcT X (nI jv) ja kk) + ((sU (rcU X (nI jv) ja kk) 34 (ja + kk) 1) 30 (ja + kk)))), (6, .ref (1400 + (ja + kk))), (5, .int (nI (ja + kk))), (0, .ref 0), (1, .int (nI jv)), (2, .int (nI ja)), (3, .int (nI jb))]) F dX5_recall_76 (by decide) rfl ?_
                  refine wa_iinc (v := (nI ((ja + kk) + 1))) (j := 2) (lv' := [(5, .int (nI ((ja + kk) + 1))), (4, .int ((rcT X (nI jv) ja kk) + ((sU (rcU X (nI jv) ja kk) 34 (ja + kk) 1) 30 (ja + kk)))), (6, .ref (1400 + (ja + kk))), (0, .ref 0), (1, .int (nI jv)), (2, .int (nI ja)), (3, .int (nI jb))]) F dX5_recall_78 rfl ((nI_succ (ja + kk)).symm) (by decide) rfl ?_
                  refine wa_goto (tgt := 39) F dX5_recall_81 (by decide) ?_
                  have ea2 : ((rcT X (nI jv) ja kk) + ((sU (rcU X (nI jv) ja kk) 34 (ja + kk) 1) 30 (ja + kk))) = (rcT X (nI jv) ja (kk + 1)) := by rw [rcT_s, if_pos (show rcF (rcU X (nI jv) ja kk) (nI jv) (ja + kk) = true from c59)]; simp [sU]
                  refine wa_lv (lv' := [(5, .int (nI (ja + (kk + 1)))), (4, .int (rcT X (nI jv) ja (kk + 1))), (0, .ref 0), (1, .int (nI jv)), (2, .int (nI ja)), (3, .int (nI jb))]) [0, 1, 3, 4, 5, 6] (by rw [← ea2]; rfl) ?_
                  rw [show (sU (rcU X (nI jv) ja kk) 34 (ja + kk) 1) = rcU X (nI jv) ja (kk + 1) from by rw [rcU_s]; simp [rcF, c59]]
                  exact ih_kk (kk + 1) (by omega) (by omega)
          exact loop39 ((jb + 1 - ja) + 1) 0 (Nat.zero_le _) (by omega)
        · skip
          have ek : kRc X (nI jv) (nI ja) (nI jb) = 2 := by simp [kRc, c2, c8, c14, c20, ev, ea, eb]
          exact wa_throwS F ft_IA cl_X5_61 in_IA sr_X5_217 at_IA gd_IA dX5_recall_23 dX5_recall_26 dX5_recall_27 dX5_recall_29 dX5_recall_32 (Nat.le_of_ble_eq_true rfl) (Nat.le_of_ble_eq_true rfl) (Nat.le_of_ble_eq_true rfl) (Nat.le_of_ble_eq_true rfl) (Nat.le_of_ble_eq_true rfl) (Nat.le_of_ble_eq_true rfl) (Nat.le_of_ble_eq_true rfl) (Or.inr ⟨rfl, ek⟩) rfl rfl
      · skip
        replace c14 : sIn b 0 (X 28 0 - 1) = false := Bool.eq_false_iff.mpr c14
        refine wa_callV F [] (c_X5_batchAt_no hst D TC H0 ad X S o b hmm.1 hb28 c14 (hall TC X S o) (fun _ _ z => z)) mw_X5_batchAt ml_X5_193 (hm_c (TC := TC) (X := X) (S := S) (o := o)) rfl rfl (Nat.le_of_ble_eq_true rfl) ⟨(Nat.le_of_ble_eq_true rfl), (Nat.le_of_ble_eq_true rfl)⟩ ⟨(Nat.le_of_ble_eq_true rfl), (Nat.le_of_ble_eq_true rfl)⟩ dX5_recall_14 (fun _ _ _ z => z.elim) (fun E hE => ?_) (fun _ _ _ z => z.elim)
        subst hE
        have ek : kRc X (nI jv) (nI ja) b = 1 := by simp [kRc, c2, c8, c14, ev, ea]
        exact wx_out F (Nat.le_of_ble_eq_true rfl) (Nat.le_of_ble_eq_true rfl) (Or.inl ⟨rfl, ek⟩) rfl rfl
    · skip
      replace c8 : sIn a 0 (X 28 0 - 1) = false := Bool.eq_false_iff.mpr c8
      refine wa_callV F [] (c_X5_batchAt_no hst D TC H0 ad X S o a hmm.1 hb28 c8 (hall TC X S o) (fun _ _ z => z)) mw_X5_batchAt ml_X5_193 (hm_c (TC := TC) (X := X) (S := S) (o := o)) rfl rfl (Nat.le_of_ble_eq_true rfl) ⟨(Nat.le_of_ble_eq_true rfl), (Nat.le_of_ble_eq_true rfl)⟩ ⟨(Nat.le_of_ble_eq_true rfl), (Nat.le_of_ble_eq_true rfl)⟩ dX5_recall_8 (fun _ _ _ z => z.elim) (fun E hE => ?_) (fun _ _ _ z => z.elim)
      subst hE
      have ek : kRc X (nI jv) a b = 1 := by simp [kRc, c2, c8, ev]
      exact wx_out F (Nat.le_of_ble_eq_true rfl) (Nat.le_of_ble_eq_true rfl) (Or.inl ⟨rfl, ek⟩) rfl rfl
  · skip
    replace c2 : sIn v 0 (X 13 0 - 1) = false := Bool.eq_false_iff.mpr c2
    refine wa_callV F [] (c_X5_productAt_no hst D TC H0 ad X S o v hpp.1 hb13 c2 (hall TC X S o) (fun _ _ z => z)) mw_X5_productAt ml_X5_108 (hm_c (TC := TC) (X := X) (S := S) (o := o)) rfl rfl (Nat.le_of_ble_eq_true rfl) ⟨(Nat.le_of_ble_eq_true rfl), (Nat.le_of_ble_eq_true rfl)⟩ ⟨(Nat.le_of_ble_eq_true rfl), (Nat.le_of_ble_eq_true rfl)⟩ dX5_recall_2 (fun _ _ _ z => z.elim) (fun E hE => ?_) (fun _ _ _ z => z.elim)
    subst hE
    have ek : kRc X v a b = 1 := by simp [kRc, c2]
    exact wx_out F (Nat.le_of_ble_eq_true rfl) (Nat.le_of_ble_eq_true rfl) (Or.inl ⟨rfl, ek⟩) rfl rfl
