theorem dBC_0 : decode cBC 0 = .ok (.iload_n 0, 1) := by decide +kernel
theorem dBC_1 : decode cBC 1 = .ok (.iload_n 0, 1) := by decide +kernel
theorem dBC_2 : decode cBC 2 = .ok (.iconst 1, 1) := by decide +kernel
theorem dBC_3 : decode cBC 3 = .ok (.iushr, 1) := by decide +kernel
theorem dBC_4 : decode cBC 4 = .ok (.ldc_w 265, 3) := by decide +kernel
theorem dBC_7 : decode cBC 7 = .ok (.iand, 1) := by decide +kernel
theorem dBC_8 : decode cBC 8 = .ok (.isub, 1) := by decide +kernel
theorem dBC_9 : decode cBC 9 = .ok (.istore_n 0, 1) := by decide +kernel
theorem dBC_10 : decode cBC 10 = .ok (.iload_n 0, 1) := by decide +kernel
theorem dBC_11 : decode cBC 11 = .ok (.ldc_w 266, 3) := by decide +kernel
theorem dBC_14 : decode cBC 14 = .ok (.iand, 1) := by decide +kernel
theorem dBC_15 : decode cBC 15 = .ok (.iload_n 0, 1) := by decide +kernel
theorem dBC_16 : decode cBC 16 = .ok (.iconst 2, 1) := by decide +kernel
theorem dBC_17 : decode cBC 17 = .ok (.iushr, 1) := by decide +kernel
theorem dBC_18 : decode cBC 18 = .ok (.ldc_w 266, 3) := by decide +kernel
theorem dBC_21 : decode cBC 21 = .ok (.iand, 1) := by decide +kernel
theorem dBC_22 : decode cBC 22 = .ok (.iadd, 1) := by decide +kernel
theorem dBC_23 : decode cBC 23 = .ok (.istore_n 0, 1) := by decide +kernel
theorem dBC_24 : decode cBC 24 = .ok (.iload_n 0, 1) := by decide +kernel
theorem dBC_25 : decode cBC 25 = .ok (.iload_n 0, 1) := by decide +kernel
theorem dBC_26 : decode cBC 26 = .ok (.iconst 4, 1) := by decide +kernel
theorem dBC_27 : decode cBC 27 = .ok (.iushr, 1) := by decide +kernel
theorem dBC_28 : decode cBC 28 = .ok (.iadd, 1) := by decide +kernel
theorem dBC_29 : decode cBC 29 = .ok (.ldc_w 267, 3) := by decide +kernel
theorem dBC_32 : decode cBC 32 = .ok (.iand, 1) := by decide +kernel
theorem dBC_33 : decode cBC 33 = .ok (.istore_n 0, 1) := by decide +kernel
theorem dBC_34 : decode cBC 34 = .ok (.iload_n 0, 1) := by decide +kernel
theorem dBC_35 : decode cBC 35 = .ok (.iload_n 0, 1) := by decide +kernel
theorem dBC_36 : decode cBC 36 = .ok (.bipush 8, 2) := by decide +kernel
theorem dBC_38 : decode cBC 38 = .ok (.iushr, 1) := by decide +kernel
theorem dBC_39 : decode cBC 39 = .ok (.iadd, 1) := by decide +kernel
theorem dBC_40 : decode cBC 40 = .ok (.istore_n 0, 1) := by decide +kernel
theorem dBC_41 : decode cBC 41 = .ok (.iload_n 0, 1) := by decide +kernel
theorem dBC_42 : decode cBC 42 = .ok (.iload_n 0, 1) := by decide +kernel
theorem dBC_43 : decode cBC 43 = .ok (.bipush 16, 2) := by decide +kernel
theorem dBC_45 : decode cBC 45 = .ok (.iushr, 1) := by decide +kernel
theorem dBC_46 : decode cBC 46 = .ok (.iadd, 1) := by decide +kernel
theorem dBC_47 : decode cBC 47 = .ok (.istore_n 0, 1) := by decide +kernel
theorem dBC_48 : decode cBC 48 = .ok (.iload_n 0, 1) := by decide +kernel
theorem dBC_49 : decode cBC 49 = .ok (.bipush 63, 2) := by decide +kernel
theorem dBC_51 : decode cBC 51 = .ok (.iand, 1) := by decide +kernel
theorem dBC_52 : decode cBC 52 = .ok (.ireturn, 1) := by decide +kernel
theorem ck_BC_265 : Cond.constant "java/lang/Integer" 265 (1431655765) ∈ lw_tbl := List.mem_of_getElem? (i := 455) (by decide +kernel)
theorem ck_BC_266 : Cond.constant "java/lang/Integer" 266 (858993459) ∈ lw_tbl := List.mem_of_getElem? (i := 456) (by decide +kernel)
theorem ck_BC_267 : Cond.constant "java/lang/Integer" 267 (252645135) ∈ lw_tbl := List.mem_of_getElem? (i := 457) (by decide +kernel)
def uS (x y : Int32) : Int32 := (x.toUInt32 >>> (y.toUInt32 &&& Int32.toUInt32 31)).toInt32
set_option maxHeartbeats 2000000 in
set_option maxRecDepth 20000 in
theorem c_BC {l : Launch} (hst : l.stackTraces = false) (D : va_G) (tys : List (ClassId × FieldType)) (H0 : Heap) (ad : Nat → Nat) (h : Hp) (j : Nat) (hj : j < 32) : CC l D tys H0 yBC cBC 1 (some .int) 0 0 0 [.int (nI j)] ad h (PR ad (some (.int (sBits (nI j)))) h) (fun _ => False) := by
  refine cc_intro hst (by decide +kernel) (Nat.le_of_ble_eq_true rfl) ?_
  intro p e s m args below meth c F
  rw [show lv_args 0 [.int (nI j)] = [(0, .int (nI j))] from rfl]
  refine wa_iload_n F dBC_0 (i := 0) rfl 0 rfl ?_
  refine wa_iload_n F dBC_1 (i := 0) rfl 0 rfl ?_
  refine wa_iconst (v := 1) F dBC_2 (by decide) ?_
  refine wa_iushr (v := uS (nI j) 1) F rfl dBC_3 ?_
  refine wa_ldcw F ck_BC_265 dBC_4 ?_
  refine wa_iand F dBC_7 ?_
  refine wa_isub F dBC_8 ?_
  refine wa_istore_n (lv' := [(0, .int ((nI j) - ((uS (nI j) 1) &&& 1431655765)))]) F dBC_9 (i := 0) rfl (by decide) rfl ?_
  refine wa_iload_n F dBC_10 (i := 0) rfl 0 rfl ?_
  refine wa_ldcw F ck_BC_266 dBC_11 ?_
  refine wa_iand F dBC_14 ?_
  refine wa_iload_n F dBC_15 (i := 0) rfl 0 rfl ?_
  refine wa_iconst (v := 2) F dBC_16 (by decide) ?_
  refine wa_iushr (v := uS ((nI j) - ((uS (nI j) 1) &&& 1431655765)) 2) F rfl dBC_17 ?_
  refine wa_ldcw F ck_BC_266 dBC_18 ?_
  refine wa_iand F dBC_21 ?_
  refine wa_iadd F dBC_22 ?_
  refine wa_istore_n (lv' := [(0, .int ((((nI j) - ((uS (nI j) 1) &&& 1431655765)) &&& 858993459) + ((uS ((nI j) - ((uS (nI j) 1) &&& 1431655765)) 2) &&& 858993459)))]) F dBC_23 (i := 0) rfl (by decide) rfl ?_
  refine wa_iload_n F dBC_24 (i := 0) rfl 0 rfl ?_
  refine wa_iload_n F dBC_25 (i := 0) rfl 0 rfl ?_
  refine wa_iconst (v := 4) F dBC_26 (by decide) ?_
  refine wa_iushr (v := uS ((((nI j) - ((uS (nI j) 1) &&& 1431655765)) &&& 858993459) + ((uS ((nI j) - ((uS (nI j) 1) &&& 1431655765)) 2) &&& 858993459)) 4) F rfl dBC_27 ?_
  refine wa_iadd F dBC_28 ?_
  refine wa_ldcw F ck_BC_267 dBC_29 ?_
  refine wa_iand F dBC_32 ?_
  refine wa_istore_n (lv' := [(0, .int ((((((nI j) - ((uS (nI j) 1) &&& 1431655765)) &&& 858993459) + ((uS ((nI j) - ((uS (nI j) 1) &&& 1431655765)) 2) &&& 858993459)) + (uS ((((nI j) - ((uS (nI j) 1) &&& 1431655765)) &&& 858993459) + ((uS ((nI j) - ((uS (nI j) 1) &&& 1431655765)) 2) &&& 858993459)) 4)) &&& 252645135))]) F dBC_33 (i := 0) rfl (by decide) rfl ?_
  refine wa_iload_n F dBC_34 (i := 0) rfl 0 rfl ?_
  refine wa_iload_n F dBC_35 (i := 0) rfl 0 rfl ?_
  refine wa_bipush (v := 8) F dBC_36 (by decide) ?_
  refine wa_iushr (v := uS ((((((nI j) - ((uS (nI j) 1) &&& 1431655765)) &&& 858993459) + ((uS ((nI j) - ((uS (nI j) 1) &&& 1431655765)) 2) &&& 858993459)) + (uS ((((nI j) - ((uS (nI j) 1) &&& 1431655765)) &&& 858993459) + ((uS ((nI j) - ((uS (nI j) 1) &&& 1431655765)) 2) &&& 858993459)) 4)) &&& 252645135) 8) F rfl dBC_38 ?_
  refine wa_iadd F dBC_39 ?_
  refine wa_istore_n (lv' := [(0, .int (((((((nI j) - ((uS (nI j) 1) &&& 1431655765)) &&& 858993459) + ((uS ((nI j) - ((uS (nI j) 1) &&& 1431655765)) 2) &&& 858993459)) + (uS ((((nI j) - ((uS (nI j) 1) &&& 1431655765)) &&& 858993459) + ((uS ((nI j) - ((uS (nI j) 1) &&& 1431655765)) 2) &&& 858993459)) 4)) &&& 252645135) + (uS ((((((nI j) - ((uS (nI j) 1) &&& 1431655765)) &&& 858993459) + ((uS ((nI j) - ((uS (nI j) 1) &&& 1431655765)) 2) &&& 858993459)) + (uS ((((nI j) - ((uS (nI j) 1) &&& 1431655765)) &&& 858993459) + ((uS ((nI j) - ((uS (nI j) 1) &&& 1431655765)) 2) &&& 858993459)) 4)) &&& 252645135) 8)))]) F dBC_40 (i := 0) rfl (by decide) rfl ?_
  refine wa_iload_n F dBC_41 (i := 0) rfl 0 rfl ?_
  refine wa_iload_n F dBC_42 (i := 0) rfl 0 rfl ?_
  refine wa_bipush (v := 16) F dBC_43 (by decide) ?_
  refine wa_iushr (v := uS (((((((nI j) - ((uS (nI j) 1) &&& 1431655765)) &&& 858993459) + ((uS ((nI j) - ((uS (nI j) 1) &&& 1431655765)) 2) &&& 858993459)) + (uS ((((nI j) - ((uS (nI j) 1) &&& 1431655765)) &&& 858993459) + ((uS ((nI j) - ((uS (nI j) 1) &&& 1431655765)) 2) &&& 858993459)) 4)) &&& 252645135) + (uS ((((((nI j) - ((uS (nI j) 1) &&& 1431655765)) &&& 858993459) + ((uS ((nI j) - ((uS (nI j) 1) &&& 1431655765)) 2) &&& 858993459)) + (uS ((((nI j) - ((uS (nI j) 1) &&& 1431655765)) &&& 858993459) + ((uS ((nI j) - ((uS (nI j) 1) &&& 1431655765)) 2) &&& 858993459)) 4)) &&& 252645135) 8)) 16) F rfl dBC_45 ?_
  refine wa_iadd F dBC_46 ?_
  refine wa_istore_n (lv' := [(0, .int ((((((((nI j) - ((uS (nI j) 1) &&& 1431655765)) &&& 858993459) + ((uS ((nI j) - ((uS (nI j) 1) &&& 1431655765)) 2) &&& 858993459)) + (uS ((((nI j) - ((uS (nI j) 1) &&& 1431655765)) &&& 858993459) + ((uS ((nI j) - ((uS (nI j) 1) &&& 1431655765)) 2) &&& 858993459)) 4)) &&& 252645135) + (uS ((((((nI j) - ((uS (nI j) 1) &&& 1431655765)) &&& 858993459) + ((uS ((nI j) - ((uS (nI j) 1) &&& 1431655765)) 2) &&& 858993459)) + (uS ((((nI j) - ((uS (nI j) 1) &&& 1431655765)) &&& 858993459) + ((uS ((nI j) - ((uS (nI j) 1) &&& 1431655765)) 2) &&& 858993459)) 4)) &&& 252645135) 8)) + (uS (((((((nI j) - ((uS (nI j) 1) &&& 1431655765)) &&& 858993459) + ((uS ((nI j) - ((uS (nI j) 1) &&& 1431655765)) 2) &&& 858993459)) + (uS ((((nI j) - ((uS (nI j) 1) &&& 1431655765)) &&& 858993459) + ((uS ((nI j) - ((uS (nI j) 1) &&& 1431655765)) 2) &&& 858993459)) 4)) &&& 252645135) + (uS ((((((nI j) - ((uS (nI j) 1) &&& 1431655765)) &&& 858993459) + ((uS ((nI j) - ((uS (nI j) 1) &&& 1431655765)) 2) &&& 858993459)) + (uS ((((nI j) - ((uS (nI j) 1) &&& 1431655765)) &&& 858993459) + ((uS ((nI j) - ((uS (nI j) 1) &&& 1431655765)) 2) &&& 858993459)) 4)) &&& 252645135) 8)) 16)))]) F dBC_47 (i := 0) rfl (by decide) rfl ?_
  refine wa_iload_n F dBC_48 (i := 0) rfl 0 rfl ?_
  refine wa_bipush (v := 63) F dBC_49 (by decide) ?_
  refine wa_iand F dBC_51 ?_
  refine wa_iret F rfl (Nat.le_of_ble_eq_true rfl) (Nat.le_of_ble_eq_true rfl) dBC_52 ?_
  exact ⟨congrArg (fun z => some (Value.int z)) ((by decide +kernel : ∀ j : Fin 32, sBits (nI j.val) = (((((((((nI j.val) - ((uS (nI j.val) 1) &&& 1431655765)) &&& 858993459) + ((uS ((nI j.val) - ((uS (nI j.val) 1) &&& 1431655765)) 2) &&& 858993459)) + (uS ((((nI j.val) - ((uS (nI j.val) 1) &&& 1431655765)) &&& 858993459) + ((uS ((nI j.val) - ((uS (nI j.val) 1) &&& 1431655765)) 2) &&& 858993459)) 4)) &&& 252645135) + (uS ((((((nI j.val) - ((uS (nI j.val) 1) &&& 1431655765)) &&& 858993459) + ((uS ((nI j.val) - ((uS (nI j.val) 1) &&& 1431655765)) 2) &&& 858993459)) + (uS ((((nI j.val) - ((uS (nI j.val) 1) &&& 1431655765)) &&& 858993459) + ((uS ((nI j.val) - ((uS (nI j.val) 1) &&& 1431655765)) 2) &&& 858993459)) 4)) &&& 252645135) 8)) + (uS (((((((nI j.val) - ((uS (nI j.val) 1) &&& 1431655765)) &&& 858993459) + ((uS ((nI j.val) - ((uS (nI j.val) 1) &&& 1431655765)) 2) &&& 858993459)) + (uS ((((nI j.val) - ((uS (nI j.val) 1) &&& 1431655765)) &&& 858993459) + ((uS ((nI j.val) - ((uS (nI j.val) 1) &&& 1431655765)) 2) &&& 858993459)) 4)) &&& 252645135) + (uS ((((((nI j.val) - ((uS (nI j.val) 1) &&& 1431655765)) &&& 858993459) + ((uS ((nI j.val) - ((uS (nI j.val) 1) &&& 1431655765)) 2) &&& 858993459)) + (uS ((((nI j.val) - ((uS (nI j.val) 1) &&& 1431655765)) &&& 858993459) + ((uS ((nI j.val) - ((uS (nI j.val) 1) &&& 1431655765)) 2) &&& 858993459)) 4)) &&& 252645135) 8)) 16)) &&& 63)) ⟨j, hj⟩), rfl, rfl⟩
set_option maxHeartbeats 2000000 in
set_option maxRecDepth 20000 in
theorem c_X5_actsForByThemselves {l : Launch} (hst : l.stackTraces = false) (D : va_G) (TC : Nat → ClassId) (H0 : Heap) (ad : Nat → Nat) (X S : St) (o : Nat → Int64) (q : Nat) (hq : q < cnt X 13) (n : Nat) (hi : INV n X) (h : Hp) (HX : ∀ n e, hall TC X S o n = some e → h n = some e) : CC l D (tysOf TC) H0 yX5_actsForByThemselves cX5_actsForByThemselves 5 (some .int) 1 0 0 [.ref 0, .ref (1200 + q)] ad h (PR ad (some (.int (mFor X q))) h) (fun _ => False) := by
  refine cc_intro hst (by decide +kernel) (Nat.le_of_ble_eq_true rfl) ?_
  intro p e s m args below meth c F
  rw [show lv_args 0 [.ref 0, .ref (1200 + q)] = [(0, .ref 0), (1, .ref (1200 + q))] from rfl]
  obtain ⟨hc, hs, hpp, hd0, hmm, h7, h8, hbo, hu0, hvr⟩ := id hi
  obtain ⟨hvh, hday, hclo, h5, h12, h21, hze, h24, hrk, hbz⟩ := hvr
  have hb2 := hc.2; have hb9 := hs.2; have hb13 := hpp.2; have hb25 := hd0.2; have hb28 := hmm.2
  refine wa_iconst (v := 0) F dX5_actsForByThemselves_0 (by decide) ?_
  refine wa_istore_n (lv' := [(2, .int 0), (0, .ref 0), (1, .ref (1200 + q))]) F dX5_actsForByThemselves_1 (i := 2) rfl (by decide) rfl ?_
  refine wa_iconst (v := 0) F dX5_actsForByThemselves_2 (by decide) ?_
  refine wa_istore_n (lv' := [(3, .int 0), (2, .int 0), (0, .ref 0), (1, .ref (1200 + q))]) F dX5_actsForByThemselves_3 (i := 3) rfl (by decide) rfl ?_
  have loop4 : ∀ (n k : Nat), k ≤ 6 → 6 - k < n → WA D H0 p l e (RM 1 0 0) s m args below meth c 5 (vx_MQ below (QC0 D H0 (PR ad (some (.int (mFor X q))) h)) (XC0 D H0 (fun _ => False) ad h) args s 0 0 (hA0 H0)) ad h 0 0 4 [(3, .int (nI k)), (2, .int (bm (gFor X q) k)), (0, .ref 0), (1, .ref (1200 + q))] [] := by
    intro n
    induction n with
    | zero => intro k h1 h2; omega
    | succ n ih_k =>
      intro k hk_k hn_k
      refine wa_iload_n F dX5_actsForByThemselves_4 (i := 3) rfl 0 rfl ?_
      refine wa_aload_n F dX5_actsForByThemselves_5 (i := 0) rfl 2 rfl ?_
      refine wa_getf (v := .ref 10) F LY_X5 (HX _ _ (hm_c (TC := TC) (X := X) (S := S) (o := o))) 0 (by decide) fl_X5_11 rfl dX5_actsForByThemselves_6 ?_
      refine wa_alen F 3 rfl (HX _ _ (hm_a0 (TC := TC) (X := X) (S := S) (o := o))) dX5_actsForByThemselves_9 ?_
      refine wa_icmp_ge (tgt := 54) F dX5_actsForByThemselves_10 (by decide) (fun c10 => ?_) (fun c10 => ?_)
      · skip
        have he_k : k = 6 := Nat.le_antisymm hk_k (nle_k rfl (by omega) (by omega) c10)
        subst he_k
        refine wa_iload_n F dX5_actsForByThemselves_54 (i := 2) rfl 1 rfl ?_
        refine wa_iret F rfl (Nat.le_of_ble_eq_true rfl) (Nat.le_of_ble_eq_true rfl) dX5_actsForByThemselves_55 ?_
        exact ⟨rfl, rfl, rfl⟩
      · skip
        have hl_k : k < 6 := knle rfl (by omega) (by omega) c10
        refine wa_aload_n F dX5_actsForByThemselves_13 (i := 0) rfl 2 rfl ?_
        refine wa_getf (v := .ref 10) F LY_X5 (HX _ _ (hm_c (TC := TC) (X := X) (S := S) (o := o))) 0 (by decide) fl_X5_11 rfl dX5_actsForByThemselves_14 ?_
        refine wa_iload_n F dX5_actsForByThemselves_17 (i := 3) rfl 0 rfl ?_
        by_cases c18 : k < cnt X 2
        · skip
          refine wa_aald F 3 rfl (HX _ _ (hm_a0 (TC := TC) (X := X) (S := S) (o := o))) k rfl (by omega) (by decide) (rarr_t c18) dX5_actsForByThemselves_18 ?_
          refine wa_astore (lv' := [(4, .ref (1000 + k)), (3, .int (nI k)), (2, .int (bm (gFor X q) k)), (0, .ref 0), (1, .ref (1200 + q))]) F dX5_actsForByThemselves_19 (by decide) rfl ?_
          refine wa_aload F dX5_actsForByThemselves_21 0 rfl ?_
          refine wa_ifnull F dX5_actsForByThemselves_23 ?_
          refine wa_aload F dX5_actsForByThemselves_26 0 rfl ?_
          refine wa_aload_n F dX5_actsForByThemselves_28 (i := 1) rfl 4 rfl ?_
          refine wa_getN (v := .int (X 14 q)) F LY_X3 (HX _ _ (hm_prd (TC := TC) (X := X) (S := S) (o := o) hq hb13)) 3 (by decide) fn_X5_112 rfl dX5_actsForByThemselves_29 ?_
          refine wa_aload_n F dX5_actsForByThemselves_32 (i := 0) rfl 3 rfl ?_
          refine wa_getf (v := .int (X 1 0)) F LY_X5 (HX _ _ (hm_c (TC := TC) (X := X) (S := S) (o := o))) 10 (by decide) fl_X5_91 rfl dX5_actsForByThemselves_33 ?_
          refine wa_callV F [] (c_X0_isForByItself hst D TC H0 ad X S o k c18 hb2 (X 14 q) (X 1 0) h HX) mw_X0_isForByItself ml_X5_292 (HX _ _ (hm_act (TC := TC) (X := X) (S := S) (o := o) c18 hb2)) rfl rfl (Nat.le_of_ble_eq_true rfl) ⟨Nat.le_of_ble_eq_true rfl, Nat.le_of_ble_eq_true rfl⟩ ⟨Nat.le_of_ble_eq_true rfl, Nat.le_of_ble_eq_true rfl⟩ dX5_actsForByThemselves_36 PR_ag (fun _ z => z.elim) ?_
          rintro _ _ _ ⟨rfl, rfl, rfl⟩
          refine wa_if_eq (tgt := 48) F dX5_actsForByThemselves_39 (by decide) (fun c39 => ?_) (fun c39 => ?_)
          · skip
            replace c39 : (sFor X k q) = false := bI_f c39
            refine wa_iinc (v := (nI (k + 1))) (j := 1) (lv' := [(3, .int (nI (k + 1))), (4, .ref (1000 + k)), (2, .int (bm (gFor X q) k)), (0, .ref 0), (1, .ref (1200 + q))]) F dX5_actsForByThemselves_48 rfl ((nI_succ k).symm) (by decide) rfl ?_
            refine wa_goto (tgt := 4) F dX5_actsForByThemselves_51 (by decide) ?_
            have ea1 : (bm (gFor X q) k) = (bm (gFor X q) (k + 1)) := by simp [bm, gFor, c18, c39]
            refine wa_lv (lv' := [(3, .int (nI (k + 1))), (2, .int (bm (gFor X q) (k + 1))), (0, .ref 0), (1, .ref (1200 + q))]) [0, 2, 3, 4] (by rw [← ea1]; rfl) ?_
            exact ih_k (k + 1) (by omega) (by omega)
          · skip
            replace c39 : (sFor X k q) = true := bI_t c39
            refine wa_iload_n F dX5_actsForByThemselves_42 (i := 2) rfl 2 rfl ?_
            refine wa_iconst (v := 1) F dX5_actsForByThemselves_43 (by decide) ?_
            refine wa_iload_n F dX5_actsForByThemselves_44 (i := 3) rfl 1 rfl ?_
            refine wa_ishl F dX5_actsForByThemselves_45 ?_
            refine wa_ior F dX5_actsForByThemselves_46 ?_
            refine wa_istore_n (lv' := [(2, .int ((bm (gFor X q) k) ||| (1 <<< ((nI k) &&& 31)))), (4, .ref (1000 + k)), (3, .int (nI k)), (0, .ref 0), (1, .ref (1200 + q))]) F dX5_actsForByThemselves_47 (i := 2) rfl (by decide) rfl ?_
            refine wa_iinc (v := (nI (k + 1))) (j := 2) (lv' := [(3, .int (nI (k + 1))), (2, .int ((bm (gFor X q) k) ||| (1 <<< ((nI k) &&& 31)))), (4, .ref (1000 + k)), (0, .ref 0), (1, .ref (1200 + q))]) F dX5_actsForByThemselves_48 rfl ((nI_succ k).symm) (by decide) rfl ?_
            refine wa_goto (tgt := 4) F dX5_actsForByThemselves_51 (by decide) ?_
            have ea2 : ((bm (gFor X q) k) ||| (1 <<< ((nI k) &&& 31))) = (bm (gFor X q) (k + 1)) := by simp [bm, gFor, c18, c39]
            refine wa_lv (lv' := [(3, .int (nI (k + 1))), (2, .int (bm (gFor X q) (k + 1))), (0, .ref 0), (1, .ref (1200 + q))]) [0, 1, 3, 4] (by rw [← ea2]; rfl) ?_
            exact ih_k (k + 1) (by omega) (by omega)
        · skip
          refine wa_aald F 3 rfl (HX _ _ (hm_a0 (TC := TC) (X := X) (S := S) (o := o))) k rfl (by omega) (by decide) (rarr_f c18) dX5_actsForByThemselves_18 ?_
          refine wa_astoreN (lv' := [(4, .null), (3, .int (nI k)), (2, .int (bm (gFor X q) k)), (0, .ref 0), (1, .ref (1200 + q))]) F dX5_actsForByThemselves_19 (by decide) rfl ?_
          refine wa_aloadN F dX5_actsForByThemselves_21 0 rfl ?_
          refine wa_ifnullN (tgt := 48) F dX5_actsForByThemselves_23 (by decide) ?_
          refine wa_iinc (v := (nI (k + 1))) (j := 1) (lv' := [(3, .int (nI (k + 1))), (4, .null), (2, .int (bm (gFor X q) k)), (0, .ref 0), (1, .ref (1200 + q))]) F dX5_actsForByThemselves_48 rfl ((nI_succ k).symm) (by decide) rfl ?_
          refine wa_goto (tgt := 4) F dX5_actsForByThemselves_51 (by decide) ?_
          have ea3 : (bm (gFor X q) k) = (bm (gFor X q) (k + 1)) := by simp [bm, gFor, c18]
          refine wa_lv (lv' := [(3, .int (nI (k + 1))), (2, .int (bm (gFor X q) (k + 1))), (0, .ref 0), (1, .ref (1200 + q))]) [0, 2, 3, 4] (by rw [← ea3]; rfl) ?_
          exact ih_k (k + 1) (by omega) (by omega)
  exact loop4 (6 + 1) 0 (Nat.zero_le _) (by omega)
set_option maxHeartbeats 2000000 in
set_option maxRecDepth 20000 in
theorem c_X5_actsApplyingTo {l : Launch} (hst : l.stackTraces = false) (D : va_G) (TC : Nat → ClassId) (H0 : Heap) (ad : Nat → Nat) (X S : St) (o : Nat → Int64) (q : Nat) (hq : q < cnt X 13) (n : Nat) (hi : INV n X) (h : Hp) (HX : ∀ n e, hall TC X S o n = some e → h n = some e) : CC l D (tysOf TC) H0 yX5_actsApplyingTo cX5_actsApplyingTo 6 (some .int) 2 0 0 [.ref 0, .ref (1200 + q)] ad h (PR ad (some (.int (sAppl X q))) h) (fun _ => False) := by
  refine cc_intro hst (by decide +kernel) (Nat.le_of_ble_eq_true rfl) ?_
  intro p e s m args below meth c F
  rw [show lv_args 0 [.ref 0, .ref (1200 + q)] = [(0, .ref 0), (1, .ref (1200 + q))] from rfl]
  obtain ⟨hc, hs, hpp, hd0, hmm, h7, h8, hbo, hu0, hvr⟩ := id hi
  obtain ⟨hvh, hday, hclo, h5, h12, h21, hze, h24, hrk, hbz⟩ := hvr
  have hb2 := hc.2; have hb9 := hs.2; have hb13 := hpp.2; have hb25 := hd0.2; have hb28 := hmm.2
  refine wa_aload_n F dX5_actsApplyingTo_0 (i := 0) rfl 0 rfl ?_
  refine wa_aload_n F dX5_actsApplyingTo_1 (i := 1) rfl 1 rfl ?_
  refine wa_callV F [] (c_X5_actsForByThemselves hst D TC H0 ad X S o q hq _ hi h HX) mw_X5_actsForByThemselves ml_X5_295 (HX _ _ (hm_c (TC := TC) (X := X) (S := S) (o := o))) rfl rfl (Nat.le_of_ble_eq_true rfl) ⟨Nat.le_of_ble_eq_true rfl, Nat.le_of_ble_eq_true rfl⟩ ⟨Nat.le_of_ble_eq_true rfl, Nat.le_of_ble_eq_true rfl⟩ dX5_actsApplyingTo_2 PR_ag (fun _ z => z.elim) ?_
  rintro _ _ _ ⟨rfl, rfl, rfl⟩
  refine wa_istore_n (lv' := [(2, .int (mFor X q)), (0, .ref 0), (1, .ref (1200 + q))]) F dX5_actsApplyingTo_5 (i := 2) rfl (by decide) rfl ?_
  refine wa_iconst (v := 0) F dX5_actsApplyingTo_6 (by decide) ?_
  refine wa_istore_n (lv' := [(3, .int 0), (2, .int (mFor X q)), (0, .ref 0), (1, .ref (1200 + q))]) F dX5_actsApplyingTo_7 (i := 3) rfl (by decide) rfl ?_
  refine wa_iconst (v := 0) F dX5_actsApplyingTo_8 (by decide) ?_
  refine wa_istore (lv' := [(4, .int 0), (3, .int 0), (2, .int (mFor X q)), (0, .ref 0), (1, .ref (1200 + q))]) F dX5_actsApplyingTo_9 (by decide) rfl ?_
  have loop11 : ∀ (n k : Nat), k ≤ 6 → 6 - k < n → WA D H0 p l e (RM 2 0 0) s m args below meth c 6 (vx_MQ below (QC0 D H0 (PR ad (some (.int (sAppl X q))) h)) (XC0 D H0 (fun _ => False) ad h) args s 0 0 (hA0 H0)) ad h 0 0 11 [(4, .int (nI k)), (3, .int (bm (gApp X q) k)), (2, .int (mFor X q)), (0, .ref 0), (1, .ref (1200 + q))] [] := by
    intro n
    induction n with
    | zero => intro k h1 h2; omega
    | succ n ih_k =>
      intro k hk_k hn_k
      refine wa_iload F dX5_actsApplyingTo_11 0 rfl ?_
      refine wa_aload_n F dX5_actsApplyingTo_13 (i := 0) rfl 3 rfl ?_
      refine wa_getf (v := .ref 10) F LY_X5 (HX _ _ (hm_c (TC := TC) (X := X) (S := S) (o := o))) 0 (by decide) fl_X5_11 rfl dX5_actsApplyingTo_14 ?_
      refine wa_alen F 3 rfl (HX _ _ (hm_a0 (TC := TC) (X := X) (S := S) (o := o))) dX5_actsApplyingTo_17 ?_
      refine wa_icmp_ge (tgt := 67) F dX5_actsApplyingTo_18 (by decide) (fun c18 => ?_) (fun c18 => ?_)
      · skip
        have he_k : k = 6 := Nat.le_antisymm hk_k (nle_k rfl (by omega) (by omega) c18)
        subst he_k
        refine wa_iload_n F dX5_actsApplyingTo_67 (i := 3) rfl 1 rfl ?_
        refine wa_iret F rfl (Nat.le_of_ble_eq_true rfl) (Nat.le_of_ble_eq_true rfl) dX5_actsApplyingTo_68 ?_
        exact ⟨congrArg (fun z => some (Value.int z)) (app_eq hb2 q).symm, rfl, rfl⟩
      · skip
        have hl_k : k < 6 := knle rfl (by omega) (by omega) c18
        refine wa_aload_n F dX5_actsApplyingTo_21 (i := 0) rfl 3 rfl ?_
        refine wa_getf (v := .ref 10) F LY_X5 (HX _ _ (hm_c (TC := TC) (X := X) (S := S) (o := o))) 0 (by decide) fl_X5_11 rfl dX5_actsApplyingTo_22 ?_
        refine wa_iload F dX5_actsApplyingTo_25 0 rfl ?_
        by_cases c27 : k < cnt X 2
        · skip
          refine wa_aald F 3 rfl (HX _ _ (hm_a0 (TC := TC) (X := X) (S := S) (o := o))) k rfl (by omega) (by decide) (rarr_t c27) dX5_actsApplyingTo_27 ?_
          refine wa_astore (lv' := [(5, .ref (1000 + k)), (4, .int (nI k)), (3, .int (bm (gApp X q) k)), (2, .int (mFor X q)), (0, .ref 0), (1, .ref (1200 + q))]) F dX5_actsApplyingTo_28 (by decide) rfl ?_
          refine wa_aload F dX5_actsApplyingTo_30 0 rfl ?_
          refine wa_ifnull F dX5_actsApplyingTo_32 ?_
          refine wa_iload_n F dX5_actsApplyingTo_35 (i := 2) rfl 3 rfl ?_
          refine wa_iload F dX5_actsApplyingTo_36 1 rfl ?_
          refine wa_callS F [] (c_X5_hasBit hst D (tysOf TC) H0 ad h (mFor X q) (nI k)) mw_X5_hasBit ml_X5_70 rfl (Nat.le_of_ble_eq_true rfl) ⟨Nat.le_of_ble_eq_true rfl, Nat.le_of_ble_eq_true rfl⟩ ⟨Nat.le_of_ble_eq_true rfl, Nat.le_of_ble_eq_true rfl⟩ dX5_actsApplyingTo_38 PR_ag (fun _ z => z.elim) ?_
          rintro _ _ _ ⟨rfl, rfl, rfl⟩
          refine wa_if_eq (tgt := 61) F dX5_actsApplyingTo_41 (by decide) (fun c41 => ?_) (fun c41 => ?_)
          · skip
            replace c41 : (hB (mFor X q) (nI k)) = false := bI_f c41
            refine wa_iinc (v := (nI (k + 1))) (j := 1) (lv' := [(4, .int (nI (k + 1))), (5, .ref (1000 + k)), (3, .int (bm (gApp X q) k)), (2, .int (mFor X q)), (0, .ref 0), (1, .ref (1200 + q))]) F dX5_actsApplyingTo_61 rfl ((nI_succ k).symm) (by decide) rfl ?_
            refine wa_goto (tgt := 11) F dX5_actsApplyingTo_64 (by decide) ?_
            have ea1 : (bm (gApp X q) k) = (bm (gApp X q) (k + 1)) := by simp [bm, gApp, c27, c41]
            refine wa_lv (lv' := [(4, .int (nI (k + 1))), (3, .int (bm (gApp X q) (k + 1))), (2, .int (mFor X q)), (0, .ref 0), (1, .ref (1200 + q))]) [0, 2, 3, 4, 5] (by rw [← ea1]; rfl) ?_
            exact ih_k (k + 1) (by omega) (by omega)
          · skip
            replace c41 : (hB (mFor X q) (nI k)) = true := bI_t c41
            refine wa_aload F dX5_actsApplyingTo_44 0 rfl ?_
            refine wa_getN (v := .int (msB X k)) F LY_X0 (HX _ _ (hm_act (TC := TC) (X := X) (S := S) (o := o) c27 hb2)) 4 (by decide) fn_X5_76 rfl dX5_actsApplyingTo_46 ?_
            refine wa_iload_n F dX5_actsApplyingTo_49 (i := 2) rfl 3 rfl ?_
            refine wa_iand F dX5_actsApplyingTo_50 ?_
            refine wa_if_ne (tgt := 61) F dX5_actsApplyingTo_51 (by decide) (fun c51 => ?_) (fun c51 => ?_)
            · skip
              refine wa_iinc (v := (nI (k + 1))) (j := 1) (lv' := [(4, .int (nI (k + 1))), (5, .ref (1000 + k)), (3, .int (bm (gApp X q) k)), (2, .int (mFor X q)), (0, .ref 0), (1, .ref (1200 + q))]) F dX5_actsApplyingTo_61 rfl ((nI_succ k).symm) (by decide) rfl ?_
              refine wa_goto (tgt := 11) F dX5_actsApplyingTo_64 (by decide) ?_
              have ea2 : (bm (gApp X q) k) = (bm (gApp X q) (k + 1)) := by simp [bm, gApp, c27, c41, c51]
              refine wa_lv (lv' := [(4, .int (nI (k + 1))), (3, .int (bm (gApp X q) (k + 1))), (2, .int (mFor X q)), (0, .ref 0), (1, .ref (1200 + q))]) [0, 2, 3, 4, 5] (by rw [← ea2]; rfl) ?_
              exact ih_k (k + 1) (by omega) (by omega)
            · skip
              refine wa_iload_n F dX5_actsApplyingTo_54 (i := 3) rfl 2 rfl ?_
              refine wa_iconst (v := 1) F dX5_actsApplyingTo_55 (by decide) ?_
              refine wa_iload F dX5_actsApplyingTo_56 1 rfl ?_
              refine wa_ishl F dX5_actsApplyingTo_58 ?_
              refine wa_ior F dX5_actsApplyingTo_59 ?_
              refine wa_istore_n (lv' := [(3, .int ((bm (gApp X q) k) ||| (1 <<< ((nI k) &&& 31)))), (5, .ref (1000 + k)), (4, .int (nI k)), (2, .int (mFor X q)), (0, .ref 0), (1, .ref (1200 + q))]) F dX5_actsApplyingTo_60 (i := 3) rfl (by decide) rfl ?_
              refine wa_iinc (v := (nI (k + 1))) (j := 2) (lv' := [(4, .int (nI (k + 1))), (3, .int ((bm (gApp X q) k) ||| (1 <<< ((nI k) &&& 31)))), (5, .ref (1000 + k)), (2, .int (mFor X q)), (0, .ref 0), (1, .ref (1200 + q))]) F dX5_actsApplyingTo_61 rfl ((nI_succ k).symm) (by decide) rfl ?_
              refine wa_goto (tgt := 11) F dX5_actsApplyingTo_64 (by decide) ?_
              have ea3 : ((bm (gApp X q) k) ||| (1 <<< ((nI k) &&& 31))) = (bm (gApp X q) (k + 1)) := by simp [bm, gApp, c27, c41, c51]
              refine wa_lv (lv' := [(4, .int (nI (k + 1))), (3, .int (bm (gApp X q) (k + 1))), (2, .int (mFor X q)), (0, .ref 0), (1, .ref (1200 + q))]) [0, 1, 3, 4, 5] (by rw [← ea3]; rfl) ?_
              exact ih_k (k + 1) (by omega) (by omega)
        · skip
          refine wa_aald F 3 rfl (HX _ _ (hm_a0 (TC := TC) (X := X) (S := S) (o := o))) k rfl (by omega) (by decide) (rarr_f c27) dX5_actsApplyingTo_27 ?_
          refine wa_astoreN (lv' := [(5, .null), (4, .int (nI k)), (3, .int (bm (gApp X q) k)), (2, .int (mFor X q)), (0, .ref 0), (1, .ref (1200 + q))]) F dX5_actsApplyingTo_28 (by decide) rfl ?_
          refine wa_aloadN F dX5_actsApplyingTo_30 0 rfl ?_
          refine wa_ifnullN (tgt := 61) F dX5_actsApplyingTo_32 (by decide) ?_
          refine wa_iinc (v := (nI (k + 1))) (j := 1) (lv' := [(4, .int (nI (k + 1))), (5, .null), (3, .int (bm (gApp X q) k)), (2, .int (mFor X q)), (0, .ref 0), (1, .ref (1200 + q))]) F dX5_actsApplyingTo_61 rfl ((nI_succ k).symm) (by decide) rfl ?_
          refine wa_goto (tgt := 11) F dX5_actsApplyingTo_64 (by decide) ?_
          have ea4 : (bm (gApp X q) k) = (bm (gApp X q) (k + 1)) := by simp [bm, gApp, c27]
          refine wa_lv (lv' := [(4, .int (nI (k + 1))), (3, .int (bm (gApp X q) (k + 1))), (2, .int (mFor X q)), (0, .ref 0), (1, .ref (1200 + q))]) [0, 2, 3, 4, 5] (by rw [← ea4]; rfl) ?_
          exact ih_k (k + 1) (by omega) (by omega)
  exact loop11 (6 + 1) 0 (Nat.zero_le _) (by omega)
set_option maxHeartbeats 2000000 in
set_option maxRecDepth 20000 in
theorem c_X5_hazardsDemanded {l : Launch} (hst : l.stackTraces = false) (D : va_G) (TC : Nat → ClassId) (H0 : Heap) (ad : Nat → Nat) (X S : St) (o : Nat → Int64) (q : Nat) (hq : q < cnt X 13) (n : Nat) (hi : INV n X) (h : Hp) (HX : ∀ n e, hall TC X S o n = some e → h n = some e) : CC l D (tysOf TC) H0 yX5_hazardsDemanded cX5_hazardsDemanded 6 (some .int) 3 0 0 [.ref 0, .ref (1200 + q)] ad h (PR ad (some (.int (sDem X q))) h) (fun _ => False) := by
  refine cc_intro hst (by decide +kernel) (Nat.le_of_ble_eq_true rfl) ?_
  intro p e s m args below meth c F
  rw [show lv_args 0 [.ref 0, .ref (1200 + q)] = [(0, .ref 0), (1, .ref (1200 + q))] from rfl]
  obtain ⟨hc, hs, hpp, hd0, hmm, h7, h8, hbo, hu0, hvr⟩ := id hi
  obtain ⟨hvh, hday, hclo, h5, h12, h21, hze, h24, hrk, hbz⟩ := hvr
  have hb2 := hc.2; have hb9 := hs.2; have hb13 := hpp.2; have hb25 := hd0.2; have hb28 := hmm.2
  refine wa_aload_n F dX5_hazardsDemanded_0 (i := 0) rfl 0 rfl ?_
  refine wa_aload_n F dX5_hazardsDemanded_1 (i := 1) rfl 1 rfl ?_
  refine wa_callV F [] (c_X5_actsApplyingTo hst D TC H0 ad X S o q hq _ hi h HX) mw_X5_actsApplyingTo ml_X5_245 (HX _ _ (hm_c (TC := TC) (X := X) (S := S) (o := o))) rfl rfl (Nat.le_of_ble_eq_true rfl) ⟨Nat.le_of_ble_eq_true rfl, Nat.le_of_ble_eq_true rfl⟩ ⟨Nat.le_of_ble_eq_true rfl, Nat.le_of_ble_eq_true rfl⟩ dX5_hazardsDemanded_2 PR_ag (fun _ z => z.elim) ?_
  rintro _ _ _ ⟨rfl, rfl, rfl⟩
  refine wa_istore_n (lv' := [(2, .int (sAppl X q)), (0, .ref 0), (1, .ref (1200 + q))]) F dX5_hazardsDemanded_5 (i := 2) rfl (by decide) rfl ?_
  refine wa_iconst (v := 0) F dX5_hazardsDemanded_6 (by decide) ?_
  refine wa_istore_n (lv' := [(3, .int 0), (2, .int (sAppl X q)), (0, .ref 0), (1, .ref (1200 + q))]) F dX5_hazardsDemanded_7 (i := 3) rfl (by decide) rfl ?_
  refine wa_iconst (v := 0) F dX5_hazardsDemanded_8 (by decide) ?_
  refine wa_istore (lv' := [(4, .int 0), (3, .int 0), (2, .int (sAppl X q)), (0, .ref 0), (1, .ref (1200 + q))]) F dX5_hazardsDemanded_9 (by decide) rfl ?_
  have loop11 : ∀ (n k : Nat), k ≤ 6 → 6 - k < n → WA D H0 p l e (RM 3 0 0) s m args below meth c 6 (vx_MQ below (QC0 D H0 (PR ad (some (.int (sDem X q))) h)) (XC0 D H0 (fun _ => False) ad h) args s 0 0 (hA0 H0)) ad h 0 0 11 [(4, .int (nI k)), (3, .int (orA 0 (fDmC X q) k)), (2, .int (sAppl X q)), (0, .ref 0), (1, .ref (1200 + q))] [] := by
    intro n
    induction n with
    | zero => intro k h1 h2; omega
    | succ n ih_k =>
      intro k hk_k hn_k
      refine wa_iload F dX5_hazardsDemanded_11 0 rfl ?_
      refine wa_aload_n F dX5_hazardsDemanded_13 (i := 0) rfl 3 rfl ?_
      refine wa_getf (v := .ref 10) F LY_X5 (HX _ _ (hm_c (TC := TC) (X := X) (S := S) (o := o))) 0 (by decide) fl_X5_11 rfl dX5_hazardsDemanded_14 ?_
      refine wa_alen F 3 rfl (HX _ _ (hm_a0 (TC := TC) (X := X) (S := S) (o := o))) dX5_hazardsDemanded_17 ?_
      refine wa_icmp_ge (tgt := 58) F dX5_hazardsDemanded_18 (by decide) (fun c18 => ?_) (fun c18 => ?_)
      · skip
        have he_k : k = 6 := Nat.le_antisymm hk_k (nle_k rfl (by omega) (by omega) c18)
        subst he_k
        refine wa_iload_n F dX5_hazardsDemanded_58 (i := 3) rfl 1 rfl ?_
        refine wa_aload_n F dX5_hazardsDemanded_59 (i := 1) rfl 4 rfl ?_
        refine wa_iconst (v := 0) F dX5_hazardsDemanded_60 (by decide) ?_
        refine wa_callV F [.int (orA 0 (fDmC X q) 6)] (c_X3_hazardsBeforeAbove hst D TC H0 ad X S o q hq hb13 0 h HX) mw_X3_hazardsBeforeAbove ml_X5_301 (HX _ _ (hm_prd (TC := TC) (X := X) (S := S) (o := o) hq hb13)) rfl rfl (Nat.le_of_ble_eq_true rfl) ⟨Nat.le_of_ble_eq_true rfl, Nat.le_of_ble_eq_true rfl⟩ ⟨Nat.le_of_ble_eq_true rfl, Nat.le_of_ble_eq_true rfl⟩ dX5_hazardsDemanded_61 PR_ag (fun _ z => z.elim) ?_
        rintro _ _ _ ⟨rfl, rfl, rfl⟩
        refine wa_iand F dX5_hazardsDemanded_64 ?_
        refine wa_iret F rfl (Nat.le_of_ble_eq_true rfl) (Nat.le_of_ble_eq_true rfl) dX5_hazardsDemanded_65 ?_
        exact ⟨congrArg (fun z => some (Value.int z)) (by rw [asks_eq hb2 q, dem_eq h5 (fun j hj => (hrk q j hq hj).1)]), rfl, rfl⟩
      · skip
        have hl_k : k < 6 := knle rfl (by omega) (by omega) c18
        refine wa_aload_n F dX5_hazardsDemanded_21 (i := 0) rfl 3 rfl ?_
        refine wa_getf (v := .ref 10) F LY_X5 (HX _ _ (hm_c (TC := TC) (X := X) (S := S) (o := o))) 0 (by decide) fl_X5_11 rfl dX5_hazardsDemanded_22 ?_
        refine wa_iload F dX5_hazardsDemanded_25 0 rfl ?_
        by_cases c27 : k < cnt X 2
        · skip
          refine wa_aald F 3 rfl (HX _ _ (hm_a0 (TC := TC) (X := X) (S := S) (o := o))) k rfl (by omega) (by decide) (rarr_t c27) dX5_hazardsDemanded_27 ?_
          refine wa_astore (lv' := [(5, .ref (1000 + k)), (4, .int (nI k)), (3, .int (orA 0 (fDmC X q) k)), (2, .int (sAppl X q)), (0, .ref 0), (1, .ref (1200 + q))]) F dX5_hazardsDemanded_28 (by decide) rfl ?_
          refine wa_aload F dX5_hazardsDemanded_30 0 rfl ?_
          refine wa_ifnull F dX5_hazardsDemanded_32 ?_
          refine wa_iload_n F dX5_hazardsDemanded_35 (i := 2) rfl 3 rfl ?_
          refine wa_iload F dX5_hazardsDemanded_36 1 rfl ?_
          refine wa_callS F [] (c_X5_hasBit hst D (tysOf TC) H0 ad h (sAppl X q) (nI k)) mw_X5_hasBit ml_X5_70 rfl (Nat.le_of_ble_eq_true rfl) ⟨Nat.le_of_ble_eq_true rfl, Nat.le_of_ble_eq_true rfl⟩ ⟨Nat.le_of_ble_eq_true rfl, Nat.le_of_ble_eq_true rfl⟩ dX5_hazardsDemanded_38 PR_ag (fun _ z => z.elim) ?_
          rintro _ _ _ ⟨rfl, rfl, rfl⟩
          refine wa_if_eq (tgt := 52) F dX5_hazardsDemanded_41 (by decide) (fun c41 => ?_) (fun c41 => ?_)
          · skip
            replace c41 : (hB (sAppl X q) (nI k)) = false := bI_f c41
            refine wa_iinc (v := (nI (k + 1))) (j := 1) (lv' := [(4, .int (nI (k + 1))), (5, .ref (1000 + k)), (3, .int (orA 0 (fDmC X q) k)), (2, .int (sAppl X q)), (0, .ref 0), (1, .ref (1200 + q))]) F dX5_hazardsDemanded_52 rfl ((nI_succ k).symm) (by decide) rfl ?_
            refine wa_goto (tgt := 11) F dX5_hazardsDemanded_55 (by decide) ?_
            have ea1 : (orA 0 (fDmC X q) k) = (orA 0 (fDmC X q) (k + 1)) := by simp [orA, fDmC, c27, c41]
            refine wa_lv (lv' := [(4, .int (nI (k + 1))), (3, .int (orA 0 (fDmC X q) (k + 1))), (2, .int (sAppl X q)), (0, .ref 0), (1, .ref (1200 + q))]) [0, 2, 3, 4, 5] (by rw [← ea1]; rfl) ?_
            exact ih_k (k + 1) (by omega) (by omega)
          · skip
            replace c41 : (hB (sAppl X q) (nI k)) = true := bI_t c41
            refine wa_iload_n F dX5_hazardsDemanded_44 (i := 3) rfl 2 rfl ?_
            refine wa_aload F dX5_hazardsDemanded_45 0 rfl ?_
            refine wa_getN (v := .int (X 5 k)) F LY_X0 (HX _ _ (hm_act (TC := TC) (X := X) (S := S) (o := o) c27 hb2)) 2 (by decide) fn_X5_298 rfl dX5_hazardsDemanded_47 ?_
            refine wa_ior F dX5_hazardsDemanded_50 ?_
            refine wa_istore_n (lv' := [(3, .int ((orA 0 (fDmC X q) k) ||| (X 5 k))), (5, .ref (1000 + k)), (4, .int (nI k)), (2, .int (sAppl X q)), (0, .ref 0), (1, .ref (1200 + q))]) F dX5_hazardsDemanded_51 (i := 3) rfl (by decide) rfl ?_
            refine wa_iinc (v := (nI (k + 1))) (j := 2) (lv' := [(4, .int (nI (k + 1))), (3, .int ((orA 0 (fDmC X q) k) ||| (X 5 k))), (5, .ref (1000 + k)), (2, .int (sAppl X q)), (0, .ref 0), (1, .ref (1200 + q))]) F dX5_hazardsDemanded_52 rfl ((nI_succ k).symm) (by decide) rfl ?_
            refine wa_goto (tgt := 11) F dX5_hazardsDemanded_55 (by decide) ?_
            have ea2 : ((orA 0 (fDmC X q) k) ||| (X 5 k)) = (orA 0 (fDmC X q) (k + 1)) := by simp [orA, fDmC, c27, c41]
            refine wa_lv (lv' := [(4, .int (nI (k + 1))), (3, .int (orA 0 (fDmC X q) (k + 1))), (2, .int (sAppl X q)), (0, .ref 0), (1, .ref (1200 + q))]) [0, 1, 3, 4, 5] (by rw [← ea2]; rfl) ?_
            exact ih_k (k + 1) (by omega) (by omega)
        · skip
          refine wa_aald F 3 rfl (HX _ _ (hm_a0 (TC := TC) (X := X) (S := S) (o := o))) k rfl (by omega) (by decide) (rarr_f c27) dX5_hazardsDemanded_27 ?_
          refine wa_astoreN (lv' := [(5, .null), (4, .int (nI k)), (3, .int (orA 0 (fDmC X q) k)), (2, .int (sAppl X q)), (0, .ref 0), (1, .ref (1200 + q))]) F dX5_hazardsDemanded_28 (by decide) rfl ?_
          refine wa_aloadN F dX5_hazardsDemanded_30 0 rfl ?_
          refine wa_ifnullN (tgt := 52) F dX5_hazardsDemanded_32 (by decide) ?_
          refine wa_iinc (v := (nI (k + 1))) (j := 1) (lv' := [(4, .int (nI (k + 1))), (5, .null), (3, .int (orA 0 (fDmC X q) k)), (2, .int (sAppl X q)), (0, .ref 0), (1, .ref (1200 + q))]) F dX5_hazardsDemanded_52 rfl ((nI_succ k).symm) (by decide) rfl ?_
          refine wa_goto (tgt := 11) F dX5_hazardsDemanded_55 (by decide) ?_
          have ea3 : (orA 0 (fDmC X q) k) = (orA 0 (fDmC X q) (k + 1)) := by simp [orA, fDmC, c27]
          refine wa_lv (lv' := [(4, .int (nI (k + 1))), (3, .int (orA 0 (fDmC X q) (k + 1))), (2, .int (sAppl X q)), (0, .ref 0), (1, .ref (1200 + q))]) [0, 2, 3, 4, 5] (by rw [← ea3]; rfl) ?_
          exact ih_k (k + 1) (by omega) (by omega)
  exact loop11 (6 + 1) 0 (Nat.zero_le _) (by omega)
set_option maxHeartbeats 2000000 in
set_option maxRecDepth 20000 in
theorem c_X5_hazardsKept {l : Launch} (hst : l.stackTraces = false) (D : va_G) (TC : Nat → ClassId) (H0 : Heap) (ad : Nat → Nat) (X S : St) (o : Nat → Int64) (q : Nat) (hq : q < cnt X 13) (n : Nat) (hi : INV n X) (h : Hp) (HX : ∀ n e, hall TC X S o n = some e → h n = some e) : CC l D (tysOf TC) H0 yX5_hazardsKept cX5_hazardsKept 6 (some .int) 3 0 0 [.ref 0, .ref (1200 + q), .int (sDem X q)] ad h (PR ad (some (.int (sKept X q))) h) (fun _ => False) := by
  refine cc_intro hst (by decide +kernel) (Nat.le_of_ble_eq_true rfl) ?_
  intro p e s m args below meth c F
  rw [show lv_args 0 [.ref 0, .ref (1200 + q), .int (sDem X q)] = [(0, .ref 0), (1, .ref (1200 + q)), (2, .int (sDem X q))] from rfl]
  obtain ⟨hc, hs, hpp, hd0, hmm, h7, h8, hbo, hu0, hvr⟩ := id hi
  obtain ⟨hvh, hday, hclo, h5, h12, h21, hze, h24, hrk, hbz⟩ := hvr
  have hb2 := hc.2; have hb9 := hs.2; have hb13 := hpp.2; have hb25 := hd0.2; have hb28 := hmm.2
  refine wa_aload_n F dX5_hazardsKept_0 (i := 1) rfl 1 rfl ?_
  refine wa_getN (v := .int (X 19 q)) F LY_X3 (HX _ _ (hm_prd (TC := TC) (X := X) (S := S) (o := o) hq hb13)) 5 (by decide) fn_X5_134 rfl dX5_hazardsKept_1 ?_
  refine wa_istore_n (lv' := [(3, .int (X 19 q)), (0, .ref 0), (1, .ref (1200 + q)), (2, .int (sDem X q))]) F dX5_hazardsKept_4 (i := 3) rfl (by decide) rfl ?_
  refine wa_iconst (v := 0) F dX5_hazardsKept_5 (by decide) ?_
  refine wa_istore (lv' := [(4, .int 0), (3, .int (X 19 q)), (0, .ref 0), (1, .ref (1200 + q)), (2, .int (sDem X q))]) F dX5_hazardsKept_6 (by decide) rfl ?_
  have loop8 : ∀ (n k : Nat), k ≤ 12 → 12 - k < n → WA D H0 p l e (RM 3 0 0) s m args below meth c 6 (vx_MQ below (QC0 D H0 (PR ad (some (.int (sKept X q))) h)) (XC0 D H0 (fun _ => False) ad h) args s 0 0 (hA0 H0)) ad h 0 0 8 [(4, .int (nI k)), (3, .int (orA (X 19 q) (fShC X q) k)), (0, .ref 0), (1, .ref (1200 + q)), (2, .int (sDem X q))] [] := by
    intro n
    induction n with
    | zero => intro k h1 h2; omega
    | succ n ih_k =>
      intro k hk_k hn_k
      refine wa_iload F dX5_hazardsKept_8 0 rfl ?_
      refine wa_aload_n F dX5_hazardsKept_10 (i := 0) rfl 2 rfl ?_
      refine wa_getf (v := .ref 11) F LY_X5 (HX _ _ (hm_c (TC := TC) (X := X) (S := S) (o := o))) 1 (by decide) fl_X5_17 rfl dX5_hazardsKept_11 ?_
      refine wa_alen F 4 rfl (HX _ _ (hm_a1 (TC := TC) (X := X) (S := S) (o := o))) dX5_hazardsKept_14 ?_
      refine wa_icmp_ge (tgt := 76) F dX5_hazardsKept_15 (by decide) (fun c15 => ?_) (fun c15 => ?_)
      · skip
        have he_k : k = 12 := Nat.le_antisymm hk_k (nle_k rfl (by omega) (by omega) c15)
        subst he_k
        refine wa_iload_n F dX5_hazardsKept_76 (i := 2) rfl 4 rfl ?_
        refine wa_iload_n F dX5_hazardsKept_77 (i := 3) rfl 1 rfl ?_
        refine wa_iand F dX5_hazardsKept_78 ?_
        refine wa_aload_n F dX5_hazardsKept_79 (i := 1) rfl 3 rfl ?_
        refine wa_iconst (v := 4) F dX5_hazardsKept_80 (by decide) ?_
        refine wa_callV F [.int ((sDem X q) &&& (orA (X 19 q) (fShC X q) 12))] (c_X3_hazardsAfterAbove hst D TC H0 ad X S o q hq hb13 4 h HX) mw_X3_hazardsAfterAbove ml_X5_307 (HX _ _ (hm_prd (TC := TC) (X := X) (S := S) (o := o) hq hb13)) rfl rfl (Nat.le_of_ble_eq_true rfl) ⟨Nat.le_of_ble_eq_true rfl, Nat.le_of_ble_eq_true rfl⟩ ⟨Nat.le_of_ble_eq_true rfl, Nat.le_of_ble_eq_true rfl⟩ dX5_hazardsKept_81 PR_ag (fun _ z => z.elim) ?_
        rintro _ _ _ ⟨rfl, rfl, rfl⟩
        refine wa_iconst (v := (-1)) F dX5_hazardsKept_84 (by decide) ?_
        refine wa_ixor F dX5_hazardsKept_85 ?_
        refine wa_iand F dX5_hazardsKept_86 ?_
        refine wa_iret F rfl (Nat.le_of_ble_eq_true rfl) (Nat.le_of_ble_eq_true rfl) dX5_hazardsKept_87 ?_
        exact ⟨congrArg (fun z => some (Value.int z)) (by rw [shown_eq hb9 hday h12 q, kept_eq h5 q]), rfl, rfl⟩
      · skip
        have hl_k : k < 12 := knle rfl (by omega) (by omega) c15
        refine wa_iload F dX5_hazardsKept_18 0 rfl ?_
        refine wa_aload_n F dX5_hazardsKept_20 (i := 1) rfl 3 rfl ?_
        refine wa_getN (v := .ref (1700 + q)) F LY_X3 (HX _ _ (hm_prd (TC := TC) (X := X) (S := S) (o := o) hq hb13)) 2 (by decide) fn_X5_131 rfl dX5_hazardsKept_21 ?_
        refine wa_alen F 0 rfl (HX _ _ (hm_fo (TC := TC) (X := X) (S := S) (o := o) hq hb13)) dX5_hazardsKept_24 ?_
        refine wa_icmp_ge (tgt := 76) F dX5_hazardsKept_25 (by decide) (fun c25 => ?_) (fun c25 => ?_)
        · skip
          exact absurd (nle_k (N := 12) rfl (by omega) (by omega) c25) (by omega)
        · skip
          refine wa_aload_n F dX5_hazardsKept_28 (i := 0) rfl 2 rfl ?_
          refine wa_getf (v := .ref 11) F LY_X5 (HX _ _ (hm_c (TC := TC) (X := X) (S := S) (o := o))) 1 (by decide) fl_X5_17 rfl dX5_hazardsKept_29 ?_
          refine wa_iload F dX5_hazardsKept_32 0 rfl ?_
          by_cases c34 : k < cnt X 9
          · skip
            refine wa_aald F 4 rfl (HX _ _ (hm_a1 (TC := TC) (X := X) (S := S) (o := o))) k rfl (by omega) (by decide) (rarr_t c34) dX5_hazardsKept_34 ?_
            refine wa_astore (lv' := [(5, .ref (1100 + k)), (4, .int (nI k)), (3, .int (orA (X 19 q) (fShC X q) k)), (0, .ref 0), (1, .ref (1200 + q)), (2, .int (sDem X q))]) F dX5_hazardsKept_35 (by decide) rfl ?_
            refine wa_aload F dX5_hazardsKept_37 0 rfl ?_
            refine wa_ifnull F dX5_hazardsKept_39 ?_
            refine wa_aload F dX5_hazardsKept_42 0 rfl ?_
            refine wa_aload_n F dX5_hazardsKept_44 (i := 0) rfl 3 rfl ?_
            refine wa_getf (v := .int (X 1 0)) F LY_X5 (HX _ _ (hm_c (TC := TC) (X := X) (S := S) (o := o))) 10 (by decide) fl_X5_91 rfl dX5_hazardsKept_45 ?_
            refine wa_callV F [] (c_X4_isListedOn hst D TC H0 ad X S o k c34 hb9 (X 1 0) h HX) mw_X4_isListedOn ml_X5_304 (HX _ _ (hm_std (TC := TC) (X := X) (S := S) (o := o) c34 hb9)) rfl rfl (Nat.le_of_ble_eq_true rfl) ⟨Nat.le_of_ble_eq_true rfl, Nat.le_of_ble_eq_true rfl⟩ ⟨Nat.le_of_ble_eq_true rfl, Nat.le_of_ble_eq_true rfl⟩ dX5_hazardsKept_48 PR_ag (fun _ z => z.elim) ?_
            rintro _ _ _ ⟨rfl, rfl, rfl⟩
            refine wa_if_eq (tgt := 70) F dX5_hazardsKept_51 (by decide) (fun c51 => ?_) (fun c51 => ?_)
            · skip
              replace c51 : (lsC X k) = false := bI_f c51
              refine wa_iinc (v := (nI (k + 1))) (j := 1) (lv' := [(4, .int (nI (k + 1))), (5, .ref (1100 + k)), (3, .int (orA (X 19 q) (fShC X q) k)), (0, .ref 0), (1, .ref (1200 + q)), (2, .int (sDem X q))]) F dX5_hazardsKept_70 rfl ((nI_succ k).symm) (by decide) rfl ?_
              refine wa_goto (tgt := 8) F dX5_hazardsKept_73 (by decide) ?_
              have ea1 : (orA (X 19 q) (fShC X q) k) = (orA (X 19 q) (fShC X q) (k + 1)) := by simp [orA, fShC, c34, c51]
              refine wa_lv (lv' := [(4, .int (nI (k + 1))), (3, .int (orA (X 19 q) (fShC X q) (k + 1))), (0, .ref 0), (1, .ref (1200 + q)), (2, .int (sDem X q))]) [0, 2, 3, 4, 5] (by rw [← ea1]; rfl) ?_
              exact ih_k (k + 1) (by omega) (by omega)
            · skip
              replace c51 : (lsC X k) = true := bI_t c51
              refine wa_iload_n F dX5_hazardsKept_54 (i := 3) rfl 2 rfl ?_
              refine wa_aload_n F dX5_hazardsKept_55 (i := 1) rfl 4 rfl ?_
              refine wa_getN (v := .ref (1700 + q)) F LY_X3 (HX _ _ (hm_prd (TC := TC) (X := X) (S := S) (o := o) hq hb13)) 2 (by decide) fn_X5_131 rfl dX5_hazardsKept_56 ?_
              refine wa_iload F dX5_hazardsKept_59 1 rfl ?_
              refine wa_ialV F 0 rfl (HX _ _ (hm_fo (TC := TC) (X := X) (S := S) (o := o) hq hb13)) k rfl (by omega) (by decide) (v := (X 18 (12 * q + k))) (mk_lt (by omega)) dX5_hazardsKept_61 ?_
              refine wa_aload F dX5_hazardsKept_62 0 rfl ?_
              refine wa_getN (v := .int (X 10 k)) F LY_X4 (HX _ _ (hm_std (TC := TC) (X := X) (S := S) (o := o) c34 hb9)) 1 (by decide) fn_X5_97 rfl dX5_hazardsKept_64 ?_
              refine wa_iand F dX5_hazardsKept_67 ?_
              refine wa_ior F dX5_hazardsKept_68 ?_
              refine wa_istore_n (lv' := [(3, .int ((orA (X 19 q) (fShC X q) k) ||| ((X 18 (12 * q + k)) &&& (X 10 k)))), (5, .ref (1100 + k)), (4, .int (nI k)), (0, .ref 0), (1, .ref (1200 + q)), (2, .int (sDem X q))]) F dX5_hazardsKept_69 (i := 3) rfl (by decide) rfl ?_
              refine wa_iinc (v := (nI (k + 1))) (j := 2) (lv' := [(4, .int (nI (k + 1))), (3, .int ((orA (X 19 q) (fShC X q) k) ||| ((X 18 (12 * q + k)) &&& (X 10 k)))), (5, .ref (1100 + k)), (0, .ref 0), (1, .ref (1200 + q)), (2, .int (sDem X q))]) F dX5_hazardsKept_70 rfl ((nI_succ k).symm) (by decide) rfl ?_
              refine wa_goto (tgt := 8) F dX5_hazardsKept_73 (by decide) ?_
              have ea2 : ((orA (X 19 q) (fShC X q) k) ||| ((X 18 (12 * q + k)) &&& (X 10 k))) = (orA (X 19 q) (fShC X q) (k + 1)) := by simp [orA, fShC, c34, c51]
              refine wa_lv (lv' := [(4, .int (nI (k + 1))), (3, .int (orA (X 19 q) (fShC X q) (k + 1))), (0, .ref 0), (1, .ref (1200 + q)), (2, .int (sDem X q))]) [0, 1, 3, 4, 5] (by rw [← ea2]; rfl) ?_
              exact ih_k (k + 1) (by omega) (by omega)
          · skip
            refine wa_aald F 4 rfl (HX _ _ (hm_a1 (TC := TC) (X := X) (S := S) (o := o))) k rfl (by omega) (by decide) (rarr_f c34) dX5_hazardsKept_34 ?_
            refine wa_astoreN (lv' := [(5, .null), (4, .int (nI k)), (3, .int (orA (X 19 q) (fShC X q) k)), (0, .ref 0), (1, .ref (1200 + q)), (2, .int (sDem X q))]) F dX5_hazardsKept_35 (by decide) rfl ?_
            refine wa_aloadN F dX5_hazardsKept_37 0 rfl ?_
            refine wa_ifnullN (tgt := 70) F dX5_hazardsKept_39 (by decide) ?_
            refine wa_iinc (v := (nI (k + 1))) (j := 1) (lv' := [(4, .int (nI (k + 1))), (5, .null), (3, .int (orA (X 19 q) (fShC X q) k)), (0, .ref 0), (1, .ref (1200 + q)), (2, .int (sDem X q))]) F dX5_hazardsKept_70 rfl ((nI_succ k).symm) (by decide) rfl ?_
            refine wa_goto (tgt := 8) F dX5_hazardsKept_73 (by decide) ?_
            have ea3 : (orA (X 19 q) (fShC X q) k) = (orA (X 19 q) (fShC X q) (k + 1)) := by simp [orA, fShC, c34]
            refine wa_lv (lv' := [(4, .int (nI (k + 1))), (3, .int (orA (X 19 q) (fShC X q) (k + 1))), (0, .ref 0), (1, .ref (1200 + q)), (2, .int (sDem X q))]) [0, 2, 3, 4, 5] (by rw [← ea3]; rfl) ?_
            exact ih_k (k + 1) (by omega) (by omega)
  exact loop8 (12 + 1) 0 (Nat.zero_le _) (by omega)
set_option maxHeartbeats 2000000 in
set_option maxRecDepth 20000 in
theorem c_X5_wayOf {l : Launch} (hst : l.stackTraces = false) (D : va_G) (TC : Nat → ClassId) (H0 : Heap) (ad : Nat → Nat) (X S : St) (o : Nat → Int64) (q : Nat) (hq : q < cnt X 13) (n : Nat) (hi : INV n X) (h : Hp) (HX : ∀ n e, hall TC X S o n = some e → h n = some e) : CC l D (tysOf TC) H0 yX5_wayOf cX5_wayOf 3 (some .int) 2 0 0 [.ref 0, .ref (1200 + q), .int (sDem X q)] ad h (PR ad (some (.int (sWay X q))) h) (fun _ => False) := by
  refine cc_intro hst (by decide +kernel) (Nat.le_of_ble_eq_true rfl) ?_
  intro p e s m args below meth c F
  rw [show lv_args 0 [.ref 0, .ref (1200 + q), .int (sDem X q)] = [(0, .ref 0), (1, .ref (1200 + q)), (2, .int (sDem X q))] from rfl]
  obtain ⟨hc, hs, hpp, hd0, hmm, h7, h8, hbo, hu0, hvr⟩ := id hi
  obtain ⟨hvh, hday, hclo, h5, h12, h21, hze, h24, hrk, hbz⟩ := hvr
  have hb2 := hc.2; have hb9 := hs.2; have hb13 := hpp.2; have hb25 := hd0.2; have hb28 := hmm.2
  refine wa_iload_n F dX5_wayOf_0 (i := 2) rfl 2 rfl ?_
  refine wa_aload_n F dX5_wayOf_1 (i := 1) rfl 1 rfl ?_
  refine wa_bipush (v := 6) F dX5_wayOf_2 (by decide) ?_
  refine wa_callV F [.int (sDem X q)] (c_X3_hazardsBeforeAbove hst D TC H0 ad X S o q hq hb13 6 h HX) mw_X3_hazardsBeforeAbove ml_X5_301 (HX _ _ (hm_prd (TC := TC) (X := X) (S := S) (o := o) hq hb13)) rfl rfl (Nat.le_of_ble_eq_true rfl) ⟨Nat.le_of_ble_eq_true rfl, Nat.le_of_ble_eq_true rfl⟩ ⟨Nat.le_of_ble_eq_true rfl, Nat.le_of_ble_eq_true rfl⟩ dX5_wayOf_4 PR_ag (fun _ z => z.elim) ?_
  rintro _ _ _ ⟨rfl, rfl, rfl⟩
  refine wa_iand F dX5_wayOf_7 ?_
  refine wa_if_eq (tgt := 13) F dX5_wayOf_8 (by decide) (fun c8 => ?_) (fun c8 => ?_)
  · skip
    refine wa_iload_n F dX5_wayOf_13 (i := 2) rfl 2 rfl ?_
    refine wa_aload_n F dX5_wayOf_14 (i := 1) rfl 1 rfl ?_
    refine wa_iconst (v := 3) F dX5_wayOf_15 (by decide) ?_
    refine wa_callV F [.int (sDem X q)] (c_X3_hazardsBeforeAbove hst D TC H0 ad X S o q hq hb13 3 h HX) mw_X3_hazardsBeforeAbove ml_X5_301 (HX _ _ (hm_prd (TC := TC) (X := X) (S := S) (o := o) hq hb13)) rfl rfl (Nat.le_of_ble_eq_true rfl) ⟨Nat.le_of_ble_eq_true rfl, Nat.le_of_ble_eq_true rfl⟩ ⟨Nat.le_of_ble_eq_true rfl, Nat.le_of_ble_eq_true rfl⟩ dX5_wayOf_16 PR_ag (fun _ z => z.elim) ?_
    rintro _ _ _ ⟨rfl, rfl, rfl⟩
    refine wa_iand F dX5_wayOf_19 ?_
    refine wa_if_eq (tgt := 27) F dX5_wayOf_20 (by decide) (fun c20 => ?_) (fun c20 => ?_)
    · skip
      refine wa_iconst (v := 0) F dX5_wayOf_27 (by decide) ?_
      refine wa_iret F rfl (Nat.le_of_ble_eq_true rfl) (Nat.le_of_ble_eq_true rfl) dX5_wayOf_28 ?_
      exact ⟨congrArg (fun z => some (Value.int z)) (by unfold sWay; rw [if_pos ((way_iff h5 q (by decide)).mp c8), if_pos ((way_iff h5 q (by decide)).mp c20)]), rfl, rfl⟩
    · skip
      refine wa_iconst (v := 1) F dX5_wayOf_23 (by decide) ?_
      refine wa_goto (tgt := 28) F dX5_wayOf_24 (by decide) ?_
      refine wa_iret F rfl (Nat.le_of_ble_eq_true rfl) (Nat.le_of_ble_eq_true rfl) dX5_wayOf_28 ?_
      exact ⟨congrArg (fun z => some (Value.int z)) (by unfold sWay; rw [if_pos ((way_iff h5 q (by decide)).mp c8), if_neg (fun z => c20 ((way_iff h5 q (by decide)).mpr z))]), rfl, rfl⟩
  · skip
    refine wa_iconst (v := 2) F dX5_wayOf_11 (by decide) ?_
    refine wa_iret F rfl (Nat.le_of_ble_eq_true rfl) (Nat.le_of_ble_eq_true rfl) dX5_wayOf_12 ?_
    exact ⟨congrArg (fun z => some (Value.int z)) (by unfold sWay; rw [if_neg (fun z => c8 ((way_iff h5 q (by decide)).mpr z))]), rfl, rfl⟩
set_option maxHeartbeats 2000000 in
set_option maxRecDepth 20000 in
theorem c_X5_holdsCertificate {l : Launch} (hst : l.stackTraces = false) (D : va_G) (TC : Nat → ClassId) (H0 : Heap) (ad : Nat → Nat) (X S : St) (o : Nat → Int64) (q : Nat) (hq : q < cnt X 13) (n : Nat) (hi : INV n X) (h : Hp) (HX : ∀ n e, hall TC X S o n = some e → h n = some e) : CC l D (tysOf TC) H0 yX5_holdsCertificate cX5_holdsCertificate 3 (some .boolean) 3 0 0 [.ref 0, .ref (1200 + q)] ad h (PR ad (some (.int (bI (sHolds X q)))) h) (fun _ => False) := by
  refine cc_intro hst (by decide +kernel) (Nat.le_of_ble_eq_true rfl) ?_
  intro p e s m args below meth c F
  rw [show lv_args 0 [.ref 0, .ref (1200 + q)] = [(0, .ref 0), (1, .ref (1200 + q))] from rfl]
  obtain ⟨hc, hs, hpp, hd0, hmm, h7, h8, hbo, hu0, hvr⟩ := id hi
  obtain ⟨hvh, hday, hclo, h5, h12, h21, hze, h24, hrk, hbz⟩ := hvr
  have hb2 := hc.2; have hb9 := hs.2; have hb13 := hpp.2; have hb25 := hd0.2; have hb28 := hmm.2
  refine wa_aload_n F dX5_holdsCertificate_0 (i := 1) rfl 1 rfl ?_
  by_cases c1 : X 20 q = -1
  · skip
    refine wa_getN (v := .null) F LY_X3 (HX _ _ (hm_prd (TC := TC) (X := X) (S := S) (o := o) hq hb13)) 7 (by decide) fn_X5_169 (congrArg some (cert_n c1)) dX5_holdsCertificate_1 ?_
    refine wa_astore_nN (lv' := [(2, .null), (0, .ref 0), (1, .ref (1200 + q))]) F dX5_holdsCertificate_4 (i := 2) rfl (by decide) rfl ?_
    refine wa_aload_nN F dX5_holdsCertificate_5 (i := 2) rfl 0 rfl ?_
    refine wa_ifnullN (tgt := 47) F dX5_holdsCertificate_6 (by decide) ?_
    refine wa_iconst (v := 0) F dX5_holdsCertificate_47 (by decide) ?_
    refine wa_iret F rfl (Nat.le_of_ble_eq_true rfl) (Nat.le_of_ble_eq_true rfl) dX5_holdsCertificate_48 ?_
    exact ⟨congrArg (fun z => some (Value.int z)) (by simp [sHolds, bI, c1]), rfl, rfl⟩
  · skip
    have hc1 : (X 20 q).toNatClampNeg < cnt X 25 := ((hbo q hq).resolve_left c1).2
    refine wa_getN (v := .ref (1300 + ((X 20 q).toNatClampNeg))) F LY_X3 (HX _ _ (hm_prd (TC := TC) (X := X) (S := S) (o := o) hq hb13)) 7 (by decide) fn_X5_169 (congrArg some (cert_r c1)) dX5_holdsCertificate_1 ?_
    refine wa_astore_n (lv' := [(2, .ref (1300 + ((X 20 q).toNatClampNeg))), (0, .ref 0), (1, .ref (1200 + q))]) F dX5_holdsCertificate_4 (i := 2) rfl (by decide) rfl ?_
    refine wa_aload_n F dX5_holdsCertificate_5 (i := 2) rfl 0 rfl ?_
    refine wa_ifnull F dX5_holdsCertificate_6 ?_
    refine wa_aload_n F dX5_holdsCertificate_9 (i := 0) rfl 1 rfl ?_
    refine wa_getf (v := .int (X 1 0)) F LY_X5 (HX _ _ (hm_c (TC := TC) (X := X) (S := S) (o := o))) 10 (by decide) fl_X5_91 rfl dX5_holdsCertificate_10 ?_
    refine wa_aload_n F dX5_holdsCertificate_13 (i := 1) rfl 2 rfl ?_
    refine wa_getN (v := .int (X 21 q)) F LY_X3 (HX _ _ (hm_prd (TC := TC) (X := X) (S := S) (o := o) hq hb13)) 8 (by decide) fn_X5_173 rfl dX5_holdsCertificate_14 ?_
    refine wa_icmp_gt (tgt := 47) F dX5_holdsCertificate_17 (by decide) (fun c17 => ?_) (fun c17 => ?_)
    · skip
      replace c17 := lt_nle c17
      refine wa_iconst (v := 0) F dX5_holdsCertificate_47 (by decide) ?_
      refine wa_iret F rfl (Nat.le_of_ble_eq_true rfl) (Nat.le_of_ble_eq_true rfl) dX5_holdsCertificate_48 ?_
      exact ⟨congrArg (fun z => some (Value.int z)) (by simp [sHolds, bI, c1, c17]), rfl, rfl⟩
    · skip
      replace c17 := nlt_le c17
      refine wa_aload_n F dX5_holdsCertificate_20 (i := 2) rfl 0 rfl ?_
      refine wa_aload_n F dX5_holdsCertificate_21 (i := 0) rfl 1 rfl ?_
      refine wa_aload_n F dX5_holdsCertificate_22 (i := 1) rfl 2 rfl ?_
      refine wa_callV F [.ref (1300 + ((X 20 q).toNatClampNeg))] (c_X5_actsApplyingTo hst D TC H0 ad X S o q hq _ hi h HX) mw_X5_actsApplyingTo ml_X5_245 (HX _ _ (hm_c (TC := TC) (X := X) (S := S) (o := o))) rfl rfl (Nat.le_of_ble_eq_true rfl) ⟨Nat.le_of_ble_eq_true rfl, Nat.le_of_ble_eq_true rfl⟩ ⟨Nat.le_of_ble_eq_true rfl, Nat.le_of_ble_eq_true rfl⟩ dX5_holdsCertificate_23 PR_ag (fun _ z => z.elim) ?_
      rintro _ _ _ ⟨rfl, rfl, rfl⟩
      refine wa_callV F [] (c_X2_hasInScope hst D TC H0 ad X S o ((X 20 q).toNatClampNeg) hc1 hb25 (sAppl X q) h HX) mw_X2_hasInScope ml_X5_287 (HX _ _ (hm_bod (TC := TC) (X := X) (S := S) (o := o) hc1 hb25)) rfl rfl (Nat.le_of_ble_eq_true rfl) ⟨Nat.le_of_ble_eq_true rfl, Nat.le_of_ble_eq_true rfl⟩ ⟨Nat.le_of_ble_eq_true rfl, Nat.le_of_ble_eq_true rfl⟩ dX5_holdsCertificate_26 PR_ag (fun _ z => z.elim) ?_
      rintro _ _ _ ⟨rfl, rfl, rfl⟩
      refine wa_if_eq (tgt := 47) F dX5_holdsCertificate_29 (by decide) (fun c29 => ?_) (fun c29 => ?_)
      · skip
        replace c29 : (sScope X ((X 20 q).toNatClampNeg) q) = false := bI_f c29
        refine wa_iconst (v := 0) F dX5_holdsCertificate_47 (by decide) ?_
        refine wa_iret F rfl (Nat.le_of_ble_eq_true rfl) (Nat.le_of_ble_eq_true rfl) dX5_holdsCertificate_48 ?_
        exact ⟨congrArg (fun z => some (Value.int z)) (by simp [sHolds, bI, c1, c17, c29]), rfl, rfl⟩
      · skip
        replace c29 : (sScope X ((X 20 q).toNatClampNeg) q) = true := bI_t c29
        refine wa_aload_n F dX5_holdsCertificate_32 (i := 2) rfl 0 rfl ?_
        refine wa_aload_n F dX5_holdsCertificate_33 (i := 0) rfl 1 rfl ?_
        refine wa_getf (v := .int (X 1 0)) F LY_X5 (HX _ _ (hm_c (TC := TC) (X := X) (S := S) (o := o))) 10 (by decide) fl_X5_91 rfl dX5_holdsCertificate_34 ?_
        refine wa_callV F [] (c_X2_isCertificateUpheld hst D TC H0 ad X S o ((X 20 q).toNatClampNeg) hc1 hb25 (X 1 0) h HX) mw_X2_isCertificateUpheld ml_X5_317 (HX _ _ (hm_bod (TC := TC) (X := X) (S := S) (o := o) hc1 hb25)) rfl rfl (Nat.le_of_ble_eq_true rfl) ⟨Nat.le_of_ble_eq_true rfl, Nat.le_of_ble_eq_true rfl⟩ ⟨Nat.le_of_ble_eq_true rfl, Nat.le_of_ble_eq_true rfl⟩ dX5_holdsCertificate_37 PR_ag (fun _ z => z.elim) ?_
        rintro _ _ _ ⟨rfl, rfl, rfl⟩
        refine wa_if_eq (tgt := 47) F dX5_holdsCertificate_40 (by decide) (fun c40 => ?_) (fun c40 => ?_)
        · skip
          replace c40 : (decide (X 27 ((X 20 q).toNatClampNeg) = -1) || decide ((X 1 0) ≤ X 27 ((X 20 q).toNatClampNeg) + 100)) = false := bI_f c40
          simp at c40
          refine wa_iconst (v := 0) F dX5_holdsCertificate_47 (by decide) ?_
          refine wa_iret F rfl (Nat.le_of_ble_eq_true rfl) (Nat.le_of_ble_eq_true rfl) dX5_holdsCertificate_48 ?_
          exact ⟨congrArg (fun z => some (Value.int z)) (by simp [sHolds, bI, c1, c17, c29, c40]), rfl, rfl⟩
        · skip
          replace c40 : (decide (X 27 ((X 20 q).toNatClampNeg) = -1) || decide ((X 1 0) ≤ X 27 ((X 20 q).toNatClampNeg) + 100)) = true := bI_t c40
          simp at c40
          refine wa_iconst (v := 1) F dX5_holdsCertificate_43 (by decide) ?_
          refine wa_goto (tgt := 48) F dX5_holdsCertificate_44 (by decide) ?_
          refine wa_iret F rfl (Nat.le_of_ble_eq_true rfl) (Nat.le_of_ble_eq_true rfl) dX5_holdsCertificate_48 ?_
          exact ⟨congrArg (fun z => some (Value.int z)) (by simp [sHolds, bI, c1, c17, c29, c40]), rfl, rfl⟩
set_option maxHeartbeats 2000000 in
set_option maxRecDepth 20000 in
theorem c_X5_unitsOnMarket {l : Launch} (hst : l.stackTraces = false) (D : va_G) (TC : Nat → ClassId) (H0 : Heap) (ad : Nat → Nat) (X S : St) (o : Nat → Int64) (w : Nat) (n : Nat) (hi : INV n X) (h : Hp) (HX : ∀ n e, hall TC X S o n = some e → h n = some e) : CC l D (tysOf TC) H0 yX5_unitsOnMarket cX5_unitsOnMarket 7 (some .int) 1 0 0 [.ref 0, .int (nI w)] ad h (PR ad (some (.int (sMk X w))) h) (fun _ => False) := by
  refine cc_intro hst (by decide +kernel) (Nat.le_of_ble_eq_true rfl) ?_
  intro p e s m args below meth c F
  rw [show lv_args 0 [.ref 0, .int (nI w)] = [(0, .ref 0), (1, .int (nI w))] from rfl]
  obtain ⟨hc, hs, hpp, hd0, hmm, h7, h8, hbo, hu0, hvr⟩ := id hi
  obtain ⟨hvh, hday, hclo, h5, h12, h21, hze, h24, hrk, hbz⟩ := hvr
  have hb2 := hc.2; have hb9 := hs.2; have hb13 := hpp.2; have hb25 := hd0.2; have hb28 := hmm.2
  refine wa_iconst (v := 0) F dX5_unitsOnMarket_0 (by decide) ?_
  refine wa_istore_n (lv' := [(2, .int 0), (0, .ref 0), (1, .int (nI w))]) F dX5_unitsOnMarket_1 (i := 2) rfl (by decide) rfl ?_
  refine wa_aload_n F dX5_unitsOnMarket_2 (i := 0) rfl 1 rfl ?_
  refine wa_getf (v := .ref 14) F LY_X5 (HX _ _ (hm_c (TC := TC) (X := X) (S := S) (o := o))) 4 (by decide) fl_X5_35 rfl dX5_unitsOnMarket_3 ?_
  refine wa_astore_n (lv' := [(3, .ref 14), (2, .int 0), (0, .ref 0), (1, .int (nI w))]) F dX5_unitsOnMarket_6 (i := 3) rfl (by decide) rfl ?_
  refine wa_aload_n F dX5_unitsOnMarket_7 (i := 3) rfl 0 rfl ?_
  refine wa_alen F 7 rfl (HX _ _ (hm_a4 (TC := TC) (X := X) (S := S) (o := o))) dX5_unitsOnMarket_8 ?_
  refine wa_istore (lv' := [(4, .int (nI 40)), (3, .ref 14), (2, .int 0), (0, .ref 0), (1, .int (nI w))]) F dX5_unitsOnMarket_9 (by decide) rfl ?_
  refine wa_iconst (v := 0) F dX5_unitsOnMarket_11 (by decide) ?_
  refine wa_istore (lv' := [(5, .int 0), (4, .int (nI 40)), (3, .ref 14), (2, .int 0), (0, .ref 0), (1, .int (nI w))]) F dX5_unitsOnMarket_12 (by decide) rfl ?_
  have loop14 : ∀ (n k : Nat), k ≤ 40 → 40 - k < n → WA D H0 p l e (RM 1 0 0) s m args below meth c 7 (vx_MQ below (QC0 D H0 (PR ad (some (.int (sMk X w))) h)) (XC0 D H0 (fun _ => False) ad h) args s 0 0 (hA0 H0)) ad h 0 0 14 [(5, .int (nI k)), (4, .int (nI 40)), (3, .ref 14), (2, .int (adA 0 (fMkC X (nI w)) k)), (0, .ref 0), (1, .int (nI w))] [] := by
    intro n
    induction n with
    | zero => intro k h1 h2; omega
    | succ n ih_k =>
      intro k hk_k hn_k
      refine wa_iload F dX5_unitsOnMarket_14 0 rfl ?_
      refine wa_iload F dX5_unitsOnMarket_16 1 rfl ?_
      refine wa_icmp_ge (tgt := 55) F dX5_unitsOnMarket_18 (by decide) (fun c18 => ?_) (fun c18 => ?_)
      · skip
        have he_k : k = 40 := Nat.le_antisymm hk_k (nle_k rfl (by omega) (by omega) c18)
        subst he_k
        refine wa_iload_n F dX5_unitsOnMarket_55 (i := 2) rfl 3 rfl ?_
        refine wa_iret F rfl (Nat.le_of_ble_eq_true rfl) (Nat.le_of_ble_eq_true rfl) dX5_unitsOnMarket_56 ?_
        exact ⟨congrArg (fun z => some (Value.int z)) (mk_eq hb28 w).symm, rfl, rfl⟩
      · skip
        have hl_k : k < 40 := knle rfl (by omega) (by omega) c18
        refine wa_aload_n F dX5_unitsOnMarket_21 (i := 3) rfl 2 rfl ?_
        refine wa_iload F dX5_unitsOnMarket_22 0 rfl ?_
        by_cases c24 : k < cnt X 28
        · skip
          refine wa_aald F 7 rfl (HX _ _ (hm_a4 (TC := TC) (X := X) (S := S) (o := o))) k rfl (by omega) (by decide) (rarr_t c24) dX5_unitsOnMarket_24 ?_
          refine wa_astore (lv' := [(6, .ref (1400 + k)), (5, .int (nI k)), (4, .int (nI 40)), (3, .ref 14), (2, .int (adA 0 (fMkC X (nI w)) k)), (0, .ref 0), (1, .int (nI w))]) F dX5_unitsOnMarket_25 (by decide) rfl ?_
          refine wa_aload F dX5_unitsOnMarket_27 0 rfl ?_
          refine wa_ifnull F dX5_unitsOnMarket_29 ?_
          refine wa_aload F dX5_unitsOnMarket_32 0 rfl ?_
          refine wa_iload_n F dX5_unitsOnMarket_34 (i := 1) rfl 6 rfl ?_
          refine wa_callV F [] (c_X1_isOnMarketOf hst D TC H0 ad X S o k c24 hb28 (nI w) h HX) mw_X1_isOnMarketOf ml_X5_219 (HX _ _ (hm_bat (TC := TC) (X := X) (S := S) (o := o) c24 hb28)) rfl rfl (Nat.le_of_ble_eq_true rfl) ⟨Nat.le_of_ble_eq_true rfl, Nat.le_of_ble_eq_true rfl⟩ ⟨Nat.le_of_ble_eq_true rfl, Nat.le_of_ble_eq_true rfl⟩ dX5_unitsOnMarket_35 PR_ag (fun _ z => z.elim) ?_
          rintro _ _ _ ⟨rfl, rfl, rfl⟩
          refine wa_if_eq (tgt := 49) F dX5_unitsOnMarket_38 (by decide) (fun c38 => ?_) (fun c38 => ?_)
          · skip
            replace c38 : (decide (X 29 k = (nI w)) && decide (X 34 k = 0)) = false := bI_f c38
            refine wa_iinc (v := (nI (k + 1))) (j := 1) (lv' := [(5, .int (nI (k + 1))), (6, .ref (1400 + k)), (4, .int (nI 40)), (3, .ref 14), (2, .int (adA 0 (fMkC X (nI w)) k)), (0, .ref 0), (1, .int (nI w))]) F dX5_unitsOnMarket_49 rfl ((nI_succ k).symm) (by decide) rfl ?_
            refine wa_goto (tgt := 14) F dX5_unitsOnMarket_52 (by decide) ?_
            have ea1 : (adA 0 (fMkC X (nI w)) k) = (adA 0 (fMkC X (nI w)) (k + 1)) := by rw [show adA 0 (fMkC X (nI w)) (k + 1) = adA 0 (fMkC X (nI w)) k + fMkC X (nI w) k from rfl, fMkC, c38]; simp [c24]
            refine wa_lv (lv' := [(5, .int (nI (k + 1))), (4, .int (nI 40)), (3, .ref 14), (2, .int (adA 0 (fMkC X (nI w)) (k + 1))), (0, .ref 0), (1, .int (nI w))]) [0, 2, 3, 4, 5, 6] (by rw [← ea1]; rfl) ?_
            exact ih_k (k + 1) (by omega) (by omega)
          · skip
            replace c38 : (decide (X 29 k = (nI w)) && decide (X 34 k = 0)) = true := bI_t c38
            refine wa_iload_n F dX5_unitsOnMarket_41 (i := 2) rfl 4 rfl ?_
            refine wa_aload F dX5_unitsOnMarket_42 0 rfl ?_
            refine wa_getN (v := .int (X 30 k)) F LY_X1 (HX _ _ (hm_bat (TC := TC) (X := X) (S := S) (o := o) c24 hb28)) 1 (by decide) fn_X5_226 rfl dX5_unitsOnMarket_44 ?_
            refine wa_iadd F dX5_unitsOnMarket_47 ?_
            refine wa_istore_n (lv' := [(2, .int ((adA 0 (fMkC X (nI w)) k) + (X 30 k))), (6, .ref (1400 + k)), (5, .int (nI k)), (4, .int (nI 40)), (3, .ref 14), (0, .ref 0), (1, .int (nI w))]) F dX5_unitsOnMarket_48 (i := 2) rfl (by decide) rfl ?_
            refine wa_iinc (v := (nI (k + 1))) (j := 2) (lv' := [(5, .int (nI (k + 1))), (2, .int ((adA 0 (fMkC X (nI w)) k) + (X 30 k))), (6, .ref (1400 + k)), (4, .int (nI 40)), (3, .ref 14), (0, .ref 0), (1, .int (nI w))]) F dX5_unitsOnMarket_49 rfl ((nI_succ k).symm) (by decide) rfl ?_
            refine wa_goto (tgt := 14) F dX5_unitsOnMarket_52 (by decide) ?_
            have ea2 : ((adA 0 (fMkC X (nI w)) k) + (X 30 k)) = (adA 0 (fMkC X (nI w)) (k + 1)) := by rw [show adA 0 (fMkC X (nI w)) (k + 1) = adA 0 (fMkC X (nI w)) k + fMkC X (nI w) k from rfl, fMkC, c38]; simp [c24]
            refine wa_lv (lv' := [(5, .int (nI (k + 1))), (4, .int (nI 40)), (3, .ref 14), (2, .int (adA 0 (fMkC X (nI w)) (k + 1))), (0, .ref 0), (1, .int (nI w))]) [0, 3, 4, 1, 5, 6] (by rw [← ea2]; rfl) ?_
            exact ih_k (k + 1) (by omega) (by omega)
        · skip
          refine wa_aald F 7 rfl (HX _ _ (hm_a4 (TC := TC) (X := X) (S := S) (o := o))) k rfl (by omega) (by decide) (rarr_f c24) dX5_unitsOnMarket_24 ?_
          refine wa_astoreN (lv' := [(6, .null), (5, .int (nI k)), (4, .int (nI 40)), (3, .ref 14), (2, .int (adA 0 (fMkC X (nI w)) k)), (0, .ref 0), (1, .int (nI w))]) F dX5_unitsOnMarket_25 (by decide) rfl ?_
          refine wa_aloadN F dX5_unitsOnMarket_27 0 rfl ?_
          refine wa_ifnullN (tgt := 49) F dX5_unitsOnMarket_29 (by decide) ?_
          refine wa_iinc (v := (nI (k + 1))) (j := 1) (lv' := [(5, .int (nI (k + 1))), (6, .null), (4, .int (nI 40)), (3, .ref 14), (2, .int (adA 0 (fMkC X (nI w)) k)), (0, .ref 0), (1, .int (nI w))]) F dX5_unitsOnMarket_49 rfl ((nI_succ k).symm) (by decide) rfl ?_
          refine wa_goto (tgt := 14) F dX5_unitsOnMarket_52 (by decide) ?_
          have ea3 : (adA 0 (fMkC X (nI w)) k) = (adA 0 (fMkC X (nI w)) (k + 1)) := by simp [adA, fMkC, c24]
          refine wa_lv (lv' := [(5, .int (nI (k + 1))), (4, .int (nI 40)), (3, .ref 14), (2, .int (adA 0 (fMkC X (nI w)) (k + 1))), (0, .ref 0), (1, .int (nI w))]) [0, 2, 3, 4, 5, 6] (by rw [← ea3]; rfl) ?_
          exact ih_k (k + 1) (by omega) (by omega)
  exact loop14 (40 + 1) 0 (Nat.zero_le _) (by omega)
