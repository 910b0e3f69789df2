set_option maxHeartbeats 2000000 in
set_option maxRecDepth 20000 in
theorem c_X5_addBatch_ok {l : Launch} (hst : l.stackTraces = false) (D : va_G) (TC : Nat → ClassId) (H0 : Heap) (ad : Nat → Nat) (X S : St) (o : Nat → Int64) (q : Nat) (hq : q < cnt X 13) (n : Nat) (hi : INV n X) (b : Int32) (h40 : ¬ X 28 0 = 40) : CC l D (tysOf TC) H0 yX5_addBatch cX5_addBatch 4 (some .int) 5 1 9 [.ref 0, .int (nI q), .ref (1200 + q), .int b] ad (hall TC X S o) (PN ad (hall TC X S o) (some (.int (X 28 0))) (hall TC (uArr q b (sWant X q) X) S o)) (fun _ => False) := by
  refine cc_intro hst (by decide +kernel) (Nat.le_of_ble_eq_true rfl) ?_
  intro p e s m args below meth c F
  rw [show lv_args 0 [.ref 0, .int (nI q), .ref (1200 + q), .int b] = [(0, .ref 0), (1, .int (nI q)), (2, .ref (1200 + q)), (3, .int b)] from rfl]
  obtain ⟨hc, hs, hpp, hd0, hmm, h7, h8, hbo, hu0, hvr⟩ := id hi
  obtain ⟨hvh, hday, hclo, h5, h12, h21, hze, h24, hrk, hbz⟩ := hvr
  have hb2 := hc.2; have hb9 := hs.2; have hb13 := hpp.2; have hb25 := hd0.2; have hb28 := hmm.2
  refine wa_aload_n F dX5_addBatch_0 (i := 0) rfl 0 rfl ?_
  refine wa_getf (v := .int (X 28 0)) F LY_X5 (hm_c (TC := TC) (X := X) (S := S) (o := o)) 9 (by decide) fl_X5_320 rfl dX5_addBatch_1 ?_
  refine wa_if_lt (tgt := 19) F dX5_addBatch_4 (by decide) (fun c4 => ?_) (fun c4 => ?_)
  · skip
    replace c4 := lt_nle c4
    exact absurd c4 (by rw [hmm.1]; exact nI_nneg (by omega))
  · skip
    replace c4 := nlt_le c4
    refine wa_aload_n F dX5_addBatch_7 (i := 0) rfl 0 rfl ?_
    refine wa_getf (v := .int (X 28 0)) F LY_X5 (hm_c (TC := TC) (X := X) (S := S) (o := o)) 9 (by decide) fl_X5_320 rfl dX5_addBatch_8 ?_
    refine wa_aload_n F dX5_addBatch_11 (i := 0) rfl 0 rfl ?_
    refine wa_getf (v := .ref 14) F LY_X5 (hm_c (TC := TC) (X := X) (S := S) (o := o)) 4 (by decide) fl_X5_35 rfl dX5_addBatch_12 ?_
    refine wa_alen F 7 rfl (hm_a4 (TC := TC) (X := X) (S := S) (o := o)) dX5_addBatch_15 ?_
    refine wa_icmp_lt (tgt := 30) F dX5_addBatch_16 (by decide) (fun c16 => ?_) (fun c16 => ?_)
    · skip
      replace c16 := lt_nle c16
      have hlt : cnt X 28 < 40 := Nat.lt_of_not_le fun z => c16 (by rw [hmm.1]; exact (nI_leI (by omega) (by omega)).mpr z)
      have hne : ¬ X 28 0 = 40 := fun z => c16 (by rw [z]; show (nI 40 : Int32) ≤ 40; decide)
      refine wa_aload_n F dX5_addBatch_30 (i := 0) rfl 0 rfl ?_
      refine wa_getf (v := .ref 14) F LY_X5 (hm_c (TC := TC) (X := X) (S := S) (o := o)) 4 (by decide) fl_X5_35 rfl dX5_addBatch_31 ?_
      refine wa_aload_n F dX5_addBatch_34 (i := 0) rfl 0 rfl ?_
      refine wa_getf (v := .int (X 28 0)) F LY_X5 (hm_c (TC := TC) (X := X) (S := S) (o := o)) 9 (by decide) fl_X5_320 rfl dX5_addBatch_35 ?_
      have hnb : hall TC X S o (1400 + cnt X 28) = none := hm_batN (Nat.lt_irrefl _) (by omega)
      have hnr : noRef (hall TC X S o) (1400 + cnt X 28) := hall_nr (by omega) hnb hb2 hb9 hb13 hb25 hb28 hbo
      refine wa_new F LY_X1 (1400 + cnt X 28) cl_X5_33 nw_X1 in_X1 hnb hnr (fs := [.int 0, .int 0, .int 0, .int 0, .int 0, .int 0, .int 0, .int 0, .int 0]) (by intro j hj; rcases j with _ | _ | _ | _ | _ | _ | _ | _ | _ | j <;> first | rfl | (exfalso; omega)) (fun _ => rfl) (Nat.le_of_ble_eq_true rfl) (Nat.le_of_ble_eq_true rfl) (all_nl (by simp [nref]; try ((repeat' apply And.intro) <;> exact ne_nat (by omega)))) (all_ns (by simp [nref]; try ((repeat' apply And.intro) <;> exact ne_nat (by omega)))) dX5_addBatch_38 rfl (fun q0 => ?_)
      have HX : ∀ n e, hall TC X S o n = some e → (va_up (hall TC X S o) (1400 + cnt X 28) (some (.inr (1, [.int 0, .int 0, .int 0, .int 0, .int 0, .int 0, .int 0, .int 0, .int 0])))) n = some e := ext_up hnb (fun _ _ z => z)
      refine wa_dup F dX5_addBatch_41 rfl ?_
      refine wa_iload_n F dX5_addBatch_42 (i := 1) rfl 1 rfl ?_
      refine wa_iload_n F dX5_addBatch_43 (i := 3) rfl 3 rfl ?_
      refine wa_aload_n F dX5_addBatch_44 (i := 0) rfl 0 rfl ?_
      refine wa_getf (v := .int (X 1 0)) F LY_X5 (HX _ _ (hm_c (TC := TC) (X := X) (S := S) (o := o))) 10 (by decide) fl_X5_91 rfl dX5_addBatch_45 ?_
      refine wa_aload_n F dX5_addBatch_48 (i := 2) rfl 2 rfl ?_
      refine wa_getN (v := .int (X 15 q)) F LY_X3 (HX _ _ (hm_prd (TC := TC) (X := X) (S := S) (o := o) hq hb13)) 4 (by decide) fn_X5_118 rfl dX5_addBatch_49 ?_
      refine wa_aload_n F dX5_addBatch_52 (i := 0) rfl 0 rfl ?_
      refine wa_aload_n F dX5_addBatch_53 (i := 2) rfl 2 rfl ?_
      refine wa_callV F [.int (X 15 q), .int (X 1 0), .int b, .int (nI q), .ref (1400 + cnt X 28), .ref (1400 + cnt X 28), .int (X 28 0), .ref 14] (c_X5_firstLack hst D TC H0 (va_up ad (1400 + cnt X 28) q0) X S o q hq _ hi (va_up (hall TC X S o) (1400 + cnt X 28) (some (.inr (1, [.int 0, .int 0, .int 0, .int 0, .int 0, .int 0, .int 0, .int 0, .int 0])))) HX) mw_X5_firstLack ml_X5_137 (HX _ _ (hm_c (TC := TC) (X := X) (S := S) (o := o))) rfl rfl (Nat.le_of_ble_eq_true rfl) ⟨Nat.le_of_ble_eq_true rfl, Nat.le_of_ble_eq_true rfl⟩ ⟨Nat.le_of_ble_eq_true rfl, Nat.le_of_ble_eq_true rfl⟩ dX5_addBatch_54 PR_ag (fun _ z => z.elim) ?_
      rintro _ _ _ ⟨rfl, rfl, rfl⟩
      refine wa_callI F [.ref (1400 + cnt X 28), .int (X 28 0), .ref 14] (c_X1_init hst D TC H0 (va_up ad (1400 + cnt X 28) q0) X S o (hall TC X S o) (1400 + cnt X 28) (nI q) b (X 1 0) (X 15 q) (sWant X q)) mw_X1_init ml_X5_325 rfl (Nat.le_of_ble_eq_true rfl) ⟨Nat.le_of_ble_eq_true rfl, Nat.le_of_ble_eq_true rfl⟩ ⟨Nat.le_of_ble_eq_true rfl, Nat.le_of_ble_eq_true rfl⟩ dX5_addBatch_57 PR_ag (fun _ z => z.elim) ?_
      rintro _ _ _ ⟨rfl, rfl, rfl⟩
      refine wa_aast F 7 rfl LY_X1 ((vup_ne _ _ (by omega)).trans (hm_a4 (TC := TC) (X := X) (S := S) (o := o))) (va_up_at _ _ _) (cnt X 28) hmm.1 hlt (by decide) dX5_addBatch_60 rfl ?_
      refine wa_aload_n F dX5_addBatch_61 (i := 0) rfl 0 rfl ?_
      refine wa_dup F dX5_addBatch_62 rfl ?_
      refine wa_getf (v := .int (X 28 0)) F LY_X5 ((vup_ne _ _ (by omega)).trans ((vup_ne _ _ (by omega)).trans (hm_c (TC := TC) (X := X) (S := S) (o := o)))) 9 (by decide) fl_X5_320 rfl dX5_addBatch_63 ?_
      refine wa_dup_x1 F dX5_addBatch_66 rfl rfl ?_
      refine wa_iconst (v := 1) F dX5_addBatch_67 (by decide) ?_
      refine wa_iadd F dX5_addBatch_68 ?_
      refine wa_putf F LY_X5 ((vup_ne _ _ (by omega)).trans ((vup_ne _ _ (by omega)).trans (hm_c (TC := TC) (X := X) (S := S) (o := o)))) 9 (by decide) fl_X5_320 rfl rfl rfl (Nat.le_of_ble_eq_true rfl) dX5_addBatch_69 (add_bat hmm.1 hlt (hbz (cnt X 28) (Nat.le_refl _) hlt) q b (sWant X q)) ?_
      refine wa_iret F rfl (Nat.le_of_ble_eq_true rfl) (Nat.le_of_ble_eq_true rfl) dX5_addBatch_72 ?_
      exact ⟨rfl, fun n hn => if_neg fun z => hn (by rw [z]; exact hnb), rfl⟩
    · skip
      replace c16 := nlt_le c16
      have he6 : X 28 0 = 40 := by have : 40 ≤ cnt X 28 := (nI_leI (by omega) (by omega)).mp (by rw [← hmm.1]; exact c16); rw [hmm.1, show cnt X 28 = 40 by omega]; rfl
      exact absurd he6 h40
set_option maxHeartbeats 2000000 in
set_option maxRecDepth 20000 in
theorem c_X5_addBatch_no {l : Launch} (hst : l.stackTraces = false) (D : va_G) (TC : Nat → ClassId) (H0 : Heap) (ad : Nat → Nat) (X S : St) (o : Nat → Int64) (q : Nat) (hq : q < cnt X 13) (n : Nat) (hi : INV n X) (b : Int32) (h40 : X 28 0 = 40) : CC l D (tysOf TC) H0 yX5_addBatch cX5_addBatch 4 (some .int) 6 1 6 [.ref 0, .int (nI q), .ref (1200 + q), .int b] ad (hall TC X S o) (fun _ _ _ => False) (fun E => E = "java/lang/IllegalStateException") := by
  refine cc_intro hst (by decide +kernel) (Nat.le_of_ble_eq_true rfl) ?_
  intro p e s m args below meth c F
  rw [show lv_args 0 [.ref 0, .int (nI q), .ref (1200 + q), .int b] = [(0, .ref 0), (1, .int (nI q)), (2, .ref (1200 + q)), (3, .int b)] from rfl]
  obtain ⟨hc, hs, hpp, hd0, hmm, h7, h8, hbo, hu0, hvr⟩ := id hi
  obtain ⟨hvh, hday, hclo, h5, h12, h21, hze, h24, hrk, hbz⟩ := hvr
  have hb2 := hc.2; have hb9 := hs.2; have hb13 := hpp.2; have hb25 := hd0.2; have hb28 := hmm.2
  refine wa_aload_n F dX5_addBatch_0 (i := 0) rfl 0 rfl ?_
  refine wa_getf (v := .int (X 28 0)) F LY_X5 (hm_c (TC := TC) (X := X) (S := S) (o := o)) 9 (by decide) fl_X5_320 rfl dX5_addBatch_1 ?_
  refine wa_if_lt (tgt := 19) F dX5_addBatch_4 (by decide) (fun c4 => ?_) (fun c4 => ?_)
  · skip
    replace c4 := lt_nle c4
    exact absurd c4 (by rw [hmm.1]; exact nI_nneg (by omega))
  · skip
    replace c4 := nlt_le c4
    refine wa_aload_n F dX5_addBatch_7 (i := 0) rfl 0 rfl ?_
    refine wa_getf (v := .int (X 28 0)) F LY_X5 (hm_c (TC := TC) (X := X) (S := S) (o := o)) 9 (by decide) fl_X5_320 rfl dX5_addBatch_8 ?_
    refine wa_aload_n F dX5_addBatch_11 (i := 0) rfl 0 rfl ?_
    refine wa_getf (v := .ref 14) F LY_X5 (hm_c (TC := TC) (X := X) (S := S) (o := o)) 4 (by decide) fl_X5_35 rfl dX5_addBatch_12 ?_
    refine wa_alen F 7 rfl (hm_a4 (TC := TC) (X := X) (S := S) (o := o)) dX5_addBatch_15 ?_
    refine wa_icmp_lt (tgt := 30) F dX5_addBatch_16 (by decide) (fun c16 => ?_) (fun c16 => ?_)
    · skip
      replace c16 := lt_nle c16
      have hlt : cnt X 28 < 40 := Nat.lt_of_not_le fun z => c16 (by rw [hmm.1]; exact (nI_leI (by omega) (by omega)).mpr z)
      have hne : ¬ X 28 0 = 40 := fun z => c16 (by rw [z]; show (nI 40 : Int32) ≤ 40; decide)
      exact absurd h40 hne
    · skip
      replace c16 := nlt_le c16
      have he6 : X 28 0 = 40 := by have : 40 ≤ cnt X 28 := (nI_leI (by omega) (by omega)).mp (by rw [← hmm.1]; exact c16); rw [hmm.1, show cnt X 28 = 40 by omega]; rfl
      exact wa_throwSW F ft_IS cl_X5_47 in_IS sr_X5_323 at_IS gd_IS dX5_addBatch_19 dX5_addBatch_22 dX5_addBatch_23 dX5_addBatch_26 dX5_addBatch_29 (Nat.le_of_ble_eq_true rfl) (Nat.le_of_ble_eq_true rfl) (Nat.le_of_ble_eq_true rfl) (Nat.le_of_ble_eq_true rfl) (Nat.le_of_ble_eq_true rfl) (Nat.le_of_ble_eq_true rfl) (Nat.le_of_ble_eq_true rfl) rfl rfl rfl
set_option maxHeartbeats 2000000 in
set_option maxRecDepth 20000 in
theorem c_X5_place {l : Launch} (hst : l.stackTraces = false) (D : va_G) (TC : Nat → ClassId) (H0 : Heap) (ad : Nat → Nat) (X S : St) (o : Nat → Int64) (v : Int32) (b : Int32) (n : Nat) (hi : INV n X) : CC l D (tysOf TC) H0 yX5_place cX5_place 4 (some .int) 7 1 9 [.ref 0, .int v, .int b] ad (hall TC X S o) (PKN (kPl X v b) ad (hall TC X S o) (some (.int (rPl X))) (hall TC (uPl v b X) S o)) (fun E => (E = "java/lang/IndexOutOfBoundsException" ∧ kPl X v b = 1) ∨ (E = "java/lang/IllegalArgumentException" ∧ kPl X v b = 2) ∨ (E = "java/lang/IllegalStateException" ∧ kPl X v b = 3)) := by
  refine cc_intro hst (by decide +kernel) (Nat.le_of_ble_eq_true rfl) ?_
  intro p e s m args below meth c F
  rw [show lv_args 0 [.ref 0, .int v, .int b] = [(0, .ref 0), (1, .int v), (2, .int b)] from rfl]
  obtain ⟨hc, hs, hpp, hd0, hmm, h7, h8, hbo, hu0, hvr⟩ := id hi
  obtain ⟨hvh, hday, hclo, h5, h12, h21, hze, h24, hrk, hbz⟩ := hvr
  have hb2 := hc.2; have hb9 := hs.2; have hb13 := hpp.2; have hb25 := hd0.2; have hb28 := hmm.2
  refine wa_aload_n F dX5_place_0 (i := 0) rfl 0 rfl ?_
  refine wa_iload_n F dX5_place_1 (i := 1) rfl 1 rfl ?_
  by_cases c2 : sIn v 0 (X 13 0 - 1) = true
  · skip
    obtain ⟨jv, lv, rfl⟩ := sIn_nat hpp.1 (by omega) c2
    have ev : tn (nI jv) = jv := tn_nI (by omega)
    refine wa_callV F [] (c_X5_productAt_ok hst D TC H0 ad X S o jv lv hb13 (hall TC X S o) (fun _ _ z => z)) mw_X5_productAt ml_X5_108 (hm_c (TC := TC) (X := X) (S := S) (o := o)) rfl rfl (Nat.le_of_ble_eq_true rfl) ⟨(Nat.le_of_ble_eq_true rfl), (Nat.le_of_ble_eq_true rfl)⟩ ⟨(Nat.le_of_ble_eq_true rfl), (Nat.le_of_ble_eq_true rfl)⟩ dX5_place_2 PR_ag (fun _ z => z.elim) ?_
    rintro _ _ _ ⟨rfl, rfl, rfl⟩
    refine wa_astore_n (lv' := [(3, .ref (1200 + jv)), (0, .ref 0), (1, .int (nI jv)), (2, .int b)]) F dX5_place_5 (i := 3) rfl (by decide) rfl ?_
    refine wa_iload_n F dX5_place_6 (i := 2) rfl 3 rfl ?_
    refine wa_iconst (v := 1) F dX5_place_7 (by decide) ?_
    refine wa_sipush (v := 10000) F dX5_place_8 (by decide) ?_
    by_cases c11 : sIn b 1 10000 = true
    · skip
      refine wa_callS F [] (c_X5_checkRange_ok hst D (tysOf TC) H0 ad (hall TC X S o) b 1 10000 c11) mw_X5_checkRange ml_X5_39 rfl (Nat.le_of_ble_eq_true rfl) ⟨(Nat.le_of_ble_eq_true rfl), (Nat.le_of_ble_eq_true rfl)⟩ ⟨(Nat.le_of_ble_eq_true rfl), (Nat.le_of_ble_eq_true rfl)⟩ dX5_place_11 PR_ag (fun _ z => z.elim) ?_
      rintro _ _ _ ⟨rfl, rfl, rfl⟩
      refine wa_aload_n F dX5_place_14 (i := 0) rfl 1 rfl ?_
      refine wa_aload_n F dX5_place_15 (i := 3) rfl 0 rfl ?_
      refine wa_callV F [] (c_X5_firstLack hst D TC H0 ad X S o jv lv _ hi (hall TC X S o) (fun _ _ z => z)) mw_X5_firstLack ml_X5_137 (hm_c (TC := TC) (X := X) (S := S) (o := o)) rfl rfl (Nat.le_of_ble_eq_true rfl) ⟨Nat.le_of_ble_eq_true rfl, Nat.le_of_ble_eq_true rfl⟩ ⟨Nat.le_of_ble_eq_true rfl, Nat.le_of_ble_eq_true rfl⟩ dX5_place_16 PR_ag (fun _ z => z.elim) ?_
      rintro _ _ _ ⟨rfl, rfl, rfl⟩
      refine wa_if_eq (tgt := 32) F dX5_place_19 (by decide) (fun c19 => ?_) (fun c19 => ?_)
      · skip
        refine wa_aload_n F dX5_place_32 (i := 0) rfl 1 rfl ?_
        refine wa_iload_n F dX5_place_33 (i := 1) rfl 2 rfl ?_
        refine wa_aload_n F dX5_place_34 (i := 3) rfl 0 rfl ?_
        refine wa_iload_n F dX5_place_35 (i := 2) rfl 3 rfl ?_
        by_cases c36 : X 28 0 = 40
        · skip
          refine wa_callV F [] (c_X5_addBatch_no hst D TC H0 ad X S o jv lv _ hi b c36) mw_X5_addBatch ml_X5_189 (hm_c (TC := TC) (X := X) (S := S) (o := o)) rfl rfl (Nat.le_of_ble_eq_true rfl) ⟨(Nat.le_of_ble_eq_true rfl), (Nat.le_of_ble_eq_true rfl)⟩ ⟨(Nat.le_of_ble_eq_true rfl), (Nat.le_of_ble_eq_true rfl)⟩ dX5_place_36 (fun _ _ _ z => z.elim) (fun E hE => ?_) (fun _ _ _ z => z.elim)
          subst hE
          have ek : kPl X (nI jv) b = 3 := by unfold kPl; rw [ev, c2, c11, if_pos rfl, if_pos rfl, if_neg (fun z => z.2 c36)]
          exact wx_out F (Nat.le_of_ble_eq_true rfl) (Nat.le_of_ble_eq_true rfl) (Or.inr (Or.inr ⟨rfl, ek⟩)) rfl rfl
        · skip
          have nz0 : hall TC X S o 0 ≠ none := by rw [hm_c]; simp
          have nzq : hall TC X S o (1200 + jv) ≠ none := by rw [hm_prd lv hb13]; simp
          refine wa_callV F [] (c_X5_addBatch_ok hst D TC H0 ad X S o jv lv _ hi b c36) mw_X5_addBatch ml_X5_189 (hm_c (TC := TC) (X := X) (S := S) (o := o)) rfl rfl (Nat.le_of_ble_eq_true rfl) ⟨(Nat.le_of_ble_eq_true rfl), (Nat.le_of_ble_eq_true rfl)⟩ ⟨(Nat.le_of_ble_eq_true rfl), (Nat.le_of_ble_eq_true rfl)⟩ dX5_place_36 (PN_ag2 (by intro y hy; simp only [List.mem_cons, List.not_mem_nil, or_false] at hy; rcases hy with rfl | rfl | rfl | rfl <;> first | trivial | assumption) (fun y hy => absurd hy (by simp))) (fun _ z => z.elim) ?_
          rintro _ ad2 _ ⟨rfl, had, rfl⟩
          refine wa_iret F rfl (Nat.le_of_ble_eq_true rfl) (Nat.le_of_ble_eq_true rfl) dX5_place_39 ?_
          have ek : kPl X (nI jv) b = 0 := by unfold kPl; rw [ev, c2, c11, if_pos rfl, if_pos rfl, if_pos ⟨c19, c36⟩]
          exact ⟨ek, rfl, had, congrArg (fun z => hall TC z S o) (by unfold uPl; rw [ev, c19])⟩
      · skip
        have ek : kPl X (nI jv) b = 3 := by unfold kPl; rw [ev, c2, c11, if_pos rfl, if_pos rfl, if_neg (fun z => c19 z.1)]
        exact wa_throwS F ft_IS cl_X5_47 in_IS sr_X5_187 at_IS gd_IS dX5_place_22 dX5_place_25 dX5_place_26 dX5_place_28 dX5_place_31 (Nat.le_of_ble_eq_true rfl) (Nat.le_of_ble_eq_true rfl) (Nat.le_of_ble_eq_true rfl) (Nat.le_of_ble_eq_true rfl) (Nat.le_of_ble_eq_true rfl) (Nat.le_of_ble_eq_true rfl) (Nat.le_of_ble_eq_true rfl) (Or.inr (Or.inr ⟨rfl, ek⟩)) rfl rfl
    · skip
      replace c11 : sIn b 1 10000 = false := Bool.eq_false_iff.mpr c11
      refine wa_callS F [] (c_X5_checkRange_no hst D (tysOf TC) H0 ad (hall TC X S o) b 1 10000 c11) mw_X5_checkRange ml_X5_39 rfl (Nat.le_of_ble_eq_true rfl) ⟨(Nat.le_of_ble_eq_true rfl), (Nat.le_of_ble_eq_true rfl)⟩ ⟨(Nat.le_of_ble_eq_true rfl), (Nat.le_of_ble_eq_true rfl)⟩ dX5_place_11 (fun _ _ _ z => z.elim) (fun E hE => ?_) (fun _ _ _ z => z.elim)
      subst hE
      have ek : kPl X (nI jv) b = 2 := by simp [kPl, c2, c11, ev]
      exact wx_out F (Nat.le_of_ble_eq_true rfl) (Nat.le_of_ble_eq_true rfl) (Or.inr (Or.inl ⟨rfl, ek⟩)) rfl rfl
  · skip
    replace c2 : sIn v 0 (X 13 0 - 1) = false := Bool.eq_false_iff.mpr c2
    refine wa_callV F [] (c_X5_productAt_no hst D TC H0 ad X S o v hpp.1 hb13 c2 (hall TC X S o) (fun _ _ z => z)) mw_X5_productAt ml_X5_108 (hm_c (TC := TC) (X := X) (S := S) (o := o)) rfl rfl (Nat.le_of_ble_eq_true rfl) ⟨(Nat.le_of_ble_eq_true rfl), (Nat.le_of_ble_eq_true rfl)⟩ ⟨(Nat.le_of_ble_eq_true rfl), (Nat.le_of_ble_eq_true rfl)⟩ dX5_place_2 (fun _ _ _ z => z.elim) (fun E hE => ?_) (fun _ _ _ z => z.elim)
    subst hE
    have ek : kPl X v b = 1 := by simp [kPl, c2]
    exact wx_out F (Nat.le_of_ble_eq_true rfl) (Nat.le_of_ble_eq_true rfl) (Or.inl ⟨rfl, ek⟩) rfl rfl
set_option maxHeartbeats 2000000 in
set_option maxRecDepth 20000 in
theorem c_X5_post {l : Launch} (hst : l.stackTraces = false) (D : va_G) (TC : Nat → ClassId) (H0 : Heap) (ad : Nat → Nat) (X S : St) (o : Nat → Int64) (v : Int32) (b : Int32) (n : Nat) (hi : INV n X) : CC l D (tysOf TC) H0 yX5_post cX5_post 4 (some .int) 7 1 9 [.ref 0, .int v, .int b] ad (hall TC X S o) (PKN (kPo X v b) ad (hall TC X S o) (some (.int (rPl X))) (hall TC (uPo v b X) S o)) (fun E => (E = "java/lang/IndexOutOfBoundsException" ∧ kPo X v b = 1) ∨ (E = "java/lang/IllegalArgumentException" ∧ kPo X v b = 2) ∨ (E = "java/lang/IllegalStateException" ∧ kPo X v b = 3)) := by
  refine cc_intro hst (by decide +kernel) (Nat.le_of_ble_eq_true rfl) ?_
  intro p e s m args below meth c F
  rw [show lv_args 0 [.ref 0, .int v, .int b] = [(0, .ref 0), (1, .int v), (2, .int b)] from rfl]
  obtain ⟨hc, hs, hpp, hd0, hmm, h7, h8, hbo, hu0, hvr⟩ := id hi
  obtain ⟨hvh, hday, hclo, h5, h12, h21, hze, h24, hrk, hbz⟩ := hvr
  have hb2 := hc.2; have hb9 := hs.2; have hb13 := hpp.2; have hb25 := hd0.2; have hb28 := hmm.2
  refine wa_aload_n F dX5_post_0 (i := 0) rfl 0 rfl ?_
  refine wa_iload_n F dX5_post_1 (i := 1) rfl 1 rfl ?_
  by_cases c2 : sIn v 0 (X 13 0 - 1) = true
  · skip
    obtain ⟨jv, lv, rfl⟩ := sIn_nat hpp.1 (by omega) c2
    have ev : tn (nI jv) = jv := tn_nI (by omega)
    refine wa_callV F [] (c_X5_productAt_ok hst D TC H0 ad X S o jv lv hb13 (hall TC X S o) (fun _ _ z => z)) mw_X5_productAt ml_X5_108 (hm_c (TC := TC) (X := X) (S := S) (o := o)) rfl rfl (Nat.le_of_ble_eq_true rfl) ⟨(Nat.le_of_ble_eq_true rfl), (Nat.le_of_ble_eq_true rfl)⟩ ⟨(Nat.le_of_ble_eq_true rfl), (Nat.le_of_ble_eq_true rfl)⟩ dX5_post_2 PR_ag (fun _ z => z.elim) ?_
    rintro _ _ _ ⟨rfl, rfl, rfl⟩
    refine wa_astore_n (lv' := [(3, .ref (1200 + jv)), (0, .ref 0), (1, .int (nI jv)), (2, .int b)]) F dX5_post_5 (i := 3) rfl (by decide) rfl ?_
    refine wa_iload_n F dX5_post_6 (i := 2) rfl 3 rfl ?_
    refine wa_iconst (v := 1) F dX5_post_7 (by decide) ?_
    refine wa_sipush (v := 10000) F dX5_post_8 (by decide) ?_
    by_cases c11 : sIn b 1 10000 = true
    · skip
      refine wa_callS F [] (c_X5_checkRange_ok hst D (tysOf TC) H0 ad (hall TC X S o) b 1 10000 c11) mw_X5_checkRange ml_X5_39 rfl (Nat.le_of_ble_eq_true rfl) ⟨(Nat.le_of_ble_eq_true rfl), (Nat.le_of_ble_eq_true rfl)⟩ ⟨(Nat.le_of_ble_eq_true rfl), (Nat.le_of_ble_eq_true rfl)⟩ dX5_post_11 PR_ag (fun _ z => z.elim) ?_
      rintro _ _ _ ⟨rfl, rfl, rfl⟩
      refine wa_aload_n F dX5_post_14 (i := 0) rfl 1 rfl ?_
      refine wa_iload_n F dX5_post_15 (i := 1) rfl 2 rfl ?_
      refine wa_aload_n F dX5_post_16 (i := 3) rfl 0 rfl ?_
      refine wa_iload_n F dX5_post_17 (i := 2) rfl 3 rfl ?_
      by_cases c18 : X 28 0 = 40
      · skip
        refine wa_callV F [] (c_X5_addBatch_no hst D TC H0 ad X S o jv lv _ hi b c18) mw_X5_addBatch ml_X5_189 (hm_c (TC := TC) (X := X) (S := S) (o := o)) rfl rfl (Nat.le_of_ble_eq_true rfl) ⟨(Nat.le_of_ble_eq_true rfl), (Nat.le_of_ble_eq_true rfl)⟩ ⟨(Nat.le_of_ble_eq_true rfl), (Nat.le_of_ble_eq_true rfl)⟩ dX5_post_18 (fun _ _ _ z => z.elim) (fun E hE => ?_) (fun _ _ _ z => z.elim)
        subst hE
        have ek : kPo X (nI jv) b = 3 := by simp [kPo, c2, c11, c18, ev]
        exact wx_out F (Nat.le_of_ble_eq_true rfl) (Nat.le_of_ble_eq_true rfl) (Or.inr (Or.inr ⟨rfl, ek⟩)) rfl rfl
      · skip
        have nz0 : hall TC X S o 0 ≠ none := by rw [hm_c]; simp
        have nzq : hall TC X S o (1200 + jv) ≠ none := by rw [hm_prd lv hb13]; simp
        refine wa_callV F [] (c_X5_addBatch_ok hst D TC H0 ad X S o jv lv _ hi b c18) mw_X5_addBatch ml_X5_189 (hm_c (TC := TC) (X := X) (S := S) (o := o)) rfl rfl (Nat.le_of_ble_eq_true rfl) ⟨(Nat.le_of_ble_eq_true rfl), (Nat.le_of_ble_eq_true rfl)⟩ ⟨(Nat.le_of_ble_eq_true rfl), (Nat.le_of_ble_eq_true rfl)⟩ dX5_post_18 (PN_ag2 (by intro y hy; simp only [List.mem_cons, List.not_mem_nil, or_false] at hy; rcases hy with rfl | rfl | rfl | rfl <;> first | trivial | assumption) (fun y hy => absurd hy (by simp))) (fun _ z => z.elim) ?_
        rintro _ ad2 _ ⟨rfl, had, rfl⟩
        refine wa_iret F rfl (Nat.le_of_ble_eq_true rfl) (Nat.le_of_ble_eq_true rfl) dX5_post_21 ?_
        have ek : kPo X (nI jv) b = 0 := by simp [kPo, c2, c11, c18, ev]
        exact ⟨ek, rfl, had, congrArg (fun z => hall TC z S o) (by unfold uPo; rw [ev])⟩
    · skip
      replace c11 : sIn b 1 10000 = false := Bool.eq_false_iff.mpr c11
      refine wa_callS F [] (c_X5_checkRange_no hst D (tysOf TC) H0 ad (hall TC X S o) b 1 10000 c11) mw_X5_checkRange ml_X5_39 rfl (Nat.le_of_ble_eq_true rfl) ⟨(Nat.le_of_ble_eq_true rfl), (Nat.le_of_ble_eq_true rfl)⟩ ⟨(Nat.le_of_ble_eq_true rfl), (Nat.le_of_ble_eq_true rfl)⟩ dX5_post_11 (fun _ _ _ z => z.elim) (fun E hE => ?_) (fun _ _ _ z => z.elim)
      subst hE
      have ek : kPo X (nI jv) b = 2 := by simp [kPo, c2, c11, ev]
      exact wx_out F (Nat.le_of_ble_eq_true rfl) (Nat.le_of_ble_eq_true rfl) (Or.inr (Or.inl ⟨rfl, ek⟩)) rfl rfl
  · skip
    replace c2 : sIn v 0 (X 13 0 - 1) = false := Bool.eq_false_iff.mpr c2
    refine wa_callV F [] (c_X5_productAt_no hst D TC H0 ad X S o v hpp.1 hb13 c2 (hall TC X S o) (fun _ _ z => z)) mw_X5_productAt ml_X5_108 (hm_c (TC := TC) (X := X) (S := S) (o := o)) rfl rfl (Nat.le_of_ble_eq_true rfl) ⟨(Nat.le_of_ble_eq_true rfl), (Nat.le_of_ble_eq_true rfl)⟩ ⟨(Nat.le_of_ble_eq_true rfl), (Nat.le_of_ble_eq_true rfl)⟩ dX5_post_2 (fun _ _ _ z => z.elim) (fun E hE => ?_) (fun _ _ _ z => z.elim)
    subst hE
    have ek : kPo X v b = 1 := by simp [kPo, c2]
    exact wx_out F (Nat.le_of_ble_eq_true rfl) (Nat.le_of_ble_eq_true rfl) (Or.inl ⟨rfl, ek⟩) rfl rfl
set_option maxHeartbeats 2000000 in
set_option maxRecDepth 20000 in
theorem c_X5_day {l : Launch} (hst : l.stackTraces = false) (D : va_G) (TC : Nat → ClassId) (H0 : Heap) (ad : Nat → Nat) (X S : St) (o : Nat → Int64)  (h : Hp) (HX : ∀ n e, hall TC X S o n = some e → h n = some e) : CC l D (tysOf TC) H0 yX5_day cX5_day 1 (some .int) 0 0 0 [.ref 0] ad h (PR ad (some (.int (X 1 0))) h) (fun _ => False) := by
  refine cc_intro hst (by decide +kernel) (Nat.le_of_ble_eq_true rfl) ?_
  intro p e s m args below meth c F
  rw [show lv_args 0 [.ref 0] = [(0, .ref 0)] from rfl]
  refine wa_aload_n F dX5_day_0 (i := 0) rfl 0 rfl ?_
  refine wa_getf (v := .int (X 1 0)) F LY_X5 (HX _ _ (hm_c (TC := TC) (X := X) (S := S) (o := o))) 10 (by decide) fl_X5_91 rfl dX5_day_1 ?_
  refine wa_iret F rfl (Nat.le_of_ble_eq_true rfl) (Nat.le_of_ble_eq_true rfl) dX5_day_4 ?_
  exact ⟨rfl, rfl, rfl⟩
