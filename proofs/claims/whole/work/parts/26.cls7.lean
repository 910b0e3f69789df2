theorem cnt_n {X : St} {q : Nat} : cnt X 13 = cnt (uNext q X) 13 :=
  (cnt_u (f := 15) (by decide)).trans ((cnt_z (f := 18) (by decide) 12).trans ((cnt_u (by decide)).trans ((cnt_u (by decide)).trans ((cnt_u (by decide)).trans ((cnt_u (by decide)).trans (cnt_u (by decide)))))))
theorem lt_n {X : St} {i q : Nat} (hi : i < cnt X 13) : i < cnt (uNext q X) 13 := cnt_n ▸ hi
theorem le_n {X : St} {n q : Nat} (hi : cnt X 13 ≤ n) : cnt (uNext q X) 13 ≤ n := cnt_n ▸ hi
theorem zF_comm {S : St} {f g i b : Nat} {v : Int32} (h : f ≠ g) : ∀ k, zF (sU S f i v) g b k = sU (zF S g b k) f i v
  | 0 => rfl
  | k + 1 => by rw [zF_s, zF_s, zF_comm h k, sU_comm h]
theorem next_comm {S : St} {f i q : Nat} {v : Int32} (h : ([15, 18, 19, 20, 21, 22, 23].all (· != f)) = true) : uNext q (sU S f i v) = sU (uNext q S) f i v := by
  have n : ∀ g, g ∈ [15, 18, 19, 20, 21, 22, 23] → f ≠ g := fun g hg => by have := List.all_eq_true.mp h g hg; exact fun z => by simp [z] at this
  unfold uNext
  rw [sU_ne (n 15 (by decide)).symm, sU_comm (n 15 (by decide)), zF_comm (n 18 (by decide)), sU_comm (n 19 (by decide)), sU_comm (n 20 (by decide)), sU_comm (n 21 (by decide)), sU_comm (n 22 (by decide)), sU_comm (n 23 (by decide))]
theorem sw_out {w m : Int32} {k : Int} (hm : m.toInt = k) (h : sIn w 0 m = false) : w.toInt < 0 ∨ k < w.toInt := by
  unfold sIn at h
  rcases Bool.and_eq_false_iff.mp h with z | z
  · have := of_decide_eq_false z
    rw [le_toInt, Int32.toInt_zero] at this; exact Or.inl (by omega)
  · have := of_decide_eq_false z
    rw [le_toInt, hm] at this; exact Or.inr (by omega)
theorem w04 {w : Int32} (h1 : 0 ≤ w) (h2 : ¬ 5 ≤ w) : sIn w 0 4 = true := by
  have : w ≤ 4 := by rw [le_toInt, show (4 : Int32).toInt = 4 from rfl]; rw [le_toInt, show (5 : Int32).toInt = 5 from rfl] at h2; omega
  simp [sIn, h1, this]
theorem w04n {w : Int32} (h : 5 ≤ w) : sIn w 0 4 = false := by
  have : ¬ w ≤ 4 := by rw [le_toInt, show (4 : Int32).toInt = 4 from rfl]; rw [le_toInt, show (5 : Int32).toInt = 5 from rfl] at h; omega
  simp [sIn, this]
theorem nBa_in {x w : Int32} (hx : 0 ≤ x.toInt ∧ x.toInt ≤ 31) (h1 : 0 ≤ w) (h2 : ¬ 5 ≤ w) : (0 ≤ (x ||| ((1 : Int32) <<< (w &&& 31))).toInt ∧ (x ||| ((1 : Int32) <<< (w &&& 31))).toInt ≤ 31) ∧ (0 ≤ (x &&& (((1 : Int32) <<< (w &&& 31)) ^^^ (-1))).toInt ∧ (x &&& (((1 : Int32) <<< (w &&& 31)) ^^^ (-1))).toInt ≤ 31) := by
  obtain ⟨i, hi, rfl⟩ := nI_of (lt_nle_of h1)
  obtain ⟨j, hj, rfl⟩ := nI_of (x := x) (fun z => by rw [Int32.lt_iff_toInt_lt, Int32.toInt_zero] at z; omega)
  rw [nI_toInt hj] at hx
  have hi5 : i < 5 := by rw [le_toInt, nI_toInt hi, show (5 : Int32).toInt = 5 from rfl] at h2; omega
  exact (by decide +kernel : ∀ (j : Fin 32) (i : Fin 5), (0 ≤ (nI j.val ||| ((1 : Int32) <<< (nI i.val &&& 31))).toInt ∧ (nI j.val ||| ((1 : Int32) <<< (nI i.val &&& 31))).toInt ≤ 31) ∧ (0 ≤ (nI j.val &&& (((1 : Int32) <<< (nI i.val &&& 31)) ^^^ (-1))).toInt ∧ (nI j.val &&& (((1 : Int32) <<< (nI i.val &&& 31)) ^^^ (-1))).toInt ≤ 31)) ⟨j, by omega⟩ ⟨i, hi5⟩
set_option maxHeartbeats 2000000 in
set_option maxRecDepth 20000 in
theorem c_X5_change {l : Launch} (hst : l.stackTraces = false) (D : va_G) (TC : Nat → ClassId) (H0 : Heap) (ad : Nat → Nat) (X S : St) (o : Nat → Int64) (v : Int32) (b : Int32) (n : Nat) (hi : INV n X) : CC l D (tysOf TC) H0 yX5_change cX5_change 4 (some .int) 7 1 6 [.ref 0, .int v, .int b] ad (hall TC X S o) (PK (kCh X v b) ad (some (.int (rCh X v b))) (hall TC (uCh v b X) S o)) (fun E => (E = "java/lang/IndexOutOfBoundsException" ∧ kCh X v b = 1) ∨ (E = "java/lang/IllegalArgumentException" ∧ kCh X v b = 2)) := by
  refine cc_intro hst (by decide +kernel) (Nat.le_of_ble_eq_true rfl) ?_
  intro p e s m args below meth c F
  rw [show lv_args 0 [.ref 0, .int v, .int b] = [(0, .ref 0), (1, .int v), (2, .int b)] from rfl]
  obtain ⟨hc, hs, hpp, hd0, hmm, h7, h8, hbo, hu0, hvr⟩ := id hi
  obtain ⟨hvh, hday, hclo, h5, h12, h21, hze, h24, hrk, hbz⟩ := hvr
  have hb2 := hc.2; have hb9 := hs.2; have hb13 := hpp.2; have hb25 := hd0.2; have hb28 := hmm.2
  refine wa_aload_n F dX5_change_0 (i := 0) rfl 0 rfl ?_
  refine wa_iload_n F dX5_change_1 (i := 1) rfl 1 rfl ?_
  by_cases c2 : sIn v 0 (X 13 0 - 1) = true
  · skip
    obtain ⟨jv, lv, rfl⟩ := sIn_nat hpp.1 (by omega) c2
    have ev : tn (nI jv) = jv := tn_nI (by omega)
    refine wa_callV F [] (c_X5_productAt_ok hst D TC H0 ad X S o jv lv hb13 (hall TC X S o) (fun _ _ z => z)) mw_X5_productAt ml_X5_108 (hm_c (TC := TC) (X := X) (S := S) (o := o)) rfl rfl (Nat.le_of_ble_eq_true rfl) ⟨(Nat.le_of_ble_eq_true rfl), (Nat.le_of_ble_eq_true rfl)⟩ ⟨(Nat.le_of_ble_eq_true rfl), (Nat.le_of_ble_eq_true rfl)⟩ dX5_change_2 PR_ag (fun _ z => z.elim) ?_
    rintro _ _ _ ⟨rfl, rfl, rfl⟩
    refine wa_astore_n (lv' := [(3, .ref (1200 + jv)), (0, .ref 0), (1, .int (nI jv)), (2, .int b)]) F dX5_change_5 (i := 3) rfl (by decide) rfl ?_
    refine wa_iload_n F dX5_change_6 (i := 2) rfl 3 rfl ?_
    refine wa_iconst (v := 1) F dX5_change_7 (by decide) ?_
    refine wa_sipush (v := 255) F dX5_change_8 (by decide) ?_
    by_cases c11 : sIn b 1 255 = true
    · skip
      refine wa_callS F [] (c_X5_checkRange_ok hst D (tysOf TC) H0 ad (hall TC X S o) b 1 255 c11) mw_X5_checkRange ml_X5_39 rfl (Nat.le_of_ble_eq_true rfl) ⟨(Nat.le_of_ble_eq_true rfl), (Nat.le_of_ble_eq_true rfl)⟩ ⟨(Nat.le_of_ble_eq_true rfl), (Nat.le_of_ble_eq_true rfl)⟩ dX5_change_11 PR_ag (fun _ z => z.elim) ?_
      rintro _ _ _ ⟨rfl, rfl, rfl⟩
      refine wa_aload_n F dX5_change_14 (i := 3) rfl 0 rfl ?_
      refine wa_getN (v := .int (X 14 jv)) F LY_X3 (hm_prd (TC := TC) (X := X) (S := S) (o := o) lv hb13) 3 (by decide) fn_X5_112 rfl dX5_change_15 ?_
      refine wa_iload_n F dX5_change_18 (i := 2) rfl 3 rfl ?_
      refine wa_icmp_eq (tgt := 31) F dX5_change_19 (by decide) (fun c19 => ?_) (fun c19 => ?_)
      · skip
        refine wa_aload_n F dX5_change_31 (i := 3) rfl 0 rfl ?_
        refine wa_getN (v := .int (X 15 jv)) F LY_X3 (hm_prd (TC := TC) (X := X) (S := S) (o := o) lv hb13) 4 (by decide) fn_X5_118 rfl dX5_change_32 ?_
        refine wa_iret F rfl (Nat.le_of_ble_eq_true rfl) (Nat.le_of_ble_eq_true rfl) dX5_change_35 ?_
        have ek : kCh X (nI jv) b = 0 := by simp [kCh, c2, c11, c19, ev]
        refine ⟨ek, ?_, rfl, ?_⟩
        · refine congrArg (fun z => some (Value.int z)) ?_
          unfold rCh uCh; rw [ev, if_pos c19]
        · refine congrArg (fun z => hall TC z S o) ?_
          unfold uCh; rw [ev, if_pos c19]
      · skip
        refine wa_aload_n F dX5_change_22 (i := 3) rfl 0 rfl ?_
        refine wa_iload_n F dX5_change_23 (i := 2) rfl 3 rfl ?_
        refine wa_putN F LY_X3 (hm_prd (TC := TC) (X := X) (S := S) (o := o) lv hb13) 3 (by decide) fn_X5_112 rfl rfl rfl (Nat.le_of_ble_eq_true rfl) dX5_change_24 (pu_prd_3 b lv hb13) ?_
        refine wa_aload_n F dX5_change_27 (i := 3) rfl 0 rfl ?_
        refine wa_callV F [] (c_X3_startNextVersion hst D TC H0 ad (sU X 14 jv b) S o jv (lt_u lv) (le_u hb13)) mw_X3_startNextVersion ml_X5_115 (hm_prd (TC := TC) (X := (sU X 14 jv b)) (S := S) (o := o) (lt_u lv) (le_u hb13)) rfl rfl (Nat.le_of_ble_eq_true rfl) ⟨Nat.le_of_ble_eq_true rfl, Nat.le_of_ble_eq_true rfl⟩ ⟨Nat.le_of_ble_eq_true rfl, Nat.le_of_ble_eq_true rfl⟩ dX5_change_28 PR_ag (fun _ z => z.elim) ?_
        rintro _ _ _ ⟨rfl, rfl, rfl⟩
        refine wa_aload_n F dX5_change_31 (i := 3) rfl 0 rfl ?_
        refine wa_getN (v := .int ((uNext jv (sU X 14 jv b)) 15 jv)) F LY_X3 (hm_prd (TC := TC) (X := (uNext jv (sU X 14 jv b))) (S := S) (o := o) (lt_n (lt_u lv)) (le_n (le_u hb13))) 4 (by decide) fn_X5_118 rfl dX5_change_32 ?_
        refine wa_iret F rfl (Nat.le_of_ble_eq_true rfl) (Nat.le_of_ble_eq_true rfl) dX5_change_35 ?_
        have ek : kCh X (nI jv) b = 0 := by simp [kCh, c2, c11, c19, ev]
        refine ⟨ek, ?_, rfl, ?_⟩
        · refine congrArg (fun z => some (Value.int z)) ?_
          unfold rCh uCh; rw [ev, if_neg c19]
        · refine congrArg (fun z => hall TC z S o) ?_
          unfold uCh; rw [ev, if_neg c19]
    · skip
      replace c11 : sIn b 1 255 = false := Bool.eq_false_iff.mpr c11
      refine wa_callS F [] (c_X5_checkRange_no hst D (tysOf TC) H0 ad (hall TC X S o) b 1 255 c11) mw_X5_checkRange ml_X5_39 rfl (Nat.le_of_ble_eq_true rfl) ⟨(Nat.le_of_ble_eq_true rfl), (Nat.le_of_ble_eq_true rfl)⟩ ⟨(Nat.le_of_ble_eq_true rfl), (Nat.le_of_ble_eq_true rfl)⟩ dX5_change_11 (fun _ _ _ z => z.elim) (fun E hE => ?_) (fun _ _ _ z => z.elim)
      subst hE
      have ek : kCh X (nI jv) b = 2 := by simp [kCh, c2, c11, ev]
      exact wx_out F (Nat.le_of_ble_eq_true rfl) (Nat.le_of_ble_eq_true rfl) (Or.inr ⟨rfl, ek⟩) rfl rfl
  · skip
    replace c2 : sIn v 0 (X 13 0 - 1) = false := Bool.eq_false_iff.mpr c2
    refine wa_callV F [] (c_X5_productAt_no hst D TC H0 ad X S o v hpp.1 hb13 c2 (hall TC X S o) (fun _ _ z => z)) mw_X5_productAt ml_X5_108 (hm_c (TC := TC) (X := X) (S := S) (o := o)) rfl rfl (Nat.le_of_ble_eq_true rfl) ⟨(Nat.le_of_ble_eq_true rfl), (Nat.le_of_ble_eq_true rfl)⟩ ⟨(Nat.le_of_ble_eq_true rfl), (Nat.le_of_ble_eq_true rfl)⟩ dX5_change_2 (fun _ _ _ z => z.elim) (fun E hE => ?_) (fun _ _ _ z => z.elim)
    subst hE
    have ek : kCh X v b = 1 := by simp [kCh, c2]
    exact wx_out F (Nat.le_of_ble_eq_true rfl) (Nat.le_of_ble_eq_true rfl) (Or.inl ⟨rfl, ek⟩) rfl rfl
set_option maxHeartbeats 2000000 in
set_option maxRecDepth 20000 in
theorem c_X5_risk {l : Launch} (hst : l.stackTraces = false) (D : va_G) (TC : Nat → ClassId) (H0 : Heap) (ad : Nat → Nat) (X S : St) (o : Nat → Int64) (v : Int32) (z : Int32) (q : Int32) (d : Int32) (n : Nat) (hi : INV n X) : CC l D (tysOf TC) H0 yX5_risk cX5_risk 7 (some .int) 7 1 6 [.ref 0, .int v, .int z, .int q, .int d] ad (hall TC X S o) (PK (kRk X v z q d) ad (some (.int (rRk X v z q d))) (hall TC (uRk v z q d X) S o)) (fun E => (E = "java/lang/IndexOutOfBoundsException" ∧ kRk X v z q d = 1) ∨ (E = "java/lang/IllegalArgumentException" ∧ kRk X v z q d = 2)) := by
  refine cc_intro hst (by decide +kernel) (Nat.le_of_ble_eq_true rfl) ?_
  intro p e s m args below meth c F
  rw [show lv_args 0 [.ref 0, .int v, .int z, .int q, .int d] = [(0, .ref 0), (1, .int v), (2, .int z), (3, .int q), (4, .int d)] from rfl]
  obtain ⟨hc, hs, hpp, hd0, hmm, h7, h8, hbo, hu0, hvr⟩ := id hi
  obtain ⟨hvh, hday, hclo, h5, h12, h21, hze, h24, hrk, hbz⟩ := hvr
  have hb2 := hc.2; have hb9 := hs.2; have hb13 := hpp.2; have hb25 := hd0.2; have hb28 := hmm.2
  refine wa_aload_n F dX5_risk_0 (i := 0) rfl 0 rfl ?_
  refine wa_iload_n F dX5_risk_1 (i := 1) rfl 1 rfl ?_
  by_cases c2 : sIn v 0 (X 13 0 - 1) = true
  · skip
    obtain ⟨jv, lv, rfl⟩ := sIn_nat hpp.1 (by omega) c2
    have ev : tn (nI jv) = jv := tn_nI (by omega)
    refine wa_callV F [] (c_X5_productAt_ok hst D TC H0 ad X S o jv lv hb13 (hall TC X S o) (fun _ _ z => z)) mw_X5_productAt ml_X5_108 (hm_c (TC := TC) (X := X) (S := S) (o := o)) rfl rfl (Nat.le_of_ble_eq_true rfl) ⟨(Nat.le_of_ble_eq_true rfl), (Nat.le_of_ble_eq_true rfl)⟩ ⟨(Nat.le_of_ble_eq_true rfl), (Nat.le_of_ble_eq_true rfl)⟩ dX5_risk_2 PR_ag (fun _ z => z.elim) ?_
    rintro _ _ _ ⟨rfl, rfl, rfl⟩
    refine wa_astore (lv' := [(5, .ref (1200 + jv)), (0, .ref 0), (1, .int (nI jv)), (2, .int z), (3, .int q), (4, .int d)]) F dX5_risk_5 (by decide) rfl ?_
    refine wa_iload_n F dX5_risk_7 (i := 2) rfl 3 rfl ?_
    by_cases c8 : sIn z 0 7 = true
    · skip
      obtain ⟨jz, lz, rfl⟩ := sIn_lit (n := 7) (by decide) c8
      have ez : tn (nI jz) = jz := tn_nI (by omega)
      refine wa_callS F [] (c_X5_checkHazard_ok hst D (tysOf TC) H0 ad (hall TC X S o) (nI jz) c8) mw_X5_checkHazard ml_X5_121 rfl (Nat.le_of_ble_eq_true rfl) ⟨(Nat.le_of_ble_eq_true rfl), (Nat.le_of_ble_eq_true rfl)⟩ ⟨(Nat.le_of_ble_eq_true rfl), (Nat.le_of_ble_eq_true rfl)⟩ dX5_risk_8 PR_ag (fun _ z => z.elim) ?_
      rintro _ _ _ ⟨rfl, rfl, rfl⟩
      refine wa_iload_n F dX5_risk_11 (i := 3) rfl 4 rfl ?_
      refine wa_iconst (v := 0) F dX5_risk_12 (by decide) ?_
      refine wa_bipush (v := 9) F dX5_risk_13 (by decide) ?_
      by_cases c15 : sIn q 0 9 = true
      · skip
        refine wa_callS F [] (c_X5_checkRange_ok hst D (tysOf TC) H0 ad (hall TC X S o) q 0 9 c15) mw_X5_checkRange ml_X5_39 rfl (Nat.le_of_ble_eq_true rfl) ⟨(Nat.le_of_ble_eq_true rfl), (Nat.le_of_ble_eq_true rfl)⟩ ⟨(Nat.le_of_ble_eq_true rfl), (Nat.le_of_ble_eq_true rfl)⟩ dX5_risk_15 PR_ag (fun _ z => z.elim) ?_
        rintro _ _ _ ⟨rfl, rfl, rfl⟩
        refine wa_iload F dX5_risk_18 5 rfl ?_
        refine wa_iconst (v := 0) F dX5_risk_20 (by decide) ?_
        refine wa_iload_n F dX5_risk_21 (i := 3) rfl 4 rfl ?_
        by_cases c22 : sIn d 0 q = true
        · skip
          refine wa_callS F [] (c_X5_checkRange_ok hst D (tysOf TC) H0 ad (hall TC X S o) d 0 q c22) mw_X5_checkRange ml_X5_39 rfl (Nat.le_of_ble_eq_true rfl) ⟨(Nat.le_of_ble_eq_true rfl), (Nat.le_of_ble_eq_true rfl)⟩ ⟨(Nat.le_of_ble_eq_true rfl), (Nat.le_of_ble_eq_true rfl)⟩ dX5_risk_22 PR_ag (fun _ z => z.elim) ?_
          rintro _ _ _ ⟨rfl, rfl, rfl⟩
          refine wa_iload_n F dX5_risk_25 (i := 3) rfl 4 rfl ?_
          refine wa_aload F dX5_risk_26 0 rfl ?_
          refine wa_getN (v := .ref (1500 + jv)) F LY_X3 (hm_prd (TC := TC) (X := X) (S := S) (o := o) lv hb13) 0 (by decide) fn_X5_124 rfl dX5_risk_28 ?_
          refine wa_iload_n F dX5_risk_31 (i := 2) rfl 3 rfl ?_
          refine wa_ialV F 0 rfl (hm_rb (TC := TC) (X := X) (S := S) (o := o) lv hb13) jz rfl (by omega) (by decide) (v := (X 16 (8 * jv + jz))) (mk_lt (by omega)) dX5_risk_32 ?_
          refine wa_icmp_gt (tgt := 48) F dX5_risk_33 (by decide) (fun c33 => ?_) (fun c33 => ?_)
          · skip
            replace c33 := lt_nle c33
            refine wa_iconst (v := 1) F dX5_risk_48 (by decide) ?_
            refine wa_goto (tgt := 53) F dX5_risk_49 (by decide) ?_
            refine wa_istore (lv' := [(6, .int 1), (5, .ref (1200 + jv)), (0, .ref 0), (1, .int (nI jv)), (2, .int (nI jz)), (3, .int q), (4, .int d)]) F dX5_risk_53 (by decide) rfl ?_
            refine wa_aload F dX5_risk_55 1 rfl ?_
            refine wa_getN (v := .ref (1500 + jv)) F LY_X3 (hm_prd (TC := TC) (X := X) (S := S) (o := o) lv hb13) 0 (by decide) fn_X5_124 rfl dX5_risk_57 ?_
            refine wa_iload_n F dX5_risk_60 (i := 2) rfl 4 rfl ?_
            refine wa_iload_n F dX5_risk_61 (i := 3) rfl 5 rfl ?_
            refine wa_iast F 0 rfl (hm_rb (TC := TC) (X := X) (S := S) (o := o) lv hb13) jz rfl (by omega) (by decide) dX5_risk_62 (pu_rb jz q (by omega) lv hb13) ?_
            refine wa_aload F dX5_risk_63 1 rfl ?_
            refine wa_getN (v := .ref (1600 + jv)) F LY_X3 (hm_prd (TC := TC) (X := (sU X 16 (8 * jv + jz) q)) (S := S) (o := o) (lt_u lv) (le_u hb13)) 1 (by decide) fn_X5_128 rfl dX5_risk_65 ?_
            refine wa_iload_n F dX5_risk_68 (i := 2) rfl 4 rfl ?_
            refine wa_iload F dX5_risk_69 6 rfl ?_
            refine wa_iast F 0 rfl (hm_ra (TC := TC) (X := (sU X 16 (8 * jv + jz) q)) (S := S) (o := o) (lt_u lv) (le_u hb13)) jz rfl (by omega) (by decide) dX5_risk_71 (pu_ra jz d (by omega) (lt_u lv) (le_u hb13)) ?_
            refine wa_iload F dX5_risk_72 0 rfl ?_
            refine wa_if_eq (tgt := 82) F dX5_risk_74 (by decide) (fun z => absurd z (by decide)) (fun _ => ?_)
            refine wa_aload F dX5_risk_77 1 rfl ?_
            refine wa_callV F [] (c_X3_startNextVersion hst D TC H0 ad (sU (sU X 16 (8 * jv + jz) q) 17 (8 * jv + jz) d) S o jv (lt_u (lt_u lv)) (le_u (le_u hb13))) mw_X3_startNextVersion ml_X5_115 (hm_prd (TC := TC) (X := (sU (sU X 16 (8 * jv + jz) q) 17 (8 * jv + jz) d)) (S := S) (o := o) (lt_u (lt_u lv)) (le_u (le_u hb13))) rfl rfl (Nat.le_of_ble_eq_true rfl) ⟨Nat.le_of_ble_eq_true rfl, Nat.le_of_ble_eq_true rfl⟩ ⟨Nat.le_of_ble_eq_true rfl, Nat.le_of_ble_eq_true rfl⟩ dX5_risk_79 PR_ag (fun _ z => z.elim) ?_
            rintro _ _ _ ⟨rfl, rfl, rfl⟩
            refine wa_aload F dX5_risk_82 1 rfl ?_
            refine wa_getN (v := .int ((uNext jv (sU (sU X 16 (8 * jv + jz) q) 17 (8 * jv + jz) d)) 15 jv)) F LY_X3 (hm_prd (TC := TC) (X := (uNext jv (sU (sU X 16 (8 * jv + jz) q) 17 (8 * jv + jz) d))) (S := S) (o := o) (lt_n (lt_u (lt_u lv))) (le_n (le_u (le_u hb13)))) 4 (by decide) fn_X5_118 rfl dX5_risk_84 ?_
            refine wa_iret F rfl (Nat.le_of_ble_eq_true rfl) (Nat.le_of_ble_eq_true rfl) dX5_risk_87 ?_
            have ek : kRk X (nI jv) (nI jz) q d = 0 := by simp [kRk, c2, c8, c15, c22, c33, ev, ez]
            refine ⟨ek, ?_, rfl, ?_⟩
            · refine congrArg (fun z => some (Value.int z)) ?_
              unfold rRk uRk; rw [ev, ez, if_neg (show ¬ (q ≤ X 16 (8 * jv + jz) ∧ d ≤ X 17 (8 * jv + jz)) from fun z => c33 z.1)]; rw [next_comm (by decide), next_comm (by decide)]
            · refine congrArg (fun z => hall TC z S o) ?_
              unfold uRk; rw [ev, ez, if_neg (show ¬ (q ≤ X 16 (8 * jv + jz) ∧ d ≤ X 17 (8 * jv + jz)) from fun z => c33 z.1)]; rw [next_comm (by decide), next_comm (by decide)]
          · skip
            replace c33 := nlt_le c33
            refine wa_iload F dX5_risk_36 5 rfl ?_
            refine wa_aload F dX5_risk_38 0 rfl ?_
            refine wa_getN (v := .ref (1600 + jv)) F LY_X3 (hm_prd (TC := TC) (X := X) (S := S) (o := o) lv hb13) 1 (by decide) fn_X5_128 rfl dX5_risk_40 ?_
            refine wa_iload_n F dX5_risk_43 (i := 2) rfl 3 rfl ?_
            refine wa_ialV F 0 rfl (hm_ra (TC := TC) (X := X) (S := S) (o := o) lv hb13) jz rfl (by omega) (by decide) (v := (X 17 (8 * jv + jz))) (mk_lt (by omega)) dX5_risk_44 ?_
            refine wa_icmp_le (tgt := 52) F dX5_risk_45 (by decide) (fun c45 => ?_) (fun c45 => ?_)
            · skip
              refine wa_iconst (v := 0) F dX5_risk_52 (by decide) ?_
              refine wa_istore (lv' := [(6, .int 0), (5, .ref (1200 + jv)), (0, .ref 0), (1, .int (nI jv)), (2, .int (nI jz)), (3, .int q), (4, .int d)]) F dX5_risk_53 (by decide) rfl ?_
              refine wa_aload F dX5_risk_55 1 rfl ?_
              refine wa_getN (v := .ref (1500 + jv)) F LY_X3 (hm_prd (TC := TC) (X := X) (S := S) (o := o) lv hb13) 0 (by decide) fn_X5_124 rfl dX5_risk_57 ?_
              refine wa_iload_n F dX5_risk_60 (i := 2) rfl 4 rfl ?_
              refine wa_iload_n F dX5_risk_61 (i := 3) rfl 5 rfl ?_
              refine wa_iast F 0 rfl (hm_rb (TC := TC) (X := X) (S := S) (o := o) lv hb13) jz rfl (by omega) (by decide) dX5_risk_62 (pu_rb jz q (by omega) lv hb13) ?_
              refine wa_aload F dX5_risk_63 1 rfl ?_
              refine wa_getN (v := .ref (1600 + jv)) F LY_X3 (hm_prd (TC := TC) (X := (sU X 16 (8 * jv + jz) q)) (S := S) (o := o) (lt_u lv) (le_u hb13)) 1 (by decide) fn_X5_128 rfl dX5_risk_65 ?_
              refine wa_iload_n F dX5_risk_68 (i := 2) rfl 4 rfl ?_
              refine wa_iload F dX5_risk_69 6 rfl ?_
              refine wa_iast F 0 rfl (hm_ra (TC := TC) (X := (sU X 16 (8 * jv + jz) q)) (S := S) (o := o) (lt_u lv) (le_u hb13)) jz rfl (by omega) (by decide) dX5_risk_71 (pu_ra jz d (by omega) (lt_u lv) (le_u hb13)) ?_
              refine wa_iload F dX5_risk_72 0 rfl ?_
              refine wa_if_eq (tgt := 82) F dX5_risk_74 (by decide) (fun _ => ?_) (fun z => absurd (by decide) z)
              refine wa_aload F dX5_risk_82 1 rfl ?_
              refine wa_getN (v := .int ((sU (sU X 16 (8 * jv + jz) q) 17 (8 * jv + jz) d) 15 jv)) F LY_X3 (hm_prd (TC := TC) (X := (sU (sU X 16 (8 * jv + jz) q) 17 (8 * jv + jz) d)) (S := S) (o := o) (lt_u (lt_u lv)) (le_u (le_u hb13))) 4 (by decide) fn_X5_118 rfl dX5_risk_84 ?_
              refine wa_iret F rfl (Nat.le_of_ble_eq_true rfl) (Nat.le_of_ble_eq_true rfl) dX5_risk_87 ?_
              have ek : kRk X (nI jv) (nI jz) q d = 0 := by simp [kRk, c2, c8, c15, c22, c33, c45, ev, ez]
              refine ⟨ek, ?_, rfl, ?_⟩
              · refine congrArg (fun z => some (Value.int z)) ?_
                unfold rRk uRk; rw [ev, ez, if_pos (show (q ≤ X 16 (8 * jv + jz) ∧ d ≤ X 17 (8 * jv + jz)) from ⟨c33, c45⟩)]
              · refine congrArg (fun z => hall TC z S o) ?_
                unfold uRk; rw [ev, ez, if_pos (show (q ≤ X 16 (8 * jv + jz) ∧ d ≤ X 17 (8 * jv + jz)) from ⟨c33, c45⟩)]
            · skip
              refine wa_iconst (v := 1) F dX5_risk_48 (by decide) ?_
              refine wa_goto (tgt := 53) F dX5_risk_49 (by decide) ?_
              refine wa_istore (lv' := [(6, .int 1), (5, .ref (1200 + jv)), (0, .ref 0), (1, .int (nI jv)), (2, .int (nI jz)), (3, .int q), (4, .int d)]) F dX5_risk_53 (by decide) rfl ?_
              refine wa_aload F dX5_risk_55 1 rfl ?_
              refine wa_getN (v := .ref (1500 + jv)) F LY_X3 (hm_prd (TC := TC) (X := X) (S := S) (o := o) lv hb13) 0 (by decide) fn_X5_124 rfl dX5_risk_57 ?_
              refine wa_iload_n F dX5_risk_60 (i := 2) rfl 4 rfl ?_
              refine wa_iload_n F dX5_risk_61 (i := 3) rfl 5 rfl ?_
              refine wa_iast F 0 rfl (hm_rb (TC := TC) (X := X) (S := S) (o := o) lv hb13) jz rfl (by omega) (by decide) dX5_risk_62 (pu_rb jz q (by omega) lv hb13) ?_
              refine wa_aload F dX5_risk_63 1 rfl ?_
              refine wa_getN (v := .ref (1600 + jv)) F LY_X3 (hm_prd (TC := TC) (X := (sU X 16 (8 * jv + jz) q)) (S := S) (o := o) (lt_u lv) (le_u hb13)) 1 (by decide) fn_X5_128 rfl dX5_risk_65 ?_
              refine wa_iload_n F dX5_risk_68 (i := 2) rfl 4 rfl ?_
              refine wa_iload F dX5_risk_69 6 rfl ?_
              refine wa_iast F 0 rfl (hm_ra (TC := TC) (X := (sU X 16 (8 * jv + jz) q)) (S := S) (o := o) (lt_u lv) (le_u hb13)) jz rfl (by omega) (by decide) dX5_risk_71 (pu_ra jz d (by omega) (lt_u lv) (le_u hb13)) ?_
              refine wa_iload F dX5_risk_72 0 rfl ?_
              refine wa_if_eq (tgt := 82) F dX5_risk_74 (by decide) (fun z => absurd z (by decide)) (fun _ => ?_)
              refine wa_aload F dX5_risk_77 1 rfl ?_
              refine wa_callV F [] (c_X3_startNextVersion hst D TC H0 ad (sU (sU X 16 (8 * jv + jz) q) 17 (8 * jv + jz) d) S o jv (lt_u (lt_u lv)) (le_u (le_u hb13))) mw_X3_startNextVersion ml_X5_115 (hm_prd (TC := TC) (X := (sU (sU X 16 (8 * jv + jz) q) 17 (8 * jv + jz) d)) (S := S) (o := o) (lt_u (lt_u lv)) (le_u (le_u hb13))) rfl rfl (Nat.le_of_ble_eq_true rfl) ⟨Nat.le_of_ble_eq_true rfl, Nat.le_of_ble_eq_true rfl⟩ ⟨Nat.le_of_ble_eq_true rfl, Nat.le_of_ble_eq_true rfl⟩ dX5_risk_79 PR_ag (fun _ z => z.elim) ?_
              rintro _ _ _ ⟨rfl, rfl, rfl⟩
              refine wa_aload F dX5_risk_82 1 rfl ?_
              refine wa_getN (v := .int ((uNext jv (sU (sU X 16 (8 * jv + jz) q) 17 (8 * jv + jz) d)) 15 jv)) F LY_X3 (hm_prd (TC := TC) (X := (uNext jv (sU (sU X 16 (8 * jv + jz) q) 17 (8 * jv + jz) d))) (S := S) (o := o) (lt_n (lt_u (lt_u lv))) (le_n (le_u (le_u hb13)))) 4 (by decide) fn_X5_118 rfl dX5_risk_84 ?_
              refine wa_iret F rfl (Nat.le_of_ble_eq_true rfl) (Nat.le_of_ble_eq_true rfl) dX5_risk_87 ?_
              have ek : kRk X (nI jv) (nI jz) q d = 0 := by simp [kRk, c2, c8, c15, c22, c33, c45, ev, ez]
              refine ⟨ek, ?_, rfl, ?_⟩
              · refine congrArg (fun z => some (Value.int z)) ?_
                unfold rRk uRk; rw [ev, ez, if_neg (show ¬ (q ≤ X 16 (8 * jv + jz) ∧ d ≤ X 17 (8 * jv + jz)) from fun z => c45 z.2)]; rw [next_comm (by decide), next_comm (by decide)]
              · refine congrArg (fun z => hall TC z S o) ?_
                unfold uRk; rw [ev, ez, if_neg (show ¬ (q ≤ X 16 (8 * jv + jz) ∧ d ≤ X 17 (8 * jv + jz)) from fun z => c45 z.2)]; rw [next_comm (by decide), next_comm (by decide)]
        · skip
          replace c22 : sIn d 0 q = false := Bool.eq_false_iff.mpr c22
          refine wa_callS F [] (c_X5_checkRange_no hst D (tysOf TC) H0 ad (hall TC X S o) d 0 q c22) mw_X5_checkRange ml_X5_39 rfl (Nat.le_of_ble_eq_true rfl) ⟨(Nat.le_of_ble_eq_true rfl), (Nat.le_of_ble_eq_true rfl)⟩ ⟨(Nat.le_of_ble_eq_true rfl), (Nat.le_of_ble_eq_true rfl)⟩ dX5_risk_22 (fun _ _ _ z => z.elim) (fun E hE => ?_) (fun _ _ _ z => z.elim)
          subst hE
          have ek : kRk X (nI jv) (nI jz) q d = 2 := by simp [kRk, c2, c8, c15, c22, ev, ez]
          exact wx_out F (Nat.le_of_ble_eq_true rfl) (Nat.le_of_ble_eq_true rfl) (Or.inr ⟨rfl, ek⟩) rfl rfl
      · skip
        replace c15 : sIn q 0 9 = false := Bool.eq_false_iff.mpr c15
        refine wa_callS F [] (c_X5_checkRange_no hst D (tysOf TC) H0 ad (hall TC X S o) q 0 9 c15) mw_X5_checkRange ml_X5_39 rfl (Nat.le_of_ble_eq_true rfl) ⟨(Nat.le_of_ble_eq_true rfl), (Nat.le_of_ble_eq_true rfl)⟩ ⟨(Nat.le_of_ble_eq_true rfl), (Nat.le_of_ble_eq_true rfl)⟩ dX5_risk_15 (fun _ _ _ z => z.elim) (fun E hE => ?_) (fun _ _ _ z => z.elim)
        subst hE
        have ek : kRk X (nI jv) (nI jz) q d = 2 := by simp [kRk, c2, c8, c15, ev, ez]
        exact wx_out F (Nat.le_of_ble_eq_true rfl) (Nat.le_of_ble_eq_true rfl) (Or.inr ⟨rfl, ek⟩) rfl rfl
    · skip
      replace c8 : sIn z 0 7 = false := Bool.eq_false_iff.mpr c8
      refine wa_callS F [] (c_X5_checkHazard_no hst D (tysOf TC) H0 ad (hall TC X S o) z c8) mw_X5_checkHazard ml_X5_121 rfl (Nat.le_of_ble_eq_true rfl) ⟨(Nat.le_of_ble_eq_true rfl), (Nat.le_of_ble_eq_true rfl)⟩ ⟨(Nat.le_of_ble_eq_true rfl), (Nat.le_of_ble_eq_true rfl)⟩ dX5_risk_8 (fun _ _ _ z => z.elim) (fun E hE => ?_) (fun _ _ _ z => z.elim)
      subst hE
      have ek : kRk X (nI jv) z q d = 1 := by simp [kRk, c2, c8, ev]
      exact wx_out F (Nat.le_of_ble_eq_true rfl) (Nat.le_of_ble_eq_true rfl) (Or.inl ⟨rfl, ek⟩) rfl rfl
  · skip
    replace c2 : sIn v 0 (X 13 0 - 1) = false := Bool.eq_false_iff.mpr c2
    refine wa_callV F [] (c_X5_productAt_no hst D TC H0 ad X S o v hpp.1 hb13 c2 (hall TC X S o) (fun _ _ z => z)) mw_X5_productAt ml_X5_108 (hm_c (TC := TC) (X := X) (S := S) (o := o)) rfl rfl (Nat.le_of_ble_eq_true rfl) ⟨(Nat.le_of_ble_eq_true rfl), (Nat.le_of_ble_eq_true rfl)⟩ ⟨(Nat.le_of_ble_eq_true rfl), (Nat.le_of_ble_eq_true rfl)⟩ dX5_risk_2 (fun _ _ _ z => z.elim) (fun E hE => ?_) (fun _ _ _ z => z.elim)
    subst hE
    have ek : kRk X v z q d = 1 := by simp [kRk, c2]
    exact wx_out F (Nat.le_of_ble_eq_true rfl) (Nat.le_of_ble_eq_true rfl) (Or.inl ⟨rfl, ek⟩) rfl rfl
set_option maxHeartbeats 2000000 in
set_option maxRecDepth 20000 in
theorem c_X5_declare {l : Launch} (hst : l.stackTraces = false) (D : va_G) (TC : Nat → ClassId) (H0 : Heap) (ad : Nat → Nat) (X S : St) (o : Nat → Int64) (v : Int32) (n : Nat) (hi : INV n X) : CC l D (tysOf TC) H0 yX5_declare cX5_declare 4 (some .int) 7 1 6 [.ref 0, .int v] ad (hall TC X S o) (PK (kDc X v) ad (some (.int (rDc X))) (hall TC (uDc v X) S o)) (fun E => (E = "java/lang/IndexOutOfBoundsException" ∧ kDc X v = 1) ∨ (E = "java/lang/IllegalStateException" ∧ kDc X v = 2)) := by
  refine cc_intro hst (by decide +kernel) (Nat.le_of_ble_eq_true rfl) ?_
  intro p e s m args below meth c F
  rw [show lv_args 0 [.ref 0, .int v] = [(0, .ref 0), (1, .int v)] from rfl]
  obtain ⟨hc, hs, hpp, hd0, hmm, h7, h8, hbo, hu0, hvr⟩ := id hi
  obtain ⟨hvh, hday, hclo, h5, h12, h21, hze, h24, hrk, hbz⟩ := hvr
  have hb2 := hc.2; have hb9 := hs.2; have hb13 := hpp.2; have hb25 := hd0.2; have hb28 := hmm.2
  refine wa_aload_n F dX5_declare_0 (i := 0) rfl 0 rfl ?_
  refine wa_iload_n F dX5_declare_1 (i := 1) rfl 1 rfl ?_
  by_cases c2 : sIn v 0 (X 13 0 - 1) = true
  · skip
    obtain ⟨jv, lv, rfl⟩ := sIn_nat hpp.1 (by omega) c2
    have ev : tn (nI jv) = jv := tn_nI (by omega)
    refine wa_callV F [] (c_X5_productAt_ok hst D TC H0 ad X S o jv lv hb13 (hall TC X S o) (fun _ _ z => z)) mw_X5_productAt ml_X5_108 (hm_c (TC := TC) (X := X) (S := S) (o := o)) rfl rfl (Nat.le_of_ble_eq_true rfl) ⟨(Nat.le_of_ble_eq_true rfl), (Nat.le_of_ble_eq_true rfl)⟩ ⟨(Nat.le_of_ble_eq_true rfl), (Nat.le_of_ble_eq_true rfl)⟩ dX5_declare_2 PR_ag (fun _ z => z.elim) ?_
    rintro _ _ _ ⟨rfl, rfl, rfl⟩
    refine wa_astore_n (lv' := [(2, .ref (1200 + jv)), (0, .ref 0), (1, .int (nI jv))]) F dX5_declare_5 (i := 2) rfl (by decide) rfl ?_
    refine wa_aload_n F dX5_declare_6 (i := 0) rfl 1 rfl ?_
    refine wa_aload_n F dX5_declare_7 (i := 2) rfl 0 rfl ?_
    refine wa_callV F [] (c_X5_firstLack hst D TC H0 ad X S o jv lv _ hi (hall TC X S o) (fun _ _ z => z)) mw_X5_firstLack ml_X5_137 (hm_c (TC := TC) (X := X) (S := S) (o := o)) rfl rfl (Nat.le_of_ble_eq_true rfl) ⟨Nat.le_of_ble_eq_true rfl, Nat.le_of_ble_eq_true rfl⟩ ⟨Nat.le_of_ble_eq_true rfl, Nat.le_of_ble_eq_true rfl⟩ dX5_declare_8 PR_ag (fun _ z => z.elim) ?_
    rintro _ _ _ ⟨rfl, rfl, rfl⟩
    refine wa_istore_n (lv' := [(3, .int (sWant X jv)), (2, .ref (1200 + jv)), (0, .ref 0), (1, .int (nI jv))]) F dX5_declare_11 (i := 3) rfl (by decide) rfl ?_
    refine wa_iload_n F dX5_declare_12 (i := 3) rfl 0 rfl ?_
    refine wa_if_eq (tgt := 32) F dX5_declare_13 (by decide) (fun c13 => ?_) (fun c13 => ?_)
    · skip
      refine wa_aload_n F dX5_declare_32 (i := 2) rfl 1 rfl ?_
      refine wa_aload_n F dX5_declare_33 (i := 0) rfl 2 rfl ?_
      refine wa_getf (v := .int (X 1 0)) F LY_X5 (hm_c (TC := TC) (X := X) (S := S) (o := o)) 10 (by decide) fl_X5_91 rfl dX5_declare_34 ?_
      refine wa_putN F LY_X3 (hm_prd (TC := TC) (X := X) (S := S) (o := o) lv hb13) 6 (by decide) fn_X5_143 rfl rfl rfl (Nat.le_of_ble_eq_true rfl) dX5_declare_37 (pu_prd_6 (X 1 0) lv hb13) ?_
      refine wa_aload_n F dX5_declare_40 (i := 0) rfl 2 rfl ?_
      refine wa_getf (v := .int ((sU X 23 jv (X 1 0)) 1 0)) F LY_X5 (hm_c (TC := TC) (X := (sU X 23 jv (X 1 0))) (S := S) (o := o)) 10 (by decide) fl_X5_91 rfl dX5_declare_41 ?_
      refine wa_iret F rfl (Nat.le_of_ble_eq_true rfl) (Nat.le_of_ble_eq_true rfl) dX5_declare_44 ?_
      have ek : kDc X (nI jv) = 0 := by unfold kDc; rw [if_pos c2, ev, if_pos (want_ok (Or.inl c13))]
      refine ⟨ek, ?_, rfl, ?_⟩
      · refine congrArg (fun z => some (Value.int z)) ?_
        rfl
      · refine congrArg (fun z => hall TC z S o) ?_
        unfold uDc; rw [ev]
    · skip
      refine wa_iload_n F dX5_declare_16 (i := 3) rfl 0 rfl ?_
      refine wa_bipush (v := 6) F dX5_declare_17 (by decide) ?_
      refine wa_icmp_eq (tgt := 32) F dX5_declare_19 (by decide) (fun c19 => ?_) (fun c19 => ?_)
      · skip
        refine wa_aload_n F dX5_declare_32 (i := 2) rfl 1 rfl ?_
        refine wa_aload_n F dX5_declare_33 (i := 0) rfl 2 rfl ?_
        refine wa_getf (v := .int (X 1 0)) F LY_X5 (hm_c (TC := TC) (X := X) (S := S) (o := o)) 10 (by decide) fl_X5_91 rfl dX5_declare_34 ?_
        refine wa_putN F LY_X3 (hm_prd (TC := TC) (X := X) (S := S) (o := o) lv hb13) 6 (by decide) fn_X5_143 rfl rfl rfl (Nat.le_of_ble_eq_true rfl) dX5_declare_37 (pu_prd_6 (X 1 0) lv hb13) ?_
        refine wa_aload_n F dX5_declare_40 (i := 0) rfl 2 rfl ?_
        refine wa_getf (v := .int ((sU X 23 jv (X 1 0)) 1 0)) F LY_X5 (hm_c (TC := TC) (X := (sU X 23 jv (X 1 0))) (S := S) (o := o)) 10 (by decide) fl_X5_91 rfl dX5_declare_41 ?_
        refine wa_iret F rfl (Nat.le_of_ble_eq_true rfl) (Nat.le_of_ble_eq_true rfl) dX5_declare_44 ?_
        have ek : kDc X (nI jv) = 0 := by unfold kDc; rw [if_pos c2, ev, if_pos (want_ok (Or.inr c19))]
        refine ⟨ek, ?_, rfl, ?_⟩
        · refine congrArg (fun z => some (Value.int z)) ?_
          rfl
        · refine congrArg (fun z => hall TC z S o) ?_
          unfold uDc; rw [ev]
      · skip
        have ek : kDc X (nI jv) = 2 := by unfold kDc; rw [if_pos c2, ev, if_neg (want_no c13 c19)]
        exact wa_throwS F ft_IS cl_X5_47 in_IS sr_X5_141 at_IS gd_IS dX5_declare_22 dX5_declare_25 dX5_declare_26 dX5_declare_28 dX5_declare_31 (Nat.le_of_ble_eq_true rfl) (Nat.le_of_ble_eq_true rfl) (Nat.le_of_ble_eq_true rfl) (Nat.le_of_ble_eq_true rfl) (Nat.le_of_ble_eq_true rfl) (Nat.le_of_ble_eq_true rfl) (Nat.le_of_ble_eq_true rfl) (Or.inr ⟨rfl, ek⟩) rfl rfl
  · skip
    replace c2 : sIn v 0 (X 13 0 - 1) = false := Bool.eq_false_iff.mpr c2
    refine wa_callV F [] (c_X5_productAt_no hst D TC H0 ad X S o v hpp.1 hb13 c2 (hall TC X S o) (fun _ _ z => z)) mw_X5_productAt ml_X5_108 (hm_c (TC := TC) (X := X) (S := S) (o := o)) rfl rfl (Nat.le_of_ble_eq_true rfl) ⟨(Nat.le_of_ble_eq_true rfl), (Nat.le_of_ble_eq_true rfl)⟩ ⟨(Nat.le_of_ble_eq_true rfl), (Nat.le_of_ble_eq_true rfl)⟩ dX5_declare_2 (fun _ _ _ z => z.elim) (fun E hE => ?_) (fun _ _ _ z => z.elim)
    subst hE
    have ek : kDc X v = 1 := by simp [kDc, c2]
    exact wx_out F (Nat.le_of_ble_eq_true rfl) (Nat.le_of_ble_eq_true rfl) (Or.inl ⟨rfl, ek⟩) rfl rfl
set_option maxHeartbeats 2000000 in
set_option maxRecDepth 20000 in
theorem c_X5_suspend {l : Launch} (hst : l.stackTraces = false) (D : va_G) (TC : Nat → ClassId) (H0 : Heap) (ad : Nat → Nat) (X S : St) (o : Nat → Int64) (v : Int32) (q : Bool) (n : Nat) (hi : INV n X) : CC l D (tysOf TC) H0 yX5_suspend cX5_suspend 5 (some .boolean) 7 1 6 [.ref 0, .int v, .int (bI q)] ad (hall TC X S o) (PK (kSu X v) ad (some (.int (rSu X v))) (hall TC (uSu v q X) S o)) (fun E => (E = "java/lang/IndexOutOfBoundsException" ∧ kSu X v = 1)) := by
  refine cc_intro hst (by decide +kernel) (Nat.le_of_ble_eq_true rfl) ?_
  intro p e s m args below meth c F
  rw [show lv_args 0 [.ref 0, .int v, .int (bI q)] = [(0, .ref 0), (1, .int v), (2, .int (bI q))] from rfl]
  obtain ⟨hc, hs, hpp, hd0, hmm, h7, h8, hbo, hu0, hvr⟩ := id hi
  obtain ⟨hvh, hday, hclo, h5, h12, h21, hze, h24, hrk, hbz⟩ := hvr
  have hb2 := hc.2; have hb9 := hs.2; have hb13 := hpp.2; have hb25 := hd0.2; have hb28 := hmm.2
  refine wa_aload_n F dX5_suspend_0 (i := 0) rfl 0 rfl ?_
  refine wa_iload_n F dX5_suspend_1 (i := 1) rfl 1 rfl ?_
  by_cases c2 : sIn v 0 (X 25 0 - 1) = true
  · skip
    obtain ⟨jv, lv, rfl⟩ := sIn_nat hd0.1 (by omega) c2
    have ev : tn (nI jv) = jv := tn_nI (by omega)
    refine wa_callV F [] (c_X5_bodyAt_ok hst D TC H0 ad X S o jv lv hb25 (hall TC X S o) (fun _ _ z => z)) mw_X5_bodyAt ml_X5_152 (hm_c (TC := TC) (X := X) (S := S) (o := o)) rfl rfl (Nat.le_of_ble_eq_true rfl) ⟨(Nat.le_of_ble_eq_true rfl), (Nat.le_of_ble_eq_true rfl)⟩ ⟨(Nat.le_of_ble_eq_true rfl), (Nat.le_of_ble_eq_true rfl)⟩ dX5_suspend_2 PR_ag (fun _ z => z.elim) ?_
    rintro _ _ _ ⟨rfl, rfl, rfl⟩
    refine wa_astore_n (lv' := [(3, .ref (1300 + jv)), (0, .ref 0), (1, .int (nI jv)), (2, .int (bI q))]) F dX5_suspend_5 (i := 3) rfl (by decide) rfl ?_
    refine wa_aload_n F dX5_suspend_6 (i := 3) rfl 0 rfl ?_
    refine wa_callV F [] (c_X2_isSuspended hst D TC H0 ad X S o jv lv hb25 (hall TC X S o) (fun _ _ z => z)) mw_X2_isSuspended ml_X5_156 (hm_bod (TC := TC) (X := X) (S := S) (o := o) lv hb25) rfl rfl (Nat.le_of_ble_eq_true rfl) ⟨Nat.le_of_ble_eq_true rfl, Nat.le_of_ble_eq_true rfl⟩ ⟨Nat.le_of_ble_eq_true rfl, Nat.le_of_ble_eq_true rfl⟩ dX5_suspend_7 PR_ag (fun _ z => z.elim) ?_
    rintro _ _ _ ⟨rfl, rfl, rfl⟩
    refine wa_istore (lv' := [(4, .int (bI (decide (¬ X 27 jv = -1)))), (3, .ref (1300 + jv)), (0, .ref 0), (1, .int (nI jv)), (2, .int (bI q))]) F dX5_suspend_10 (by decide) rfl ?_
    refine wa_iload_n F dX5_suspend_12 (i := 2) rfl 4 rfl ?_
    refine wa_if_ne (tgt := 24) F dX5_suspend_13 (by decide) (fun c13 => ?_) (fun c13 => ?_)
    · skip
      replace c13 : q = true := bI_t c13
      refine wa_iload F dX5_suspend_24 0 rfl ?_
      refine wa_if_ne (tgt := 37) F dX5_suspend_26 (by decide) (fun c26 => ?_) (fun c26 => ?_)
      · skip
        replace c26 : (decide (¬ X 27 jv = -1)) = true := bI_t c26
        refine wa_iload F dX5_suspend_37 0 rfl ?_
        refine wa_iret F (narrow_bI (decide (¬ X 27 jv = -1))) (Nat.le_of_ble_eq_true rfl) (Nat.le_of_ble_eq_true rfl) dX5_suspend_39 ?_
        have ek : kSu X (nI jv) = 0 := by simp [kSu, c2, c13, c26, ev]
        refine ⟨ek, ?_, rfl, ?_⟩
        · refine congrArg (fun z => some (Value.int z)) ?_
          unfold rSu; rw [ev]
        · refine congrArg (fun z => hall TC z S o) ?_
          unfold uSu; rw [ev, c13, if_pos rfl]; simp at c26; simp [c26]; try (rw [sU_self rfl])
      · skip
        replace c26 : (decide (¬ X 27 jv = -1)) = false := bI_f c26
        refine wa_aload_n F dX5_suspend_29 (i := 3) rfl 1 rfl ?_
        refine wa_aload_n F dX5_suspend_30 (i := 0) rfl 2 rfl ?_
        refine wa_getf (v := .int (X 1 0)) F LY_X5 (hm_c (TC := TC) (X := X) (S := S) (o := o)) 10 (by decide) fl_X5_91 rfl dX5_suspend_31 ?_
        refine wa_putN F LY_X2 (hm_bod (TC := TC) (X := X) (S := S) (o := o) lv hb25) 2 (by decide) fn_X5_160 rfl rfl rfl (Nat.le_of_ble_eq_true rfl) dX5_suspend_34 (pu_bod_2 (X 1 0) lv hb25) ?_
        refine wa_iload F dX5_suspend_37 0 rfl ?_
        refine wa_iret F (narrow_bI (decide (¬ X 27 jv = -1))) (Nat.le_of_ble_eq_true rfl) (Nat.le_of_ble_eq_true rfl) dX5_suspend_39 ?_
        have ek : kSu X (nI jv) = 0 := by simp [kSu, c2, c13, c26, ev]
        refine ⟨ek, ?_, rfl, ?_⟩
        · refine congrArg (fun z => some (Value.int z)) ?_
          unfold rSu; rw [ev]
        · refine congrArg (fun z => hall TC z S o) ?_
          unfold uSu; rw [ev, c13, if_pos rfl]; simp at c26; simp [c26]; try (rw [sU_self rfl])
    · skip
      replace c13 : q = false := bI_f c13
      refine wa_aload_n F dX5_suspend_16 (i := 3) rfl 1 rfl ?_
      refine wa_iconst (v := (-1)) F dX5_suspend_17 (by decide) ?_
      refine wa_putN F LY_X2 (hm_bod (TC := TC) (X := X) (S := S) (o := o) lv hb25) 2 (by decide) fn_X5_160 rfl rfl rfl (Nat.le_of_ble_eq_true rfl) dX5_suspend_18 (pu_bod_2 (-1) lv hb25) ?_
      refine wa_goto (tgt := 37) F dX5_suspend_21 (by decide) ?_
      refine wa_iload F dX5_suspend_37 0 rfl ?_
      refine wa_iret F (narrow_bI (decide (¬ X 27 jv = -1))) (Nat.le_of_ble_eq_true rfl) (Nat.le_of_ble_eq_true rfl) dX5_suspend_39 ?_
      have ek : kSu X (nI jv) = 0 := by simp [kSu, c2, c13, ev]
      refine ⟨ek, ?_, rfl, ?_⟩
      · refine congrArg (fun z => some (Value.int z)) ?_
        unfold rSu; rw [ev]
      · refine congrArg (fun z => hall TC z S o) ?_
        unfold uSu; rw [ev, c13]; rfl
  · skip
    replace c2 : sIn v 0 (X 25 0 - 1) = false := Bool.eq_false_iff.mpr c2
    refine wa_callV F [] (c_X5_bodyAt_no hst D TC H0 ad X S o v hd0.1 hb25 c2 (hall TC X S o) (fun _ _ z => z)) mw_X5_bodyAt ml_X5_152 (hm_c (TC := TC) (X := X) (S := S) (o := o)) rfl rfl (Nat.le_of_ble_eq_true rfl) ⟨(Nat.le_of_ble_eq_true rfl), (Nat.le_of_ble_eq_true rfl)⟩ ⟨(Nat.le_of_ble_eq_true rfl), (Nat.le_of_ble_eq_true rfl)⟩ dX5_suspend_2 (fun _ _ _ z => z.elim) (fun E hE => ?_) (fun _ _ _ z => z.elim)
    subst hE
    have ek : kSu X v = 1 := by simp [kSu, c2]
    exact wx_out F (Nat.le_of_ble_eq_true rfl) (Nat.le_of_ble_eq_true rfl) ⟨rfl, ek⟩ rfl rfl
set_option maxHeartbeats 2000000 in
set_option maxRecDepth 20000 in
theorem c_X5_sample {l : Launch} (hst : l.stackTraces = false) (D : va_G) (TC : Nat → ClassId) (H0 : Heap) (ad : Nat → Nat) (X S : St) (o : Nat → Int64) (v : Int32) (b : Int32) (t : Int32) (d : Int32) (n : Nat) (hi : INV n X) : CC l D (tysOf TC) H0 yX5_sample cX5_sample 6 (some .int) 7 1 6 [.ref 0, .int v, .int b, .int t, .int d] ad (hall TC X S o) (PK (kSa X v b t d) ad (some (.int (rSa b t d))) (hall TC (uSa v b t d X) S o)) (fun E => (E = "java/lang/IndexOutOfBoundsException" ∧ kSa X v b t d = 1) ∨ (E = "java/lang/IllegalArgumentException" ∧ kSa X v b t d = 2)) := by
  refine cc_intro hst (by decide +kernel) (Nat.le_of_ble_eq_true rfl) ?_
  intro p e s m args below meth c F
  rw [show lv_args 0 [.ref 0, .int v, .int b, .int t, .int d] = [(0, .ref 0), (1, .int v), (2, .int b), (3, .int t), (4, .int d)] from rfl]
  obtain ⟨hc, hs, hpp, hd0, hmm, h7, h8, hbo, hu0, hvr⟩ := id hi
  obtain ⟨hvh, hday, hclo, h5, h12, h21, hze, h24, hrk, hbz⟩ := hvr
  have hb2 := hc.2; have hb9 := hs.2; have hb13 := hpp.2; have hb25 := hd0.2; have hb28 := hmm.2
  refine wa_aload_n F dX5_sample_0 (i := 0) rfl 0 rfl ?_
  refine wa_iload_n F dX5_sample_1 (i := 1) rfl 1 rfl ?_
  by_cases c2 : sIn v 0 (X 28 0 - 1) = true
  · skip
    obtain ⟨jv, lv, rfl⟩ := sIn_nat hmm.1 (by omega) c2
    have ev : tn (nI jv) = jv := tn_nI (by omega)
    refine wa_callV F [] (c_X5_batchAt_ok hst D TC H0 ad X S o jv lv hb28 (hall TC X S o) (fun _ _ z => z)) mw_X5_batchAt ml_X5_193 (hm_c (TC := TC) (X := X) (S := S) (o := o)) rfl rfl (Nat.le_of_ble_eq_true rfl) ⟨(Nat.le_of_ble_eq_true rfl), (Nat.le_of_ble_eq_true rfl)⟩ ⟨(Nat.le_of_ble_eq_true rfl), (Nat.le_of_ble_eq_true rfl)⟩ dX5_sample_2 PR_ag (fun _ z => z.elim) ?_
    rintro _ _ _ ⟨rfl, rfl, rfl⟩
    refine wa_astore (lv' := [(5, .ref (1400 + jv)), (0, .ref 0), (1, .int (nI jv)), (2, .int b), (3, .int t), (4, .int d)]) F dX5_sample_5 (by decide) rfl ?_
    refine wa_iload_n F dX5_sample_7 (i := 2) rfl 3 rfl ?_
    refine wa_iconst (v := 0) F dX5_sample_8 (by decide) ?_
    refine wa_ldc F ck_X5_197 dX5_sample_9 ?_
    by_cases c11 : sIn b 0 100000 = true
    · skip
      refine wa_callS F [] (c_X5_checkRange_ok hst D (tysOf TC) H0 ad (hall TC X S o) b 0 100000 c11) mw_X5_checkRange ml_X5_39 rfl (Nat.le_of_ble_eq_true rfl) ⟨(Nat.le_of_ble_eq_true rfl), (Nat.le_of_ble_eq_true rfl)⟩ ⟨(Nat.le_of_ble_eq_true rfl), (Nat.le_of_ble_eq_true rfl)⟩ dX5_sample_11 PR_ag (fun _ z => z.elim) ?_
      rintro _ _ _ ⟨rfl, rfl, rfl⟩
      refine wa_iload_n F dX5_sample_14 (i := 3) rfl 4 rfl ?_
      refine wa_iconst (v := 0) F dX5_sample_15 (by decide) ?_
      refine wa_ldc F ck_X5_197 dX5_sample_16 ?_
      by_cases c18 : sIn t 0 100000 = true
      · skip
        refine wa_callS F [] (c_X5_checkRange_ok hst D (tysOf TC) H0 ad (hall TC X S o) t 0 100000 c18) mw_X5_checkRange ml_X5_39 rfl (Nat.le_of_ble_eq_true rfl) ⟨(Nat.le_of_ble_eq_true rfl), (Nat.le_of_ble_eq_true rfl)⟩ ⟨(Nat.le_of_ble_eq_true rfl), (Nat.le_of_ble_eq_true rfl)⟩ dX5_sample_18 PR_ag (fun _ z => z.elim) ?_
        rintro _ _ _ ⟨rfl, rfl, rfl⟩
        refine wa_iload F dX5_sample_21 5 rfl ?_
        refine wa_iconst (v := 0) F dX5_sample_23 (by decide) ?_
        refine wa_sipush (v := 10000) F dX5_sample_24 (by decide) ?_
        by_cases c27 : sIn d 0 10000 = true
        · skip
          refine wa_callS F [] (c_X5_checkRange_ok hst D (tysOf TC) H0 ad (hall TC X S o) d 0 10000 c27) mw_X5_checkRange ml_X5_39 rfl (Nat.le_of_ble_eq_true rfl) ⟨(Nat.le_of_ble_eq_true rfl), (Nat.le_of_ble_eq_true rfl)⟩ ⟨(Nat.le_of_ble_eq_true rfl), (Nat.le_of_ble_eq_true rfl)⟩ dX5_sample_27 PR_ag (fun _ z => z.elim) ?_
          rintro _ _ _ ⟨rfl, rfl, rfl⟩
          refine wa_iload_n F dX5_sample_30 (i := 2) rfl 3 rfl ?_
          refine wa_iload F dX5_sample_31 5 rfl ?_
          refine wa_isub F dX5_sample_33 ?_
          refine wa_iload_n F dX5_sample_34 (i := 3) rfl 4 rfl ?_
          refine wa_icmp_le (tgt := 47) F dX5_sample_35 (by decide) (fun c35 => ?_) (fun c35 => ?_)
          · skip
            refine wa_iload_n F dX5_sample_47 (i := 2) rfl 3 rfl ?_
            refine wa_iload F dX5_sample_48 5 rfl ?_
            refine wa_iadd F dX5_sample_50 ?_
            refine wa_iload_n F dX5_sample_51 (i := 3) rfl 4 rfl ?_
            refine wa_icmp_gt (tgt := 64) F dX5_sample_52 (by decide) (fun c52 => ?_) (fun c52 => ?_)
            · skip
              replace c52 := lt_nle c52
              refine wa_aload F dX5_sample_64 0 rfl ?_
              refine wa_iconst (v := 1) F dX5_sample_66 (by decide) ?_
              refine wa_putN F LY_X1 (hm_bat (TC := TC) (X := X) (S := S) (o := o) lv hb28) 6 (by decide) fn_X5_198 rfl rfl rfl (Nat.le_of_ble_eq_true rfl) dX5_sample_67 (pu_bat_6 1 lv hb28) ?_
              refine wa_aload F dX5_sample_70 0 rfl ?_
              refine wa_getN (v := .int ((sU X 35 jv 1) 35 jv)) F LY_X1 (hm_bat (TC := TC) (X := (sU X 35 jv 1)) (S := S) (o := o) (lt_u lv) (le_u hb28)) 6 (by decide) fn_X5_198 rfl dX5_sample_72 ?_
              refine wa_iret F rfl (Nat.le_of_ble_eq_true rfl) (Nat.le_of_ble_eq_true rfl) dX5_sample_75 ?_
              have ek : kSa X (nI jv) b t d = 0 := by simp [kSa, c2, c11, c18, c27, c35, c52, ev]
              refine ⟨ek, ?_, rfl, ?_⟩
              · refine congrArg (fun z => some (Value.int z)) ?_
                rw [(show rSa b t d = 1 from by simp [rSa, c35, c52])]; simp [sU, upd]
              · refine congrArg (fun z => hall TC z S o) ?_
                unfold uSa; rw [ev, (show rSa b t d = 1 from by simp [rSa, c35, c52])]
            · skip
              replace c52 := nlt_le c52
              refine wa_aload F dX5_sample_55 0 rfl ?_
              refine wa_iconst (v := 0) F dX5_sample_57 (by decide) ?_
              refine wa_putN F LY_X1 (hm_bat (TC := TC) (X := X) (S := S) (o := o) lv hb28) 6 (by decide) fn_X5_198 rfl rfl rfl (Nat.le_of_ble_eq_true rfl) dX5_sample_58 (pu_bat_6 0 lv hb28) ?_
              refine wa_goto (tgt := 70) F dX5_sample_61 (by decide) ?_
              refine wa_aload F dX5_sample_70 0 rfl ?_
              refine wa_getN (v := .int ((sU X 35 jv 0) 35 jv)) F LY_X1 (hm_bat (TC := TC) (X := (sU X 35 jv 0)) (S := S) (o := o) (lt_u lv) (le_u hb28)) 6 (by decide) fn_X5_198 rfl dX5_sample_72 ?_
              refine wa_iret F rfl (Nat.le_of_ble_eq_true rfl) (Nat.le_of_ble_eq_true rfl) dX5_sample_75 ?_
              have ek : kSa X (nI jv) b t d = 0 := by simp [kSa, c2, c11, c18, c27, c35, c52, ev]
              refine ⟨ek, ?_, rfl, ?_⟩
              · refine congrArg (fun z => some (Value.int z)) ?_
                rw [(show rSa b t d = 0 from by simp [rSa, c35, c52])]; simp [sU, upd]
              · refine congrArg (fun z => hall TC z S o) ?_
                unfold uSa; rw [ev, (show rSa b t d = 0 from by simp [rSa, c35, c52])]
          · skip
            refine wa_aload F dX5_sample_38 0 rfl ?_
            refine wa_iconst (v := 2) F dX5_sample_40 (by decide) ?_
            refine wa_putN F LY_X1 (hm_bat (TC := TC) (X := X) (S := S) (o := o) lv hb28) 6 (by decide) fn_X5_198 rfl rfl rfl (Nat.le_of_ble_eq_true rfl) dX5_sample_41 (pu_bat_6 2 lv hb28) ?_
            refine wa_goto (tgt := 70) F dX5_sample_44 (by decide) ?_
            refine wa_aload F dX5_sample_70 0 rfl ?_
            refine wa_getN (v := .int ((sU X 35 jv 2) 35 jv)) F LY_X1 (hm_bat (TC := TC) (X := (sU X 35 jv 2)) (S := S) (o := o) (lt_u lv) (le_u hb28)) 6 (by decide) fn_X5_198 rfl dX5_sample_72 ?_
            refine wa_iret F rfl (Nat.le_of_ble_eq_true rfl) (Nat.le_of_ble_eq_true rfl) dX5_sample_75 ?_
            have ek : kSa X (nI jv) b t d = 0 := by simp [kSa, c2, c11, c18, c27, c35, ev]
            refine ⟨ek, ?_, rfl, ?_⟩
            · refine congrArg (fun z => some (Value.int z)) ?_
              rw [(show rSa b t d = 2 from by simp [rSa, c35])]; simp [sU, upd]
            · refine congrArg (fun z => hall TC z S o) ?_
              unfold uSa; rw [ev, (show rSa b t d = 2 from by simp [rSa, c35])]
        · skip
          replace c27 : sIn d 0 10000 = false := Bool.eq_false_iff.mpr c27
          refine wa_callS F [] (c_X5_checkRange_no hst D (tysOf TC) H0 ad (hall TC X S o) d 0 10000 c27) mw_X5_checkRange ml_X5_39 rfl (Nat.le_of_ble_eq_true rfl) ⟨(Nat.le_of_ble_eq_true rfl), (Nat.le_of_ble_eq_true rfl)⟩ ⟨(Nat.le_of_ble_eq_true rfl), (Nat.le_of_ble_eq_true rfl)⟩ dX5_sample_27 (fun _ _ _ z => z.elim) (fun E hE => ?_) (fun _ _ _ z => z.elim)
          subst hE
          have ek : kSa X (nI jv) b t d = 2 := by simp [kSa, c2, c11, c18, c27, ev]
          exact wx_out F (Nat.le_of_ble_eq_true rfl) (Nat.le_of_ble_eq_true rfl) (Or.inr ⟨rfl, ek⟩) rfl rfl
      · skip
        replace c18 : sIn t 0 100000 = false := Bool.eq_false_iff.mpr c18
        refine wa_callS F [] (c_X5_checkRange_no hst D (tysOf TC) H0 ad (hall TC X S o) t 0 100000 c18) mw_X5_checkRange ml_X5_39 rfl (Nat.le_of_ble_eq_true rfl) ⟨(Nat.le_of_ble_eq_true rfl), (Nat.le_of_ble_eq_true rfl)⟩ ⟨(Nat.le_of_ble_eq_true rfl), (Nat.le_of_ble_eq_true rfl)⟩ dX5_sample_18 (fun _ _ _ z => z.elim) (fun E hE => ?_) (fun _ _ _ z => z.elim)
        subst hE
        have ek : kSa X (nI jv) b t d = 2 := by simp [kSa, c2, c11, c18, ev]
        exact wx_out F (Nat.le_of_ble_eq_true rfl) (Nat.le_of_ble_eq_true rfl) (Or.inr ⟨rfl, ek⟩) rfl rfl
    · skip
      replace c11 : sIn b 0 100000 = false := Bool.eq_false_iff.mpr c11
      refine wa_callS F [] (c_X5_checkRange_no hst D (tysOf TC) H0 ad (hall TC X S o) b 0 100000 c11) mw_X5_checkRange ml_X5_39 rfl (Nat.le_of_ble_eq_true rfl) ⟨(Nat.le_of_ble_eq_true rfl), (Nat.le_of_ble_eq_true rfl)⟩ ⟨(Nat.le_of_ble_eq_true rfl), (Nat.le_of_ble_eq_true rfl)⟩ dX5_sample_11 (fun _ _ _ z => z.elim) (fun E hE => ?_) (fun _ _ _ z => z.elim)
      subst hE
      have ek : kSa X (nI jv) b t d = 2 := by simp [kSa, c2, c11, ev]
      exact wx_out F (Nat.le_of_ble_eq_true rfl) (Nat.le_of_ble_eq_true rfl) (Or.inr ⟨rfl, ek⟩) rfl rfl
  · skip
    replace c2 : sIn v 0 (X 28 0 - 1) = false := Bool.eq_false_iff.mpr c2
    refine wa_callV F [] (c_X5_batchAt_no hst D TC H0 ad X S o v hmm.1 hb28 c2 (hall TC X S o) (fun _ _ z => z)) mw_X5_batchAt ml_X5_193 (hm_c (TC := TC) (X := X) (S := S) (o := o)) rfl rfl (Nat.le_of_ble_eq_true rfl) ⟨(Nat.le_of_ble_eq_true rfl), (Nat.le_of_ble_eq_true rfl)⟩ ⟨(Nat.le_of_ble_eq_true rfl), (Nat.le_of_ble_eq_true rfl)⟩ dX5_sample_2 (fun _ _ _ z => z.elim) (fun E hE => ?_) (fun _ _ _ z => z.elim)
    subst hE
    have ek : kSa X v b t d = 1 := by simp [kSa, c2]
    exact wx_out F (Nat.le_of_ble_eq_true rfl) (Nat.le_of_ble_eq_true rfl) (Or.inl ⟨rfl, ek⟩) rfl rfl
set_option maxHeartbeats 2000000 in
set_option maxRecDepth 20000 in
theorem c_X5_visit {l : Launch} (hst : l.stackTraces = false) (D : va_G) (TC : Nat → ClassId) (H0 : Heap) (ad : Nat → Nat) (X S : St) (o : Nat → Int64) (v : Int32) (q : Bool) (n : Nat) (hi : INV n X) : CC l D (tysOf TC) H0 yX5_visit cX5_visit 5 (some .boolean) 7 1 6 [.ref 0, .int v, .int (bI q)] ad (hall TC X S o) (PK (kVi X v) ad (some (.int (rVi X v q))) (hall TC (uVi v q X) S o)) (fun E => (E = "java/lang/IndexOutOfBoundsException" ∧ kVi X v = 1)) := by
  refine cc_intro hst (by decide +kernel) (Nat.le_of_ble_eq_true rfl) ?_
  intro p e s m args below meth c F
  rw [show lv_args 0 [.ref 0, .int v, .int (bI q)] = [(0, .ref 0), (1, .int v), (2, .int (bI q))] from rfl]
  obtain ⟨hc, hs, hpp, hd0, hmm, h7, h8, hbo, hu0, hvr⟩ := id hi
  obtain ⟨hvh, hday, hclo, h5, h12, h21, hze, h24, hrk, hbz⟩ := hvr
  have hb2 := hc.2; have hb9 := hs.2; have hb13 := hpp.2; have hb25 := hd0.2; have hb28 := hmm.2
  refine wa_aload_n F dX5_visit_0 (i := 0) rfl 0 rfl ?_
  refine wa_iload_n F dX5_visit_1 (i := 1) rfl 1 rfl ?_
  by_cases c2 : sIn v 0 (X 13 0 - 1) = true
  · skip
    obtain ⟨jv, lv, rfl⟩ := sIn_nat hpp.1 (by omega) c2
    have ev : tn (nI jv) = jv := tn_nI (by omega)
    refine wa_callV F [] (c_X5_productAt_ok hst D TC H0 ad X S o jv lv hb13 (hall TC X S o) (fun _ _ z => z)) mw_X5_productAt ml_X5_108 (hm_c (TC := TC) (X := X) (S := S) (o := o)) rfl rfl (Nat.le_of_ble_eq_true rfl) ⟨(Nat.le_of_ble_eq_true rfl), (Nat.le_of_ble_eq_true rfl)⟩ ⟨(Nat.le_of_ble_eq_true rfl), (Nat.le_of_ble_eq_true rfl)⟩ dX5_visit_2 PR_ag (fun _ z => z.elim) ?_
    rintro _ _ _ ⟨rfl, rfl, rfl⟩
    refine wa_astore_n (lv' := [(3, .ref (1200 + jv)), (0, .ref 0), (1, .int (nI jv)), (2, .int (bI q))]) F dX5_visit_5 (i := 3) rfl (by decide) rfl ?_
    refine wa_iload_n F dX5_visit_6 (i := 2) rfl 3 rfl ?_
    refine wa_if_eq (tgt := 20) F dX5_visit_7 (by decide) (fun c7 => ?_) (fun c7 => ?_)
    · skip
      replace c7 : q = false := bI_f c7
      refine wa_aload_n F dX5_visit_20 (i := 3) rfl 0 rfl ?_
      by_cases c21 : X 20 jv = -1
      · skip
        refine wa_getN (v := .null) F LY_X3 (hm_prd (TC := TC) (X := X) (S := S) (o := o) lv hb13) 7 (by decide) fn_X5_169 (congrArg some (cert_n c21)) dX5_visit_21 ?_
        refine wa_ifnullN (tgt := 31) F dX5_visit_24 (by decide) ?_
        refine wa_iconst (v := 0) F dX5_visit_31 (by decide) ?_
        refine wa_istore (lv' := [(4, .int 0), (3, .ref (1200 + jv)), (0, .ref 0), (1, .int (nI jv)), (2, .int (bI q))]) F dX5_visit_32 (by decide) rfl ?_
        refine wa_aload_n F dX5_visit_34 (i := 3) rfl 1 rfl ?_
        refine wa_callV F [] (c_X3_endCertificate hst D TC H0 ad X S o jv lv hb13) mw_X3_endCertificate ml_X5_184 (hm_prd (TC := TC) (X := X) (S := S) (o := o) lv hb13) rfl rfl (Nat.le_of_ble_eq_true rfl) ⟨Nat.le_of_ble_eq_true rfl, Nat.le_of_ble_eq_true rfl⟩ ⟨Nat.le_of_ble_eq_true rfl, Nat.le_of_ble_eq_true rfl⟩ dX5_visit_35 PR_ag (fun _ z => z.elim) ?_
        rintro _ _ _ ⟨rfl, rfl, rfl⟩
        refine wa_iload F dX5_visit_38 0 rfl ?_
        refine wa_iret F rfl (Nat.le_of_ble_eq_true rfl) (Nat.le_of_ble_eq_true rfl) dX5_visit_40 ?_
        have ek : kVi X (nI jv) = 0 := by simp [kVi, c2, c7, c21, ev]
        refine ⟨ek, ?_, rfl, ?_⟩
        · refine congrArg (fun z => some (Value.int z)) ?_
          unfold rVi eVi; rw [ev]; simp [bI, c7, c21]
        · refine congrArg (fun z => hall TC z S o) ?_
          unfold uVi eVi; rw [ev, c7]; simp [c21]; rw [sU_self (S := X) rfl]; try rw [h21 jv lv c21]
      · skip
        have hc21 : (X 20 jv).toNatClampNeg < cnt X 25 := ((hbo jv lv).resolve_left c21).2
        refine wa_getN (v := .ref (1300 + ((X 20 jv).toNatClampNeg))) F LY_X3 (hm_prd (TC := TC) (X := X) (S := S) (o := o) lv hb13) 7 (by decide) fn_X5_169 (congrArg some (cert_r c21)) dX5_visit_21 ?_
        refine wa_ifnull F dX5_visit_24 ?_
        refine wa_iconst (v := 1) F dX5_visit_27 (by decide) ?_
        refine wa_goto (tgt := 32) F dX5_visit_28 (by decide) ?_
        refine wa_istore (lv' := [(4, .int 1), (3, .ref (1200 + jv)), (0, .ref 0), (1, .int (nI jv)), (2, .int (bI q))]) F dX5_visit_32 (by decide) rfl ?_
        refine wa_aload_n F dX5_visit_34 (i := 3) rfl 1 rfl ?_
        refine wa_callV F [] (c_X3_endCertificate hst D TC H0 ad X S o jv lv hb13) mw_X3_endCertificate ml_X5_184 (hm_prd (TC := TC) (X := X) (S := S) (o := o) lv hb13) rfl rfl (Nat.le_of_ble_eq_true rfl) ⟨Nat.le_of_ble_eq_true rfl, Nat.le_of_ble_eq_true rfl⟩ ⟨Nat.le_of_ble_eq_true rfl, Nat.le_of_ble_eq_true rfl⟩ dX5_visit_35 PR_ag (fun _ z => z.elim) ?_
        rintro _ _ _ ⟨rfl, rfl, rfl⟩
        refine wa_iload F dX5_visit_38 0 rfl ?_
        refine wa_iret F rfl (Nat.le_of_ble_eq_true rfl) (Nat.le_of_ble_eq_true rfl) dX5_visit_40 ?_
        have ek : kVi X (nI jv) = 0 := by simp [kVi, c2, c7, c21, ev]
        refine ⟨ek, ?_, rfl, ?_⟩
        · refine congrArg (fun z => some (Value.int z)) ?_
          unfold rVi eVi; rw [ev]; simp [bI, c7, c21]
        · refine congrArg (fun z => hall TC z S o) ?_
          unfold uVi eVi; rw [ev, c7]; simp [c21]; rw [sU_self (S := X) rfl]; try rw [h21 jv lv c21]
    · skip
      replace c7 : q = true := bI_t c7
      refine wa_aload_n F dX5_visit_10 (i := 3) rfl 0 rfl ?_
      refine wa_aload_n F dX5_visit_11 (i := 0) rfl 1 rfl ?_
      refine wa_getf (v := .int (X 1 0)) F LY_X5 (hm_c (TC := TC) (X := X) (S := S) (o := o)) 10 (by decide) fl_X5_91 rfl dX5_visit_12 ?_
      refine wa_putN F LY_X3 (hm_prd (TC := TC) (X := X) (S := S) (o := o) lv hb13) 9 (by decide) fn_X5_181 rfl rfl rfl (Nat.le_of_ble_eq_true rfl) dX5_visit_15 (pu_prd_9 (X 1 0) lv hb13) ?_
      refine wa_iconst (v := 0) F dX5_visit_18 (by decide) ?_
      refine wa_iret F rfl (Nat.le_of_ble_eq_true rfl) (Nat.le_of_ble_eq_true rfl) dX5_visit_19 ?_
      have ek : kVi X (nI jv) = 0 := by simp [kVi, c2, c7, ev]
      refine ⟨ek, ?_, rfl, ?_⟩
      · refine congrArg (fun z => some (Value.int z)) ?_
        unfold rVi eVi; rw [ev]; simp [bI, c7]
      · refine congrArg (fun z => hall TC z S o) ?_
        unfold uVi eVi; rw [ev, c7]; simp; rw [sU_self (f := 21) (by rfl), sU_self (f := 20) (by rfl)]
  · skip
    replace c2 : sIn v 0 (X 13 0 - 1) = false := Bool.eq_false_iff.mpr c2
    refine wa_callV F [] (c_X5_productAt_no hst D TC H0 ad X S o v hpp.1 hb13 c2 (hall TC X S o) (fun _ _ z => z)) mw_X5_productAt ml_X5_108 (hm_c (TC := TC) (X := X) (S := S) (o := o)) rfl rfl (Nat.le_of_ble_eq_true rfl) ⟨(Nat.le_of_ble_eq_true rfl), (Nat.le_of_ble_eq_true rfl)⟩ ⟨(Nat.le_of_ble_eq_true rfl), (Nat.le_of_ble_eq_true rfl)⟩ dX5_visit_2 (fun _ _ _ z => z.elim) (fun E hE => ?_) (fun _ _ _ z => z.elim)
    subst hE
    have ek : kVi X v = 1 := by simp [kVi, c2]
    exact wx_out F (Nat.le_of_ble_eq_true rfl) (Nat.le_of_ble_eq_true rfl) ⟨rfl, ek⟩ rfl rfl
set_option maxHeartbeats 2000000 in
set_option maxRecDepth 20000 in
theorem c_X5_certify {l : Launch} (hst : l.stackTraces = false) (D : va_G) (TC : Nat → ClassId) (H0 : Heap) (ad : Nat → Nat) (X S : St) (o : Nat → Int64) (b : Int32) (v : Int32) (d : Int32) (n : Nat) (hi : INV n X) : CC l D (tysOf TC) H0 yX5_certify cX5_certify 7 (some .int) 7 1 6 [.ref 0, .int b, .int v, .int d] ad (hall TC X S o) (PK (kCe X b v d) ad (some (.int (rCe X d))) (hall TC (uCe b v d X) S o)) (fun E => (E = "java/lang/IndexOutOfBoundsException" ∧ kCe X b v d = 1) ∨ (E = "java/lang/IllegalArgumentException" ∧ kCe X b v d = 2) ∨ (E = "java/lang/IllegalStateException" ∧ kCe X b v d = 3)) := by
  refine cc_intro hst (by decide +kernel) (Nat.le_of_ble_eq_true rfl) ?_
  intro p e s m args below meth c F
  rw [show lv_args 0 [.ref 0, .int b, .int v, .int d] = [(0, .ref 0), (1, .int b), (2, .int v), (3, .int d)] from rfl]
  obtain ⟨hc, hs, hpp, hd0, hmm, h7, h8, hbo, hu0, hvr⟩ := id hi
  obtain ⟨hvh, hday, hclo, h5, h12, h21, hze, h24, hrk, hbz⟩ := hvr
  have hb2 := hc.2; have hb9 := hs.2; have hb13 := hpp.2; have hb25 := hd0.2; have hb28 := hmm.2
  refine wa_aload_n F dX5_certify_0 (i := 0) rfl 0 rfl ?_
  refine wa_iload_n F dX5_certify_1 (i := 1) rfl 1 rfl ?_
  by_cases c2 : sIn b 0 (X 25 0 - 1) = true
  · skip
    obtain ⟨jb, lb, rfl⟩ := sIn_nat hd0.1 (by omega) c2
    have eb : tn (nI jb) = jb := tn_nI (by omega)
    refine wa_callV F [] (c_X5_bodyAt_ok hst D TC H0 ad X S o jb lb hb25 (hall TC X S o) (fun _ _ z => z)) mw_X5_bodyAt ml_X5_152 (hm_c (TC := TC) (X := X) (S := S) (o := o)) rfl rfl (Nat.le_of_ble_eq_true rfl) ⟨(Nat.le_of_ble_eq_true rfl), (Nat.le_of_ble_eq_true rfl)⟩ ⟨(Nat.le_of_ble_eq_true rfl), (Nat.le_of_ble_eq_true rfl)⟩ dX5_certify_2 PR_ag (fun _ z => z.elim) ?_
    rintro _ _ _ ⟨rfl, rfl, rfl⟩
    refine wa_astore (lv' := [(4, .ref (1300 + jb)), (0, .ref 0), (1, .int (nI jb)), (2, .int v), (3, .int d)]) F dX5_certify_5 (by decide) rfl ?_
    refine wa_aload_n F dX5_certify_7 (i := 0) rfl 1 rfl ?_
    refine wa_iload_n F dX5_certify_8 (i := 2) rfl 3 rfl ?_
    by_cases c9 : sIn v 0 (X 13 0 - 1) = true
    · skip
      obtain ⟨jv, lv, rfl⟩ := sIn_nat hpp.1 (by omega) c9
      have ev : tn (nI jv) = jv := tn_nI (by omega)
      refine wa_callV F [] (c_X5_productAt_ok hst D TC H0 ad X S o jv lv hb13 (hall TC X S o) (fun _ _ z => z)) mw_X5_productAt ml_X5_108 (hm_c (TC := TC) (X := X) (S := S) (o := o)) rfl rfl (Nat.le_of_ble_eq_true rfl) ⟨(Nat.le_of_ble_eq_true rfl), (Nat.le_of_ble_eq_true rfl)⟩ ⟨(Nat.le_of_ble_eq_true rfl), (Nat.le_of_ble_eq_true rfl)⟩ dX5_certify_9 PR_ag (fun _ z => z.elim) ?_
      rintro _ _ _ ⟨rfl, rfl, rfl⟩
      refine wa_astore (lv' := [(5, .ref (1200 + jv)), (4, .ref (1300 + jb)), (0, .ref 0), (1, .int (nI jb)), (2, .int (nI jv)), (3, .int d)]) F dX5_certify_12 (by decide) rfl ?_
      refine wa_iload_n F dX5_certify_14 (i := 3) rfl 5 rfl ?_
      refine wa_iconst (v := 1) F dX5_certify_15 (by decide) ?_
      refine wa_sipush (v := 1000) F dX5_certify_16 (by decide) ?_
      by_cases c19 : sIn d 1 1000 = true
      · skip
        refine wa_callS F [] (c_X5_checkRange_ok hst D (tysOf TC) H0 ad (hall TC X S o) d 1 1000 c19) mw_X5_checkRange ml_X5_39 rfl (Nat.le_of_ble_eq_true rfl) ⟨(Nat.le_of_ble_eq_true rfl), (Nat.le_of_ble_eq_true rfl)⟩ ⟨(Nat.le_of_ble_eq_true rfl), (Nat.le_of_ble_eq_true rfl)⟩ dX5_certify_19 PR_ag (fun _ z => z.elim) ?_
        rintro _ _ _ ⟨rfl, rfl, rfl⟩
        refine wa_aload_n F dX5_certify_22 (i := 0) rfl 2 rfl ?_
        refine wa_aload F dX5_certify_23 1 rfl ?_
        refine wa_aload F dX5_certify_25 0 rfl ?_
        by_cases c27 : X 27 jb = -1 ∧ sScope X jb jv = true
        · skip
          refine wa_callV F [] (c_X5_checkMayCertify_ok hst D TC H0 ad X S o jb lb jv lv _ hi c27 (hall TC X S o) (fun _ _ z => z)) mw_X5_checkMayCertify ml_X5_163 (hm_c (TC := TC) (X := X) (S := S) (o := o)) rfl rfl (Nat.le_of_ble_eq_true rfl) ⟨(Nat.le_of_ble_eq_true rfl), (Nat.le_of_ble_eq_true rfl)⟩ ⟨(Nat.le_of_ble_eq_true rfl), (Nat.le_of_ble_eq_true rfl)⟩ dX5_certify_27 PR_ag (fun _ z => z.elim) ?_
          rintro _ _ _ ⟨rfl, rfl, rfl⟩
          refine wa_aload_n F dX5_certify_30 (i := 0) rfl 2 rfl ?_
          refine wa_aload F dX5_certify_31 0 rfl ?_
          refine wa_callV F [] (c_X5_firstLack hst D TC H0 ad X S o jv lv _ hi (hall TC X S o) (fun _ _ z => z)) mw_X5_firstLack ml_X5_137 (hm_c (TC := TC) (X := X) (S := S) (o := o)) rfl rfl (Nat.le_of_ble_eq_true rfl) ⟨Nat.le_of_ble_eq_true rfl, Nat.le_of_ble_eq_true rfl⟩ ⟨Nat.le_of_ble_eq_true rfl, Nat.le_of_ble_eq_true rfl⟩ dX5_certify_33 PR_ag (fun _ z => z.elim) ?_
          rintro _ _ _ ⟨rfl, rfl, rfl⟩
          refine wa_istore (lv' := [(6, .int (sWant X jv)), (5, .ref (1200 + jv)), (4, .ref (1300 + jb)), (0, .ref 0), (1, .int (nI jb)), (2, .int (nI jv)), (3, .int d)]) F dX5_certify_36 (by decide) rfl ?_
          refine wa_iload F dX5_certify_38 0 rfl ?_
          refine wa_iconst (v := 1) F dX5_certify_40 (by decide) ?_
          refine wa_icmp_eq (tgt := 56) F dX5_certify_41 (by decide) (fun c41 => ?_) (fun c41 => ?_)
          · skip
            have ek : kCe X (nI jb) (nI jv) d = 3 := by unfold kCe; rw [eb, ev, c2, c9, c19]; simp only [Bool.and_self, if_true]; rw [if_neg (fun z => want_in (Or.inl c41) z.2.2)]
            exact wa_throwS F ft_IS cl_X5_47 in_IS sr_X5_167 at_IS gd_IS dX5_certify_56 dX5_certify_59 dX5_certify_60 dX5_certify_62 dX5_certify_65 (Nat.le_of_ble_eq_true rfl) (Nat.le_of_ble_eq_true rfl) (Nat.le_of_ble_eq_true rfl) (Nat.le_of_ble_eq_true rfl) (Nat.le_of_ble_eq_true rfl) (Nat.le_of_ble_eq_true rfl) (Nat.le_of_ble_eq_true rfl) (Or.inr (Or.inr ⟨rfl, ek⟩)) rfl rfl
          · skip
            refine wa_iload F dX5_certify_44 0 rfl ?_
            refine wa_iconst (v := 2) F dX5_certify_46 (by decide) ?_
            refine wa_icmp_eq (tgt := 56) F dX5_certify_47 (by decide) (fun c47 => ?_) (fun c47 => ?_)
            · skip
              have ek : kCe X (nI jb) (nI jv) d = 3 := by unfold kCe; rw [eb, ev, c2, c9, c19]; simp only [Bool.and_self, if_true]; rw [if_neg (fun z => want_in (Or.inr (Or.inl c47)) z.2.2)]
              exact wa_throwS F ft_IS cl_X5_47 in_IS sr_X5_167 at_IS gd_IS dX5_certify_56 dX5_certify_59 dX5_certify_60 dX5_certify_62 dX5_certify_65 (Nat.le_of_ble_eq_true rfl) (Nat.le_of_ble_eq_true rfl) (Nat.le_of_ble_eq_true rfl) (Nat.le_of_ble_eq_true rfl) (Nat.le_of_ble_eq_true rfl) (Nat.le_of_ble_eq_true rfl) (Nat.le_of_ble_eq_true rfl) (Or.inr (Or.inr ⟨rfl, ek⟩)) rfl rfl
            · skip
              refine wa_iload F dX5_certify_50 0 rfl ?_
              refine wa_iconst (v := 3) F dX5_certify_52 (by decide) ?_
              refine wa_icmp_ne (tgt := 66) F dX5_certify_53 (by decide) (fun c53 => ?_) (fun c53 => ?_)
              · skip
                refine wa_aload F dX5_certify_66 1 rfl ?_
                refine wa_aload F dX5_certify_68 2 rfl ?_
                refine wa_putN F LY_X3 (hm_prd (TC := TC) (X := X) (S := S) (o := o) lv hb13) 7 (by decide) fn_X5_169 rfl rfl rfl (Nat.le_of_ble_eq_true rfl) dX5_certify_70 (pu_prd_7 (nI jb) (.ref (1300 + jb)) (cert_of (by omega)) lv hb13) ?_
                refine wa_aload F dX5_certify_73 1 rfl ?_
                refine wa_aload_n F dX5_certify_75 (i := 0) rfl 3 rfl ?_
                refine wa_getf (v := .int ((sU X 20 jv (nI jb)) 1 0)) F LY_X5 (hm_c (TC := TC) (X := (sU X 20 jv (nI jb))) (S := S) (o := o)) 10 (by decide) fl_X5_91 rfl dX5_certify_76 ?_
                refine wa_iload_n F dX5_certify_79 (i := 3) rfl 6 rfl ?_
                refine wa_iadd F dX5_certify_80 ?_
                refine wa_putN F LY_X3 (hm_prd (TC := TC) (X := (sU X 20 jv (nI jb))) (S := S) (o := o) (lt_u lv) (le_u hb13)) 8 (by decide) fn_X5_173 rfl rfl rfl (Nat.le_of_ble_eq_true rfl) dX5_certify_81 (pu_prd_8 (((sU X 20 jv (nI jb)) 1 0) + d) (lt_u lv) (le_u hb13)) ?_
                refine wa_aload F dX5_certify_84 1 rfl ?_
                refine wa_getN (v := .int ((sU (sU X 20 jv (nI jb)) 21 jv (((sU X 20 jv (nI jb)) 1 0) + d)) 21 jv)) F LY_X3 (hm_prd (TC := TC) (X := (sU (sU X 20 jv (nI jb)) 21 jv (((sU X 20 jv (nI jb)) 1 0) + d))) (S := S) (o := o) (lt_u (lt_u lv)) (le_u (le_u hb13))) 8 (by decide) fn_X5_173 rfl dX5_certify_86 ?_
                refine wa_iret F rfl (Nat.le_of_ble_eq_true rfl) (Nat.le_of_ble_eq_true rfl) dX5_certify_89 ?_
                have ek : kCe X (nI jb) (nI jv) d = 0 := by unfold kCe; rw [eb, ev, c2, c9, c19]; simp only [Bool.and_self, if_true]; rw [if_pos ⟨c27.1, c27.2, want_13 c41 c47 c53⟩]
                refine ⟨ek, ?_, rfl, ?_⟩
                · refine congrArg (fun z => some (Value.int z)) ?_
                  unfold rCe; simp [sU, upd]
                · refine congrArg (fun z => hall TC z S o) ?_
                  unfold uCe; rw [ev]; rfl
              · skip
                have ek : kCe X (nI jb) (nI jv) d = 3 := by unfold kCe; rw [eb, ev, c2, c9, c19]; simp only [Bool.and_self, if_true]; rw [if_neg (fun z => want_in (Or.inr (Or.inr c53)) z.2.2)]
                exact wa_throwS F ft_IS cl_X5_47 in_IS sr_X5_167 at_IS gd_IS dX5_certify_56 dX5_certify_59 dX5_certify_60 dX5_certify_62 dX5_certify_65 (Nat.le_of_ble_eq_true rfl) (Nat.le_of_ble_eq_true rfl) (Nat.le_of_ble_eq_true rfl) (Nat.le_of_ble_eq_true rfl) (Nat.le_of_ble_eq_true rfl) (Nat.le_of_ble_eq_true rfl) (Nat.le_of_ble_eq_true rfl) (Or.inr (Or.inr ⟨rfl, ek⟩)) rfl rfl
        · skip
          refine wa_callV F [] (c_X5_checkMayCertify_no hst D TC H0 ad X S o jb lb jv lv _ hi c27 (hall TC X S o) (fun _ _ z => z)) mw_X5_checkMayCertify ml_X5_163 (hm_c (TC := TC) (X := X) (S := S) (o := o)) rfl rfl (Nat.le_of_ble_eq_true rfl) ⟨(Nat.le_of_ble_eq_true rfl), (Nat.le_of_ble_eq_true rfl)⟩ ⟨(Nat.le_of_ble_eq_true rfl), (Nat.le_of_ble_eq_true rfl)⟩ dX5_certify_27 (fun _ _ _ z => z.elim) (fun E hE => ?_) (fun _ _ _ z => z.elim)
          subst hE
          have ek : kCe X (nI jb) (nI jv) d = 3 := by have z : ¬ (X 27 jb = -1 ∧ sScope X jb jv = true ∧ sIn (sWant X jv) 1 3 = false) := fun z => c27 ⟨z.1, z.2.1⟩; simp [kCe, c2, c9, c19, eb, ev, z]
          exact wx_out F (Nat.le_of_ble_eq_true rfl) (Nat.le_of_ble_eq_true rfl) (Or.inr (Or.inr ⟨rfl, ek⟩)) rfl rfl
      · skip
        replace c19 : sIn d 1 1000 = false := Bool.eq_false_iff.mpr c19
        refine wa_callS F [] (c_X5_checkRange_no hst D (tysOf TC) H0 ad (hall TC X S o) d 1 1000 c19) mw_X5_checkRange ml_X5_39 rfl (Nat.le_of_ble_eq_true rfl) ⟨(Nat.le_of_ble_eq_true rfl), (Nat.le_of_ble_eq_true rfl)⟩ ⟨(Nat.le_of_ble_eq_true rfl), (Nat.le_of_ble_eq_true rfl)⟩ dX5_certify_19 (fun _ _ _ z => z.elim) (fun E hE => ?_) (fun _ _ _ z => z.elim)
        subst hE
        have ek : kCe X (nI jb) (nI jv) d = 2 := by simp [kCe, c2, c9, c19, eb, ev]
        exact wx_out F (Nat.le_of_ble_eq_true rfl) (Nat.le_of_ble_eq_true rfl) (Or.inr (Or.inl ⟨rfl, ek⟩)) rfl rfl
    · skip
      replace c9 : sIn v 0 (X 13 0 - 1) = false := Bool.eq_false_iff.mpr c9
      refine wa_callV F [] (c_X5_productAt_no hst D TC H0 ad X S o v hpp.1 hb13 c9 (hall TC X S o) (fun _ _ z => z)) mw_X5_productAt ml_X5_108 (hm_c (TC := TC) (X := X) (S := S) (o := o)) rfl rfl (Nat.le_of_ble_eq_true rfl) ⟨(Nat.le_of_ble_eq_true rfl), (Nat.le_of_ble_eq_true rfl)⟩ ⟨(Nat.le_of_ble_eq_true rfl), (Nat.le_of_ble_eq_true rfl)⟩ dX5_certify_9 (fun _ _ _ z => z.elim) (fun E hE => ?_) (fun _ _ _ z => z.elim)
      subst hE
      have ek : kCe X (nI jb) v d = 1 := by simp [kCe, c2, c9, eb]
      exact wx_out F (Nat.le_of_ble_eq_true rfl) (Nat.le_of_ble_eq_true rfl) (Or.inl ⟨rfl, ek⟩) rfl rfl
  · skip
    replace c2 : sIn b 0 (X 25 0 - 1) = false := Bool.eq_false_iff.mpr c2
    refine wa_callV F [] (c_X5_bodyAt_no hst D TC H0 ad X S o b hd0.1 hb25 c2 (hall TC X S o) (fun _ _ z => z)) mw_X5_bodyAt ml_X5_152 (hm_c (TC := TC) (X := X) (S := S) (o := o)) rfl rfl (Nat.le_of_ble_eq_true rfl) ⟨(Nat.le_of_ble_eq_true rfl), (Nat.le_of_ble_eq_true rfl)⟩ ⟨(Nat.le_of_ble_eq_true rfl), (Nat.le_of_ble_eq_true rfl)⟩ dX5_certify_2 (fun _ _ _ z => z.elim) (fun E hE => ?_) (fun _ _ _ z => z.elim)
    subst hE
    have ek : kCe X b v d = 1 := by simp [kCe, c2]
    exact wx_out F (Nat.le_of_ble_eq_true rfl) (Nat.le_of_ble_eq_true rfl) (Or.inl ⟨rfl, ek⟩) rfl rfl
set_option maxHeartbeats 2000000 in
set_option maxRecDepth 20000 in
theorem c_X5_applies {l : Launch} (hst : l.stackTraces = false) (D : va_G) (TC : Nat → ClassId) (H0 : Heap) (ad : Nat → Nat) (X S : St) (o : Nat → Int64) (a : Int32) (v : Int32) (n : Nat) (hi : INV n X) : CC l D (tysOf TC) H0 yX5_applies cX5_applies 3 (some .boolean) 7 1 6 [.ref 0, .int a, .int v] ad (hall TC X S o) (PK (kAp X a v) ad (some (.int (rAp X a v))) (hall TC X S o)) (fun E => (E = "java/lang/IndexOutOfBoundsException" ∧ kAp X a v = 1)) := by
  refine cc_intro hst (by decide +kernel) (Nat.le_of_ble_eq_true rfl) ?_
  intro p e s m args below meth c F
  rw [show lv_args 0 [.ref 0, .int a, .int v] = [(0, .ref 0), (1, .int a), (2, .int v)] from rfl]
  obtain ⟨hc, hs, hpp, hd0, hmm, h7, h8, hbo, hu0, hvr⟩ := id hi
  obtain ⟨hvh, hday, hclo, h5, h12, h21, hze, h24, hrk, hbz⟩ := hvr
  have hb2 := hc.2; have hb9 := hs.2; have hb13 := hpp.2; have hb25 := hd0.2; have hb28 := hmm.2
  refine wa_aload_n F dX5_applies_0 (i := 0) rfl 0 rfl ?_
  refine wa_iload_n F dX5_applies_1 (i := 1) rfl 1 rfl ?_
  by_cases c2 : sIn a 0 (X 2 0 - 1) = true
  · skip
    obtain ⟨ja, la, rfl⟩ := sIn_nat hc.1 (by omega) c2
    have ea : tn (nI ja) = ja := tn_nI (by omega)
    refine wa_callV F [] (c_X5_actAt_ok hst D TC H0 ad X S o ja la hb2 (hall TC X S o) (fun _ _ z => z)) mw_X5_actAt ml_X5_57 (hm_c (TC := TC) (X := X) (S := S) (o := o)) rfl rfl (Nat.le_of_ble_eq_true rfl) ⟨(Nat.le_of_ble_eq_true rfl), (Nat.le_of_ble_eq_true rfl)⟩ ⟨(Nat.le_of_ble_eq_true rfl), (Nat.le_of_ble_eq_true rfl)⟩ dX5_applies_2 PR_ag (fun _ z => z.elim) ?_
    rintro _ _ _ ⟨rfl, rfl, rfl⟩
    refine wa_pop F dX5_applies_5 rfl ?_
    refine wa_aload_n F dX5_applies_6 (i := 0) rfl 0 rfl ?_
    refine wa_aload_n F dX5_applies_7 (i := 0) rfl 0 rfl ?_
    refine wa_iload_n F dX5_applies_8 (i := 2) rfl 2 rfl ?_
    by_cases c9 : sIn v 0 (X 13 0 - 1) = true
    · skip
      obtain ⟨jv, lv, rfl⟩ := sIn_nat hpp.1 (by omega) c9
      have ev : tn (nI jv) = jv := tn_nI (by omega)
      refine wa_callV F [.ref 0] (c_X5_productAt_ok hst D TC H0 ad X S o jv lv hb13 (hall TC X S o) (fun _ _ z => z)) mw_X5_productAt ml_X5_108 (hm_c (TC := TC) (X := X) (S := S) (o := o)) rfl rfl (Nat.le_of_ble_eq_true rfl) ⟨(Nat.le_of_ble_eq_true rfl), (Nat.le_of_ble_eq_true rfl)⟩ ⟨(Nat.le_of_ble_eq_true rfl), (Nat.le_of_ble_eq_true rfl)⟩ dX5_applies_9 PR_ag (fun _ z => z.elim) ?_
      rintro _ _ _ ⟨rfl, rfl, rfl⟩
      refine wa_callV F [] (c_X5_actsApplyingTo hst D TC H0 ad X S o jv lv _ hi (hall TC X S o) (fun _ _ z => z)) mw_X5_actsApplyingTo ml_X5_245 (hm_c (TC := TC) (X := X) (S := S) (o := o)) rfl rfl (Nat.le_of_ble_eq_true rfl) ⟨Nat.le_of_ble_eq_true rfl, Nat.le_of_ble_eq_true rfl⟩ ⟨Nat.le_of_ble_eq_true rfl, Nat.le_of_ble_eq_true rfl⟩ dX5_applies_12 PR_ag (fun _ z => z.elim) ?_
      rintro _ _ _ ⟨rfl, rfl, rfl⟩
      refine wa_iload_n F dX5_applies_15 (i := 1) rfl 1 rfl ?_
      refine wa_callS F [] (c_X5_hasBit hst D (tysOf TC) H0 ad (hall TC X S o) (sAppl X jv) (nI ja)) mw_X5_hasBit ml_X5_70 rfl (Nat.le_of_ble_eq_true rfl) ⟨Nat.le_of_ble_eq_true rfl, Nat.le_of_ble_eq_true rfl⟩ ⟨Nat.le_of_ble_eq_true rfl, Nat.le_of_ble_eq_true rfl⟩ dX5_applies_16 PR_ag (fun _ z => z.elim) ?_
      rintro _ _ _ ⟨rfl, rfl, rfl⟩
      refine wa_iret F (narrow_bI (hB (sAppl X jv) (nI ja))) (Nat.le_of_ble_eq_true rfl) (Nat.le_of_ble_eq_true rfl) dX5_applies_19 ?_
      have ek : kAp X (nI ja) (nI jv) = 0 := by simp [kAp, c2, c9, ea, ev]
      refine ⟨ek, ?_, rfl, ?_⟩
      · refine congrArg (fun z => some (Value.int z)) ?_
        unfold rAp; rw [ea, ev, hB_gb _ (by omega), gb_sAppl hb2 jv (by omega), decide_eq_true la, Bool.true_and]
      · rfl
    · skip
      replace c9 : sIn v 0 (X 13 0 - 1) = false := Bool.eq_false_iff.mpr c9
      refine wa_callV F [.ref 0] (c_X5_productAt_no hst D TC H0 ad X S o v hpp.1 hb13 c9 (hall TC X S o) (fun _ _ z => z)) mw_X5_productAt ml_X5_108 (hm_c (TC := TC) (X := X) (S := S) (o := o)) rfl rfl (Nat.le_of_ble_eq_true rfl) ⟨(Nat.le_of_ble_eq_true rfl), (Nat.le_of_ble_eq_true rfl)⟩ ⟨(Nat.le_of_ble_eq_true rfl), (Nat.le_of_ble_eq_true rfl)⟩ dX5_applies_9 (fun _ _ _ z => z.elim) (fun E hE => ?_) (fun _ _ _ z => z.elim)
      subst hE
      have ek : kAp X (nI ja) v = 1 := by simp [kAp, c2, c9, ea]
      exact wx_out F (Nat.le_of_ble_eq_true rfl) (Nat.le_of_ble_eq_true rfl) ⟨rfl, ek⟩ rfl rfl
  · skip
    replace c2 : sIn a 0 (X 2 0 - 1) = false := Bool.eq_false_iff.mpr c2
    refine wa_callV F [] (c_X5_actAt_no hst D TC H0 ad X S o a hc.1 hb2 c2 (hall TC X S o) (fun _ _ z => z)) mw_X5_actAt ml_X5_57 (hm_c (TC := TC) (X := X) (S := S) (o := o)) rfl rfl (Nat.le_of_ble_eq_true rfl) ⟨(Nat.le_of_ble_eq_true rfl), (Nat.le_of_ble_eq_true rfl)⟩ ⟨(Nat.le_of_ble_eq_true rfl), (Nat.le_of_ble_eq_true rfl)⟩ dX5_applies_2 (fun _ _ _ z => z.elim) (fun E hE => ?_) (fun _ _ _ z => z.elim)
    subst hE
    have ek : kAp X a v = 1 := by simp [kAp, c2]
    exact wx_out F (Nat.le_of_ble_eq_true rfl) (Nat.le_of_ble_eq_true rfl) ⟨rfl, ek⟩ rfl rfl
set_option maxHeartbeats 2000000 in
set_option maxRecDepth 20000 in
theorem c_X5_event {l : Launch} (hst : l.stackTraces = false) (D : va_G) (TC : Nat → ClassId) (H0 : Heap) (ad : Nat → Nat) (X S : St) (o : Nat → Int64) (v : Int32) (g : Int32) (b : Int32) (n : Nat) (hi : INV n X) (hn512 : n < 512) : CC l D (tysOf TC) H0 yX5_event cX5_event 5 (some .int) 7 1 6 [.ref 0, .int v, .int g, .int b] ad (hall TC X S o) (PK (kEv X v g b) ad (some (.int (rEv X v g b))) (hall TC (uEv v g b X) S o)) (fun E => (E = "java/lang/IndexOutOfBoundsException" ∧ kEv X v g b = 1) ∨ (E = "java/lang/IllegalArgumentException" ∧ kEv X v g b = 2)) := by
  refine cc_intro hst (by decide +kernel) (Nat.le_of_ble_eq_true rfl) ?_
  intro p e s m args below meth c F
  rw [show lv_args 0 [.ref 0, .int v, .int g, .int b] = [(0, .ref 0), (1, .int v), (2, .int g), (3, .int b)] from rfl]
  obtain ⟨hc, hs, hpp, hd0, hmm, h7, h8, hbo, hu0, hvr⟩ := id hi
  obtain ⟨hvh, hday, hclo, h5, h12, h21, hze, h24, hrk, hbz⟩ := hvr
  have hb2 := hc.2; have hb9 := hs.2; have hb13 := hpp.2; have hb25 := hd0.2; have hb28 := hmm.2
  refine wa_aload_n F dX5_event_0 (i := 0) rfl 0 rfl ?_
  refine wa_iload_n F dX5_event_1 (i := 1) rfl 1 rfl ?_
  by_cases c2 : sIn v 0 (X 28 0 - 1) = true
  · skip
    obtain ⟨jv, lv, rfl⟩ := sIn_nat hmm.1 (by omega) c2
    have ev : tn (nI jv) = jv := tn_nI (by omega)
    refine wa_callV F [] (c_X5_batchAt_ok hst D TC H0 ad X S o jv lv hb28 (hall TC X S o) (fun _ _ z => z)) mw_X5_batchAt ml_X5_193 (hm_c (TC := TC) (X := X) (S := S) (o := o)) rfl rfl (Nat.le_of_ble_eq_true rfl) ⟨(Nat.le_of_ble_eq_true rfl), (Nat.le_of_ble_eq_true rfl)⟩ ⟨(Nat.le_of_ble_eq_true rfl), (Nat.le_of_ble_eq_true rfl)⟩ dX5_event_2 PR_ag (fun _ z => z.elim) ?_
    rintro _ _ _ ⟨rfl, rfl, rfl⟩
    refine wa_astore (lv' := [(4, .ref (1400 + jv)), (0, .ref 0), (1, .int (nI jv)), (2, .int g), (3, .int b)]) F dX5_event_5 (by decide) rfl ?_
    refine wa_iload_n F dX5_event_7 (i := 2) rfl 3 rfl ?_
    refine wa_iconst (v := 0) F dX5_event_8 (by decide) ?_
    refine wa_iconst (v := 3) F dX5_event_9 (by decide) ?_
    by_cases c10 : sIn g 0 3 = true
    · skip
      refine wa_callS F [] (c_X5_checkRange_ok hst D (tysOf TC) H0 ad (hall TC X S o) g 0 3 c10) mw_X5_checkRange ml_X5_39 rfl (Nat.le_of_ble_eq_true rfl) ⟨(Nat.le_of_ble_eq_true rfl), (Nat.le_of_ble_eq_true rfl)⟩ ⟨(Nat.le_of_ble_eq_true rfl), (Nat.le_of_ble_eq_true rfl)⟩ dX5_event_10 PR_ag (fun _ z => z.elim) ?_
      rintro _ _ _ ⟨rfl, rfl, rfl⟩
      refine wa_iload_n F dX5_event_13 (i := 3) rfl 4 rfl ?_
      refine wa_iconst (v := 1) F dX5_event_14 (by decide) ?_
      refine wa_sipush (v := 1000) F dX5_event_15 (by decide) ?_
      by_cases c18 : sIn b 1 1000 = true
      · skip
        refine wa_callS F [] (c_X5_checkRange_ok hst D (tysOf TC) H0 ad (hall TC X S o) b 1 1000 c18) mw_X5_checkRange ml_X5_39 rfl (Nat.le_of_ble_eq_true rfl) ⟨(Nat.le_of_ble_eq_true rfl), (Nat.le_of_ble_eq_true rfl)⟩ ⟨(Nat.le_of_ble_eq_true rfl), (Nat.le_of_ble_eq_true rfl)⟩ dX5_event_18 PR_ag (fun _ z => z.elim) ?_
        rintro _ _ _ ⟨rfl, rfl, rfl⟩
        refine wa_aload F dX5_event_21 0 rfl ?_
        refine wa_aload F dX5_event_23 0 rfl ?_
        refine wa_getN (v := .int (X 36 jv)) F LY_X1 (hm_bat (TC := TC) (X := X) (S := S) (o := o) lv hb28) 7 (by decide) fn_X5_201 rfl dX5_event_25 ?_
        refine wa_iload_n F dX5_event_28 (i := 2) rfl 3 rfl ?_
        refine wa_max F ml_X5_204 w_mx1 in_Math w_mx2 ⟨Nat.le_of_ble_eq_true rfl, Nat.le_of_ble_eq_true rfl⟩ (Nat.le_of_ble_eq_true rfl) ⟨Nat.le_of_ble_eq_true rfl, Nat.le_of_ble_eq_true rfl⟩ dX5_event_29 ?_
        refine wa_putN F LY_X1 (hm_bat (TC := TC) (X := X) (S := S) (o := o) lv hb28) 7 (by decide) fn_X5_201 rfl rfl rfl (Nat.le_of_ble_eq_true rfl) dX5_event_32 (pu_bat_7 (if (X 36 jv) < g then g else (X 36 jv)) lv hb28) ?_
        refine wa_aload F dX5_event_35 0 rfl ?_
        refine wa_dup F dX5_event_37 rfl ?_
        refine wa_getN (v := .int ((sU X 36 jv (if (X 36 jv) < g then g else (X 36 jv))) 37 jv)) F LY_X1 (hm_bat (TC := TC) (X := (sU X 36 jv (if (X 36 jv) < g then g else (X 36 jv)))) (S := S) (o := o) (lt_u lv) (le_u hb28)) 8 (by decide) fn_X5_210 rfl dX5_event_38 ?_
        refine wa_iload_n F dX5_event_41 (i := 3) rfl 4 rfl ?_
        refine wa_iadd F dX5_event_42 ?_
        refine wa_putN F LY_X1 (hm_bat (TC := TC) (X := (sU X 36 jv (if (X 36 jv) < g then g else (X 36 jv)))) (S := S) (o := o) (lt_u lv) (le_u hb28)) 8 (by decide) fn_X5_210 rfl rfl rfl (Nat.le_of_ble_eq_true rfl) dX5_event_43 (pu_bat_8 (((sU X 36 jv (if (X 36 jv) < g then g else (X 36 jv))) 37 jv) + b) (lt_u lv) (le_u hb28)) ?_
        have hh37 : 0 ≤ (sU (sU X 36 jv (if X 36 jv < g then g else X 36 jv)) 37 jv (X 37 jv + b) 37 jv).toInt ∧ (sU (sU X 36 jv (if X 36 jv < g then g else X 36 jv)) 37 jv (X 37 jv + b) 37 jv).toInt ≤ 512000 := by
          have z := c18; simp [sIn] at z
          have z1 := le_toInt.mp z.1; have z2 := le_toInt.mp z.2
          rw [show (1 : Int32).toInt = 1 from rfl] at z1; rw [show (1000 : Int32).toInt = 1000 from rfl] at z2
          have z3 := hvh jv lv
          rw [show sU (sU X 36 jv (if X 36 jv < g then g else X 36 jv)) 37 jv (X 37 jv + b) 37 jv = X 37 jv + b from by simp [sU, upd], Kit.i32_add (by omega) (by omega)]
          omega
        refine wa_aload F dX5_event_46 0 rfl ?_
        refine wa_callV F [] (c_X1_alarmLevel hst D TC H0 ad (sU (sU X 36 jv (if (X 36 jv) < g then g else (X 36 jv))) 37 jv (((sU X 36 jv (if (X 36 jv) < g then g else (X 36 jv))) 37 jv) + b)) S o jv (lt_u (lt_u lv)) (le_u (le_u hb28)) (hu0 jv lv) hh37 (hall TC (sU (sU X 36 jv (if (X 36 jv) < g then g else (X 36 jv))) 37 jv (((sU X 36 jv (if (X 36 jv) < g then g else (X 36 jv))) 37 jv) + b)) S o) (fun _ _ z => z)) mw_X1_alarmLevel ml_X5_213 (hm_bat (TC := TC) (X := (sU (sU X 36 jv (if (X 36 jv) < g then g else (X 36 jv))) 37 jv (((sU X 36 jv (if (X 36 jv) < g then g else (X 36 jv))) 37 jv) + b))) (S := S) (o := o) (lt_u (lt_u lv)) (le_u (le_u hb28))) rfl rfl (Nat.le_of_ble_eq_true rfl) ⟨Nat.le_of_ble_eq_true rfl, Nat.le_of_ble_eq_true rfl⟩ ⟨Nat.le_of_ble_eq_true rfl, Nat.le_of_ble_eq_true rfl⟩ dX5_event_48 PR_ag (fun _ z => z.elim) ?_
        rintro _ _ _ ⟨rfl, rfl, rfl⟩
        refine wa_iret F rfl (Nat.le_of_ble_eq_true rfl) (Nat.le_of_ble_eq_true rfl) dX5_event_51 ?_
        have ek : kEv X (nI jv) g b = 0 := by simp [kEv, c2, c10, c18, ev]
        refine ⟨ek, ?_, rfl, ?_⟩
        · refine congrArg (fun z => some (Value.int z)) ?_
          unfold rEv uEv; rw [ev, max_eq]; rfl
        · refine congrArg (fun z => hall TC z S o) ?_
          unfold uEv; rw [ev, max_eq]; rfl
      · skip
        replace c18 : sIn b 1 1000 = false := Bool.eq_false_iff.mpr c18
        refine wa_callS F [] (c_X5_checkRange_no hst D (tysOf TC) H0 ad (hall TC X S o) b 1 1000 c18) mw_X5_checkRange ml_X5_39 rfl (Nat.le_of_ble_eq_true rfl) ⟨(Nat.le_of_ble_eq_true rfl), (Nat.le_of_ble_eq_true rfl)⟩ ⟨(Nat.le_of_ble_eq_true rfl), (Nat.le_of_ble_eq_true rfl)⟩ dX5_event_18 (fun _ _ _ z => z.elim) (fun E hE => ?_) (fun _ _ _ z => z.elim)
        subst hE
        have ek : kEv X (nI jv) g b = 2 := by simp [kEv, c2, c10, c18, ev]
        exact wx_out F (Nat.le_of_ble_eq_true rfl) (Nat.le_of_ble_eq_true rfl) (Or.inr ⟨rfl, ek⟩) rfl rfl
    · skip
      replace c10 : sIn g 0 3 = false := Bool.eq_false_iff.mpr c10
      refine wa_callS F [] (c_X5_checkRange_no hst D (tysOf TC) H0 ad (hall TC X S o) g 0 3 c10) mw_X5_checkRange ml_X5_39 rfl (Nat.le_of_ble_eq_true rfl) ⟨(Nat.le_of_ble_eq_true rfl), (Nat.le_of_ble_eq_true rfl)⟩ ⟨(Nat.le_of_ble_eq_true rfl), (Nat.le_of_ble_eq_true rfl)⟩ dX5_event_10 (fun _ _ _ z => z.elim) (fun E hE => ?_) (fun _ _ _ z => z.elim)
      subst hE
      have ek : kEv X (nI jv) g b = 2 := by simp [kEv, c2, c10, ev]
      exact wx_out F (Nat.le_of_ble_eq_true rfl) (Nat.le_of_ble_eq_true rfl) (Or.inr ⟨rfl, ek⟩) rfl rfl
  · skip
    replace c2 : sIn v 0 (X 28 0 - 1) = false := Bool.eq_false_iff.mpr c2
    refine wa_callV F [] (c_X5_batchAt_no hst D TC H0 ad X S o v hmm.1 hb28 c2 (hall TC X S o) (fun _ _ z => z)) mw_X5_batchAt ml_X5_193 (hm_c (TC := TC) (X := X) (S := S) (o := o)) rfl rfl (Nat.le_of_ble_eq_true rfl) ⟨(Nat.le_of_ble_eq_true rfl), (Nat.le_of_ble_eq_true rfl)⟩ ⟨(Nat.le_of_ble_eq_true rfl), (Nat.le_of_ble_eq_true rfl)⟩ dX5_event_2 (fun _ _ _ z => z.elim) (fun E hE => ?_) (fun _ _ _ z => z.elim)
    subst hE
    have ek : kEv X v g b = 1 := by simp [kEv, c2]
    exact wx_out F (Nat.le_of_ble_eq_true rfl) (Nat.le_of_ble_eq_true rfl) (Or.inl ⟨rfl, ek⟩) rfl rfl
set_option maxHeartbeats 2000000 in
set_option maxRecDepth 20000 in
theorem c_X5_transfer {l : Launch} (hst : l.stackTraces = false) (D : va_G) (TC : Nat → ClassId) (H0 : Heap) (ad : Nat → Nat) (X S : St) (o : Nat → Int64) (v : Int32) (b : Int32) (n : Nat) (hi : INV n X) : CC l D (tysOf TC) H0 yX5_transfer cX5_transfer 6 (some .int) 7 1 6 [.ref 0, .int v, .int b] ad (hall TC X S o) (PK (kTr X v b) ad (some (.int (rTr X v))) (hall TC (uTr v b X) S o)) (fun E => (E = "java/lang/IndexOutOfBoundsException" ∧ kTr X v b = 1) ∨ (E = "java/lang/IllegalStateException" ∧ kTr X v b = 2)) := by
  refine cc_intro hst (by decide +kernel) (Nat.le_of_ble_eq_true rfl) ?_
  intro p e s m args below meth c F
  rw [show lv_args 0 [.ref 0, .int v, .int b] = [(0, .ref 0), (1, .int v), (2, .int b)] from rfl]
  obtain ⟨hc, hs, hpp, hd0, hmm, h7, h8, hbo, hu0, hvr⟩ := id hi
  obtain ⟨hvh, hday, hclo, h5, h12, h21, hze, h24, hrk, hbz⟩ := hvr
  have hb2 := hc.2; have hb9 := hs.2; have hb13 := hpp.2; have hb25 := hd0.2; have hb28 := hmm.2
  refine wa_aload_n F dX5_transfer_0 (i := 0) rfl 0 rfl ?_
  refine wa_iload_n F dX5_transfer_1 (i := 1) rfl 1 rfl ?_
  by_cases c2 : sIn v 0 (X 13 0 - 1) = true
  · skip
    obtain ⟨jv, lv, rfl⟩ := sIn_nat hpp.1 (by omega) c2
    have ev : tn (nI jv) = jv := tn_nI (by omega)
    refine wa_callV F [] (c_X5_productAt_ok hst D TC H0 ad X S o jv lv hb13 (hall TC X S o) (fun _ _ z => z)) mw_X5_productAt ml_X5_108 (hm_c (TC := TC) (X := X) (S := S) (o := o)) rfl rfl (Nat.le_of_ble_eq_true rfl) ⟨(Nat.le_of_ble_eq_true rfl), (Nat.le_of_ble_eq_true rfl)⟩ ⟨(Nat.le_of_ble_eq_true rfl), (Nat.le_of_ble_eq_true rfl)⟩ dX5_transfer_2 PR_ag (fun _ z => z.elim) ?_
    rintro _ _ _ ⟨rfl, rfl, rfl⟩
    refine wa_astore_n (lv' := [(3, .ref (1200 + jv)), (0, .ref 0), (1, .int (nI jv)), (2, .int b)]) F dX5_transfer_5 (i := 3) rfl (by decide) rfl ?_
    refine wa_aload_n F dX5_transfer_6 (i := 0) rfl 1 rfl ?_
    refine wa_iload_n F dX5_transfer_7 (i := 2) rfl 3 rfl ?_
    by_cases c8 : sIn b 0 (X 25 0 - 1) = true
    · skip
      obtain ⟨jb, lb, rfl⟩ := sIn_nat hd0.1 (by omega) c8
      have eb : tn (nI jb) = jb := tn_nI (by omega)
      refine wa_callV F [] (c_X5_bodyAt_ok hst D TC H0 ad X S o jb lb hb25 (hall TC X S o) (fun _ _ z => z)) mw_X5_bodyAt ml_X5_152 (hm_c (TC := TC) (X := X) (S := S) (o := o)) rfl rfl (Nat.le_of_ble_eq_true rfl) ⟨(Nat.le_of_ble_eq_true rfl), (Nat.le_of_ble_eq_true rfl)⟩ ⟨(Nat.le_of_ble_eq_true rfl), (Nat.le_of_ble_eq_true rfl)⟩ dX5_transfer_8 PR_ag (fun _ z => z.elim) ?_
      rintro _ _ _ ⟨rfl, rfl, rfl⟩
      refine wa_astore (lv' := [(4, .ref (1300 + jb)), (3, .ref (1200 + jv)), (0, .ref 0), (1, .int (nI jv)), (2, .int (nI jb))]) F dX5_transfer_11 (by decide) rfl ?_
      refine wa_aload_n F dX5_transfer_13 (i := 3) rfl 1 rfl ?_
      by_cases c14 : X 20 jv = -1
      · skip
        refine wa_getN (v := .null) F LY_X3 (hm_prd (TC := TC) (X := X) (S := S) (o := o) lv hb13) 7 (by decide) fn_X5_169 (congrArg some (cert_n c14)) dX5_transfer_14 ?_
        refine wa_astoreN (lv' := [(5, .null), (4, .ref (1300 + jb)), (3, .ref (1200 + jv)), (0, .ref 0), (1, .int (nI jv)), (2, .int (nI jb))]) F dX5_transfer_17 (by decide) rfl ?_
        refine wa_aloadN F dX5_transfer_19 0 rfl ?_
        refine wa_ifnullN (tgt := 31) F dX5_transfer_21 (by decide) ?_
        have ek : kTr X (nI jv) (nI jb) = 2 := by simp [kTr, c2, c8, c14, ev, eb]
        exact wa_throwS F ft_IS cl_X5_47 in_IS sr_X5_176 at_IS gd_IS dX5_transfer_31 dX5_transfer_34 dX5_transfer_35 dX5_transfer_37 dX5_transfer_40 (Nat.le_of_ble_eq_true rfl) (Nat.le_of_ble_eq_true rfl) (Nat.le_of_ble_eq_true rfl) (Nat.le_of_ble_eq_true rfl) (Nat.le_of_ble_eq_true rfl) (Nat.le_of_ble_eq_true rfl) (Nat.le_of_ble_eq_true rfl) (Or.inr ⟨rfl, ek⟩) rfl rfl
      · skip
        have hc14 : (X 20 jv).toNatClampNeg < cnt X 25 := ((hbo jv lv).resolve_left c14).2
        refine wa_getN (v := .ref (1300 + ((X 20 jv).toNatClampNeg))) F LY_X3 (hm_prd (TC := TC) (X := X) (S := S) (o := o) lv hb13) 7 (by decide) fn_X5_169 (congrArg some (cert_r c14)) dX5_transfer_14 ?_
        refine wa_astore (lv' := [(5, .ref (1300 + ((X 20 jv).toNatClampNeg))), (4, .ref (1300 + jb)), (3, .ref (1200 + jv)), (0, .ref 0), (1, .int (nI jv)), (2, .int (nI jb))]) F dX5_transfer_17 (by decide) rfl ?_
        refine wa_aload F dX5_transfer_19 0 rfl ?_
        refine wa_ifnull F dX5_transfer_21 ?_
        refine wa_aload F dX5_transfer_24 0 rfl ?_
        refine wa_aload F dX5_transfer_26 1 rfl ?_
        refine wa_acmp_ne (tgt := 41) F (hm_bod (TC := TC) (X := X) (S := S) (o := o) hc14 hb25) (hm_bod (TC := TC) (X := X) (S := S) (o := o) lb hb25) dX5_transfer_28 (by decide) (fun c28 => ?_) (fun c28 => ?_)
        · skip
          replace c28 : ¬ X 20 jv = nI jb := fun z => c28 (by rw [z, tn_nI (by omega)])
          refine wa_aload_n F dX5_transfer_41 (i := 0) rfl 3 rfl ?_
          refine wa_aload F dX5_transfer_42 1 rfl ?_
          refine wa_aload_n F dX5_transfer_44 (i := 3) rfl 2 rfl ?_
          by_cases c45 : X 27 jb = -1 ∧ sScope X jb jv = true
          · skip
            refine wa_callV F [] (c_X5_checkMayCertify_ok hst D TC H0 ad X S o jb lb jv lv _ hi c45 (hall TC X S o) (fun _ _ z => z)) mw_X5_checkMayCertify ml_X5_163 (hm_c (TC := TC) (X := X) (S := S) (o := o)) rfl rfl (Nat.le_of_ble_eq_true rfl) ⟨(Nat.le_of_ble_eq_true rfl), (Nat.le_of_ble_eq_true rfl)⟩ ⟨(Nat.le_of_ble_eq_true rfl), (Nat.le_of_ble_eq_true rfl)⟩ dX5_transfer_45 PR_ag (fun _ z => z.elim) ?_
            rintro _ _ _ ⟨rfl, rfl, rfl⟩
            refine wa_aload_n F dX5_transfer_48 (i := 3) rfl 2 rfl ?_
            refine wa_aload F dX5_transfer_49 1 rfl ?_
            refine wa_putN F LY_X3 (hm_prd (TC := TC) (X := X) (S := S) (o := o) lv hb13) 7 (by decide) fn_X5_169 rfl rfl rfl (Nat.le_of_ble_eq_true rfl) dX5_transfer_51 (pu_prd_7 (nI jb) (.ref (1300 + jb)) (cert_of (by omega)) lv hb13) ?_
            refine wa_aload F dX5_transfer_54 0 rfl ?_
            refine wa_getN (v := .int (nI ((X 20 jv).toNatClampNeg))) F LY_X2 (hm_bod (TC := TC) (X := (sU X 20 jv (nI jb))) (S := S) (o := o) (lt_u hc14) (le_u hb25)) 0 (by decide) fn_X5_178 rfl dX5_transfer_56 ?_
            refine wa_iret F rfl (Nat.le_of_ble_eq_true rfl) (Nat.le_of_ble_eq_true rfl) dX5_transfer_59 ?_
            have ek : kTr X (nI jv) (nI jb) = 0 := by unfold kTr; rw [ev, eb, c2, c8]; simp only [Bool.and_self, if_true]; rw [if_pos ⟨c14, c28, c45⟩]
            refine ⟨ek, ?_, rfl, ?_⟩
            · refine congrArg (fun z => some (Value.int z)) ?_
              unfold rTr; rw [ev]; exact ((hbo jv lv).resolve_left c14).1
            · refine congrArg (fun z => hall TC z S o) ?_
              unfold uTr; rw [ev]
          · skip
            refine wa_callV F [] (c_X5_checkMayCertify_no hst D TC H0 ad X S o jb lb jv lv _ hi c45 (hall TC X S o) (fun _ _ z => z)) mw_X5_checkMayCertify ml_X5_163 (hm_c (TC := TC) (X := X) (S := S) (o := o)) rfl rfl (Nat.le_of_ble_eq_true rfl) ⟨(Nat.le_of_ble_eq_true rfl), (Nat.le_of_ble_eq_true rfl)⟩ ⟨(Nat.le_of_ble_eq_true rfl), (Nat.le_of_ble_eq_true rfl)⟩ dX5_transfer_45 (fun _ _ _ z => z.elim) (fun E hE => ?_) (fun _ _ _ z => z.elim)
            subst hE
            have ek : kTr X (nI jv) (nI jb) = 2 := by have z : ¬ (X 27 jb = -1 ∧ sScope X jb jv = true) := c45; unfold kTr; rw [ev, eb, c2, c8]; simp only [Bool.and_self, if_true]; rw [if_neg (fun y => z y.2.2)]
            exact wx_out F (Nat.le_of_ble_eq_true rfl) (Nat.le_of_ble_eq_true rfl) (Or.inr ⟨rfl, ek⟩) rfl rfl
        · skip
          replace c28 : X 20 jv = nI jb := by rw [((hbo jv lv).resolve_left c14).1, show (X 20 jv).toNatClampNeg = jb by omega]
          have ek : kTr X (nI jv) (nI jb) = 2 := by simp [kTr, c2, c8, c14, c28, ev, eb]
          exact wa_throwS F ft_IS cl_X5_47 in_IS sr_X5_176 at_IS gd_IS dX5_transfer_31 dX5_transfer_34 dX5_transfer_35 dX5_transfer_37 dX5_transfer_40 (Nat.le_of_ble_eq_true rfl) (Nat.le_of_ble_eq_true rfl) (Nat.le_of_ble_eq_true rfl) (Nat.le_of_ble_eq_true rfl) (Nat.le_of_ble_eq_true rfl) (Nat.le_of_ble_eq_true rfl) (Nat.le_of_ble_eq_true rfl) (Or.inr ⟨rfl, ek⟩) rfl rfl
    · skip
      replace c8 : sIn b 0 (X 25 0 - 1) = false := Bool.eq_false_iff.mpr c8
      refine wa_callV F [] (c_X5_bodyAt_no hst D TC H0 ad X S o b hd0.1 hb25 c8 (hall TC X S o) (fun _ _ z => z)) mw_X5_bodyAt ml_X5_152 (hm_c (TC := TC) (X := X) (S := S) (o := o)) rfl rfl (Nat.le_of_ble_eq_true rfl) ⟨(Nat.le_of_ble_eq_true rfl), (Nat.le_of_ble_eq_true rfl)⟩ ⟨(Nat.le_of_ble_eq_true rfl), (Nat.le_of_ble_eq_true rfl)⟩ dX5_transfer_8 (fun _ _ _ z => z.elim) (fun E hE => ?_) (fun _ _ _ z => z.elim)
      subst hE
      have ek : kTr X (nI jv) b = 1 := by simp [kTr, c2, c8, ev]
      exact wx_out F (Nat.le_of_ble_eq_true rfl) (Nat.le_of_ble_eq_true rfl) (Or.inl ⟨rfl, ek⟩) rfl rfl
  · skip
    replace c2 : sIn v 0 (X 13 0 - 1) = false := Bool.eq_false_iff.mpr c2
    refine wa_callV F [] (c_X5_productAt_no hst D TC H0 ad X S o v hpp.1 hb13 c2 (hall TC X S o) (fun _ _ z => z)) mw_X5_productAt ml_X5_108 (hm_c (TC := TC) (X := X) (S := S) (o := o)) rfl rfl (Nat.le_of_ble_eq_true rfl) ⟨(Nat.le_of_ble_eq_true rfl), (Nat.le_of_ble_eq_true rfl)⟩ ⟨(Nat.le_of_ble_eq_true rfl), (Nat.le_of_ble_eq_true rfl)⟩ dX5_transfer_2 (fun _ _ _ z => z.elim) (fun E hE => ?_) (fun _ _ _ z => z.elim)
    subst hE
    have ek : kTr X v b = 1 := by simp [kTr, c2]
    exact wx_out F (Nat.le_of_ble_eq_true rfl) (Nat.le_of_ble_eq_true rfl) (Or.inl ⟨rfl, ek⟩) rfl rfl
set_option maxHeartbeats 2000000 in
set_option maxRecDepth 20000 in
theorem c_X5_ban {l : Launch} (hst : l.stackTraces = false) (D : va_G) (TC : Nat → ClassId) (H0 : Heap) (ad : Nat → Nat) (X S : St) (o : Nat → Int64) (w : Int32) (v : Int32) (q : Bool) (n : Nat) (hi : INV n X) : CC l D (tysOf TC) H0 yX5_ban cX5_ban 5 (some .int) 7 1 6 [.ref 0, .int w, .int v, .int (bI q)] ad (hall TC X S o) (PK (kBa X w v) ad (some (.int (rBa X w v q))) (hall TC (uBa w v q X) S o)) (fun E => (E = "java/lang/IndexOutOfBoundsException" ∧ kBa X w v = 1)) := by
  refine cc_intro hst (by decide +kernel) (Nat.le_of_ble_eq_true rfl) ?_
  intro p e s m args below meth c F
  rw [show lv_args 0 [.ref 0, .int w, .int v, .int (bI q)] = [(0, .ref 0), (1, .int w), (2, .int v), (3, .int (bI q))] from rfl]
  obtain ⟨hc, hs, hpp, hd0, hmm, h7, h8, hbo, hu0, hvr⟩ := id hi
  obtain ⟨hvh, hday, hclo, h5, h12, h21, hze, h24, hrk, hbz⟩ := hvr
  have hb2 := hc.2; have hb9 := hs.2; have hb13 := hpp.2; have hb25 := hd0.2; have hb28 := hmm.2
  refine wa_iload_n F dX5_ban_0 (i := 1) rfl 1 rfl ?_
  refine wa_if_lt (tgt := 9) F dX5_ban_1 (by decide) (fun c1 => ?_) (fun c1 => ?_)
  · skip
    replace c1 := lt_nle c1
    have ek : kBa X w v = 1 := by have z : sIn w 0 4 = false := (by simp [sIn, c1]); simp [kBa, z]
    exact wa_throwS F ft_IO cl_X5_229 in_IO sr_X5_231 at_IO gd_IO dX5_ban_9 dX5_ban_12 dX5_ban_13 dX5_ban_15 dX5_ban_18 (Nat.le_of_ble_eq_true rfl) (Nat.le_of_ble_eq_true rfl) (Nat.le_of_ble_eq_true rfl) (Nat.le_of_ble_eq_true rfl) (Nat.le_of_ble_eq_true rfl) (Nat.le_of_ble_eq_true rfl) (Nat.le_of_ble_eq_true rfl) ⟨rfl, ek⟩ rfl rfl
  · skip
    replace c1 := nlt_le c1
    refine wa_iload_n F dX5_ban_4 (i := 1) rfl 1 rfl ?_
    refine wa_iconst (v := 5) F dX5_ban_5 (by decide) ?_
    refine wa_icmp_lt (tgt := 19) F dX5_ban_6 (by decide) (fun c6 => ?_) (fun c6 => ?_)
    · skip
      replace c6 := lt_nle c6
      refine wa_aload_n F dX5_ban_19 (i := 0) rfl 0 rfl ?_
      refine wa_iload_n F dX5_ban_20 (i := 2) rfl 2 rfl ?_
      by_cases c21 : sIn v 0 (X 13 0 - 1) = true
      · skip
        obtain ⟨jv, lv, rfl⟩ := sIn_nat hpp.1 (by omega) c21
        have ev : tn (nI jv) = jv := tn_nI (by omega)
        refine wa_callV F [] (c_X5_productAt_ok hst D TC H0 ad X S o jv lv hb13 (hall TC X S o) (fun _ _ z => z)) mw_X5_productAt ml_X5_108 (hm_c (TC := TC) (X := X) (S := S) (o := o)) rfl rfl (Nat.le_of_ble_eq_true rfl) ⟨(Nat.le_of_ble_eq_true rfl), (Nat.le_of_ble_eq_true rfl)⟩ ⟨(Nat.le_of_ble_eq_true rfl), (Nat.le_of_ble_eq_true rfl)⟩ dX5_ban_21 PR_ag (fun _ z => z.elim) ?_
        rintro _ _ _ ⟨rfl, rfl, rfl⟩
        refine wa_astore (lv' := [(4, .ref (1200 + jv)), (0, .ref 0), (1, .int w), (2, .int (nI jv)), (3, .int (bI q))]) F dX5_ban_24 (by decide) rfl ?_
        refine wa_iload_n F dX5_ban_26 (i := 3) rfl 4 rfl ?_
        refine wa_if_eq (tgt := 46) F dX5_ban_27 (by decide) (fun c27 => ?_) (fun c27 => ?_)
        · skip
          replace c27 : q = false := bI_f c27
          refine wa_aload F dX5_ban_46 0 rfl ?_
          refine wa_dup F dX5_ban_48 rfl ?_
          refine wa_getN (v := .int (X 24 jv)) F LY_X3 (hm_prd (TC := TC) (X := X) (S := S) (o := o) lv hb13) 10 (by decide) fn_X5_234 rfl dX5_ban_49 ?_
          refine wa_iconst (v := 1) F dX5_ban_52 (by decide) ?_
          refine wa_iload_n F dX5_ban_53 (i := 1) rfl 2 rfl ?_
          refine wa_ishl F dX5_ban_54 ?_
          refine wa_iconst (v := (-1)) F dX5_ban_55 (by decide) ?_
          refine wa_ixor F dX5_ban_56 ?_
          refine wa_iand F dX5_ban_57 ?_
          refine wa_putN F LY_X3 (hm_prd (TC := TC) (X := X) (S := S) (o := o) lv hb13) 10 (by decide) fn_X5_234 rfl rfl rfl (Nat.le_of_ble_eq_true rfl) dX5_ban_58 (pu_prd_10 ((X 24 jv) &&& ((1 <<< (w &&& 31)) ^^^ (-1))) lv hb13) ?_
          refine wa_aload F dX5_ban_61 0 rfl ?_
          refine wa_getN (v := .int ((sU X 24 jv ((X 24 jv) &&& ((1 <<< (w &&& 31)) ^^^ (-1)))) 24 jv)) F LY_X3 (hm_prd (TC := TC) (X := (sU X 24 jv ((X 24 jv) &&& ((1 <<< (w &&& 31)) ^^^ (-1))))) (S := S) (o := o) (lt_u lv) (le_u hb13)) 10 (by decide) fn_X5_234 rfl dX5_ban_63 ?_
          rw [show ((sU X 24 jv ((X 24 jv) &&& ((1 <<< (w &&& 31)) ^^^ (-1)))) 24 jv) = (X 24 jv &&& (((1 : Int32) <<< (w &&& 31)) ^^^ (-1))) from by simp [sU, upd]]
          refine wa_callS F [] (c_BC2 hst D (tysOf TC) H0 ad (hall TC (sU X 24 jv ((X 24 jv) &&& ((1 <<< (w &&& 31)) ^^^ (-1)))) S o) (X 24 jv &&& (((1 : Int32) <<< (w &&& 31)) ^^^ (-1))) (nBa_in (h24 jv lv) c1 c6).2.1 (nBa_in (h24 jv lv) c1 c6).2.2) mw_BC ml_X5_237 rfl (Nat.le_of_ble_eq_true rfl) ⟨Nat.le_of_ble_eq_true rfl, Nat.le_of_ble_eq_true rfl⟩ ⟨Nat.le_of_ble_eq_true rfl, Nat.le_of_ble_eq_true rfl⟩ dX5_ban_66 PR_ag (fun _ z => z.elim) ?_
          rintro _ _ _ ⟨rfl, rfl, rfl⟩
          refine wa_iret F rfl (Nat.le_of_ble_eq_true rfl) (Nat.le_of_ble_eq_true rfl) dX5_ban_69 ?_
          have ek : kBa X w (nI jv) = 0 := by simp [kBa, w04 c1 c6, c21, ev]
          refine ⟨ek, ?_, rfl, ?_⟩
          · refine congrArg (fun z => some (Value.int z)) ?_
            unfold rBa nBa; rw [ev, c27]; rfl
          · refine congrArg (fun z => hall TC z S o) ?_
            unfold uBa nBa; rw [ev, c27]; rfl
        · skip
          replace c27 : q = true := bI_t c27
          refine wa_aload F dX5_ban_30 0 rfl ?_
          refine wa_dup F dX5_ban_32 rfl ?_
          refine wa_getN (v := .int (X 24 jv)) F LY_X3 (hm_prd (TC := TC) (X := X) (S := S) (o := o) lv hb13) 10 (by decide) fn_X5_234 rfl dX5_ban_33 ?_
          refine wa_iconst (v := 1) F dX5_ban_36 (by decide) ?_
          refine wa_iload_n F dX5_ban_37 (i := 1) rfl 2 rfl ?_
          refine wa_ishl F dX5_ban_38 ?_
          refine wa_ior F dX5_ban_39 ?_
          refine wa_putN F LY_X3 (hm_prd (TC := TC) (X := X) (S := S) (o := o) lv hb13) 10 (by decide) fn_X5_234 rfl rfl rfl (Nat.le_of_ble_eq_true rfl) dX5_ban_40 (pu_prd_10 ((X 24 jv) ||| (1 <<< (w &&& 31))) lv hb13) ?_
          refine wa_goto (tgt := 61) F dX5_ban_43 (by decide) ?_
          refine wa_aload F dX5_ban_61 0 rfl ?_
          refine wa_getN (v := .int ((sU X 24 jv ((X 24 jv) ||| (1 <<< (w &&& 31)))) 24 jv)) F LY_X3 (hm_prd (TC := TC) (X := (sU X 24 jv ((X 24 jv) ||| (1 <<< (w &&& 31))))) (S := S) (o := o) (lt_u lv) (le_u hb13)) 10 (by decide) fn_X5_234 rfl dX5_ban_63 ?_
          rw [show ((sU X 24 jv ((X 24 jv) ||| (1 <<< (w &&& 31)))) 24 jv) = (X 24 jv ||| ((1 : Int32) <<< (w &&& 31))) from by simp [sU, upd]]
          refine wa_callS F [] (c_BC2 hst D (tysOf TC) H0 ad (hall TC (sU X 24 jv ((X 24 jv) ||| (1 <<< (w &&& 31)))) S o) (X 24 jv ||| ((1 : Int32) <<< (w &&& 31))) (nBa_in (h24 jv lv) c1 c6).1.1 (nBa_in (h24 jv lv) c1 c6).1.2) mw_BC ml_X5_237 rfl (Nat.le_of_ble_eq_true rfl) ⟨Nat.le_of_ble_eq_true rfl, Nat.le_of_ble_eq_true rfl⟩ ⟨Nat.le_of_ble_eq_true rfl, Nat.le_of_ble_eq_true rfl⟩ dX5_ban_66 PR_ag (fun _ z => z.elim) ?_
          rintro _ _ _ ⟨rfl, rfl, rfl⟩
          refine wa_iret F rfl (Nat.le_of_ble_eq_true rfl) (Nat.le_of_ble_eq_true rfl) dX5_ban_69 ?_
          have ek : kBa X w (nI jv) = 0 := by simp [kBa, w04 c1 c6, c21, ev]
          refine ⟨ek, ?_, rfl, ?_⟩
          · refine congrArg (fun z => some (Value.int z)) ?_
            unfold rBa nBa; rw [ev, c27]; rfl
          · refine congrArg (fun z => hall TC z S o) ?_
            unfold uBa nBa; rw [ev, c27]; rfl
      · skip
        replace c21 : sIn v 0 (X 13 0 - 1) = false := Bool.eq_false_iff.mpr c21
        refine wa_callV F [] (c_X5_productAt_no hst D TC H0 ad X S o v hpp.1 hb13 c21 (hall TC X S o) (fun _ _ z => z)) mw_X5_productAt ml_X5_108 (hm_c (TC := TC) (X := X) (S := S) (o := o)) rfl rfl (Nat.le_of_ble_eq_true rfl) ⟨(Nat.le_of_ble_eq_true rfl), (Nat.le_of_ble_eq_true rfl)⟩ ⟨(Nat.le_of_ble_eq_true rfl), (Nat.le_of_ble_eq_true rfl)⟩ dX5_ban_21 (fun _ _ _ z => z.elim) (fun E hE => ?_) (fun _ _ _ z => z.elim)
        subst hE
        have ek : kBa X w v = 1 := by simp [kBa, w04 c1 c6, c21]
        exact wx_out F (Nat.le_of_ble_eq_true rfl) (Nat.le_of_ble_eq_true rfl) ⟨rfl, ek⟩ rfl rfl
    · skip
      replace c6 := nlt_le c6
      have ek : kBa X w v = 1 := by simp [kBa, w04n c6]
      exact wa_throwS F ft_IO cl_X5_229 in_IO sr_X5_231 at_IO gd_IO dX5_ban_9 dX5_ban_12 dX5_ban_13 dX5_ban_15 dX5_ban_18 (Nat.le_of_ble_eq_true rfl) (Nat.le_of_ble_eq_true rfl) (Nat.le_of_ble_eq_true rfl) (Nat.le_of_ble_eq_true rfl) (Nat.le_of_ble_eq_true rfl) (Nat.le_of_ble_eq_true rfl) (Nat.le_of_ble_eq_true rfl) ⟨rfl, ek⟩ rfl rfl
