theorem cn_lt {S : St} {f N : Nat} (h : CN S f N) {x : Int32} (hx : x = nI N) (hc : ¬ S f 0 = x) : cnt S f < N :=
  Nat.lt_of_le_of_ne h.2 fun z => hc (by rw [h.1, z, hx])
set_option maxHeartbeats 2000000 in
set_option maxRecDepth 20000 in
theorem c_X6_act {l : Launch} (hst : l.stackTraces = false) (D : va_G) (TC : Nat → ClassId) (H0 : Heap) (ad : Nat → Nat) (X S : St) (o : Nat → Int64) (a : Int32) (b : Int32) (q : Int32) (d : Int32) (n : Nat) (hi : INV n S) : CC l D (tysOf TC) H0 yX6_act cX6_act 6 (some .int) 6 0 0 [.ref 2, .int a, .int b, .int q, .int d] ad (hall TC X S o) (PR ad (some (.int (mR (kAct S a b q d) (rAct S)))) (hall TC X (mS (kAct S a b q d) (S) (uAct a b q d)) o)) (fun _ => False) := by
  refine cc_intro hst (by decide +kernel) (Nat.le_of_ble_eq_true rfl) ?_
  intro p e s m args below meth c F
  rw [show lv_args 0 [.ref 2, .int a, .int b, .int q, .int d] = [(0, .ref 2), (1, .int a), (2, .int b), (3, .int q), (4, .int d)] from rfl]
  obtain ⟨hc, hs, hp, hd0, hm, h7, h8, hbo0, hu0, hvr⟩ := id hi
  have hc2 := hc.2; have hs2 := hs.2; have hp2 := hp.2; have hd := hd0.2; have hm2 := hm.2
  refine wa_iload_n F dX6_act_0 (i := 1) rfl 1 rfl ?_
  refine wa_iconst (v := 1) F dX6_act_1 (by decide) ?_
  refine wa_sipush (v := 255) F dX6_act_2 (by decide) ?_
  refine wa_callS F [] (c_X6_in hst D (tysOf TC) H0 ad (hall TC X S o) a 1 255) mw_X6_in ml_X6_111 rfl (Nat.le_of_ble_eq_true rfl) ⟨Nat.le_of_ble_eq_true rfl, Nat.le_of_ble_eq_true rfl⟩ ⟨Nat.le_of_ble_eq_true rfl, Nat.le_of_ble_eq_true rfl⟩ dX6_act_5 PR_ag (fun _ z => z.elim) ?_
  rintro _ _ _ ⟨rfl, rfl, rfl⟩
  refine wa_if_eq (tgt := 49) F dX6_act_8 (by decide) (fun c8 => ?_) (fun c8 => ?_)
  · skip
    replace c8 : (sIn a 1 255) = false := bI_f c8
    refine wa_iconst (v := 0) F dX6_act_49 (by decide) ?_
    refine wa_istore (lv' := [(5, .int 0), (0, .ref 2), (1, .int a), (2, .int b), (3, .int q), (4, .int d)]) F dX6_act_50 (by decide) rfl ?_
    refine wa_aload_n F dX6_act_52 (i := 0) rfl 1 rfl ?_
    refine wa_iload F dX6_act_53 0 rfl ?_
    refine wa_if_ne (tgt := 62) F dX6_act_55 (by decide) (fun z => absurd (by decide) z) (fun _ => ?_)
    refine wa_iconst (v := 1) F dX6_act_58 (by decide) ?_
    refine wa_goto (tgt := 76) F dX6_act_59 (by decide) ?_
    refine wa_callV F [] (c_X6_refused hst D TC H0 ad X S o 1) mw_X6_refused ml_X6_127 hm_m rfl rfl (Nat.le_of_ble_eq_true rfl) ⟨Nat.le_of_ble_eq_true rfl, Nat.le_of_ble_eq_true rfl⟩ ⟨Nat.le_of_ble_eq_true rfl, Nat.le_of_ble_eq_true rfl⟩ dX6_act_76 PR_ag (fun _ z => z.elim) ?_
    rintro _ _ _ ⟨rfl, rfl, rfl⟩
    rw [show (bI (decide (¬ (1 : Int32) = 0))) = 1 from rfl]
    refine wa_if_eq (tgt := 84) F dX6_act_79 (by decide) (fun z => absurd z (by decide)) (fun _ => ?_)
    refine wa_iconst (v := 0) F dX6_act_82 (by decide) ?_
    refine wa_iret F rfl (Nat.le_of_ble_eq_true rfl) (Nat.le_of_ble_eq_true rfl) dX6_act_83 ?_
    have ek : kAct S a b q d = 1 := by simp [kAct, c8]
    exact ⟨by rw [ek, mR_n (by decide)], rfl, by rw [ek, mS_n (by decide)]⟩
  · skip
    replace c8 : (sIn a 1 255) = true := bI_t c8
    refine wa_iload_n F dX6_act_11 (i := 2) rfl 2 rfl ?_
    refine wa_iconst (v := 0) F dX6_act_12 (by decide) ?_
    refine wa_sipush (v := 255) F dX6_act_13 (by decide) ?_
    refine wa_callS F [] (c_X6_in hst D (tysOf TC) H0 ad (hall TC X S o) b 0 255) mw_X6_in ml_X6_111 rfl (Nat.le_of_ble_eq_true rfl) ⟨Nat.le_of_ble_eq_true rfl, Nat.le_of_ble_eq_true rfl⟩ ⟨Nat.le_of_ble_eq_true rfl, Nat.le_of_ble_eq_true rfl⟩ dX6_act_16 PR_ag (fun _ z => z.elim) ?_
    rintro _ _ _ ⟨rfl, rfl, rfl⟩
    refine wa_if_eq (tgt := 49) F dX6_act_19 (by decide) (fun c19 => ?_) (fun c19 => ?_)
    · skip
      replace c19 : (sIn b 0 255) = false := bI_f c19
      refine wa_iconst (v := 0) F dX6_act_49 (by decide) ?_
      refine wa_istore (lv' := [(5, .int 0), (0, .ref 2), (1, .int a), (2, .int b), (3, .int q), (4, .int d)]) F dX6_act_50 (by decide) rfl ?_
      refine wa_aload_n F dX6_act_52 (i := 0) rfl 1 rfl ?_
      refine wa_iload F dX6_act_53 0 rfl ?_
      refine wa_if_ne (tgt := 62) F dX6_act_55 (by decide) (fun z => absurd (by decide) z) (fun _ => ?_)
      refine wa_iconst (v := 1) F dX6_act_58 (by decide) ?_
      refine wa_goto (tgt := 76) F dX6_act_59 (by decide) ?_
      refine wa_callV F [] (c_X6_refused hst D TC H0 ad X S o 1) mw_X6_refused ml_X6_127 hm_m rfl rfl (Nat.le_of_ble_eq_true rfl) ⟨Nat.le_of_ble_eq_true rfl, Nat.le_of_ble_eq_true rfl⟩ ⟨Nat.le_of_ble_eq_true rfl, Nat.le_of_ble_eq_true rfl⟩ dX6_act_76 PR_ag (fun _ z => z.elim) ?_
      rintro _ _ _ ⟨rfl, rfl, rfl⟩
      rw [show (bI (decide (¬ (1 : Int32) = 0))) = 1 from rfl]
      refine wa_if_eq (tgt := 84) F dX6_act_79 (by decide) (fun z => absurd z (by decide)) (fun _ => ?_)
      refine wa_iconst (v := 0) F dX6_act_82 (by decide) ?_
      refine wa_iret F rfl (Nat.le_of_ble_eq_true rfl) (Nat.le_of_ble_eq_true rfl) dX6_act_83 ?_
      have ek : kAct S a b q d = 1 := by simp [kAct, c8, c19]
      exact ⟨by rw [ek, mR_n (by decide)], rfl, by rw [ek, mS_n (by decide)]⟩
    · skip
      replace c19 : (sIn b 0 255) = true := bI_t c19
      refine wa_iload_n F dX6_act_22 (i := 3) rfl 3 rfl ?_
      refine wa_iconst (v := 1) F dX6_act_23 (by decide) ?_
      refine wa_sipush (v := 255) F dX6_act_24 (by decide) ?_
      refine wa_callS F [] (c_X6_in hst D (tysOf TC) H0 ad (hall TC X S o) q 1 255) mw_X6_in ml_X6_111 rfl (Nat.le_of_ble_eq_true rfl) ⟨Nat.le_of_ble_eq_true rfl, Nat.le_of_ble_eq_true rfl⟩ ⟨Nat.le_of_ble_eq_true rfl, Nat.le_of_ble_eq_true rfl⟩ dX6_act_27 PR_ag (fun _ z => z.elim) ?_
      rintro _ _ _ ⟨rfl, rfl, rfl⟩
      refine wa_if_eq (tgt := 49) F dX6_act_30 (by decide) (fun c30 => ?_) (fun c30 => ?_)
      · skip
        replace c30 : (sIn q 1 255) = false := bI_f c30
        refine wa_iconst (v := 0) F dX6_act_49 (by decide) ?_
        refine wa_istore (lv' := [(5, .int 0), (0, .ref 2), (1, .int a), (2, .int b), (3, .int q), (4, .int d)]) F dX6_act_50 (by decide) rfl ?_
        refine wa_aload_n F dX6_act_52 (i := 0) rfl 1 rfl ?_
        refine wa_iload F dX6_act_53 0 rfl ?_
        refine wa_if_ne (tgt := 62) F dX6_act_55 (by decide) (fun z => absurd (by decide) z) (fun _ => ?_)
        refine wa_iconst (v := 1) F dX6_act_58 (by decide) ?_
        refine wa_goto (tgt := 76) F dX6_act_59 (by decide) ?_
        refine wa_callV F [] (c_X6_refused hst D TC H0 ad X S o 1) mw_X6_refused ml_X6_127 hm_m rfl rfl (Nat.le_of_ble_eq_true rfl) ⟨Nat.le_of_ble_eq_true rfl, Nat.le_of_ble_eq_true rfl⟩ ⟨Nat.le_of_ble_eq_true rfl, Nat.le_of_ble_eq_true rfl⟩ dX6_act_76 PR_ag (fun _ z => z.elim) ?_
        rintro _ _ _ ⟨rfl, rfl, rfl⟩
        rw [show (bI (decide (¬ (1 : Int32) = 0))) = 1 from rfl]
        refine wa_if_eq (tgt := 84) F dX6_act_79 (by decide) (fun z => absurd z (by decide)) (fun _ => ?_)
        refine wa_iconst (v := 0) F dX6_act_82 (by decide) ?_
        refine wa_iret F rfl (Nat.le_of_ble_eq_true rfl) (Nat.le_of_ble_eq_true rfl) dX6_act_83 ?_
        have ek : kAct S a b q d = 1 := by simp [kAct, c8, c19, c30]
        exact ⟨by rw [ek, mR_n (by decide)], rfl, by rw [ek, mS_n (by decide)]⟩
      · skip
        replace c30 : (sIn q 1 255) = true := bI_t c30
        refine wa_iload F dX6_act_33 4 rfl ?_
        refine wa_iconst (v := 0) F dX6_act_35 (by decide) ?_
        refine wa_sipush (v := 5000) F dX6_act_36 (by decide) ?_
        refine wa_callS F [] (c_X6_in hst D (tysOf TC) H0 ad (hall TC X S o) d 0 5000) mw_X6_in ml_X6_111 rfl (Nat.le_of_ble_eq_true rfl) ⟨Nat.le_of_ble_eq_true rfl, Nat.le_of_ble_eq_true rfl⟩ ⟨Nat.le_of_ble_eq_true rfl, Nat.le_of_ble_eq_true rfl⟩ dX6_act_39 PR_ag (fun _ z => z.elim) ?_
        rintro _ _ _ ⟨rfl, rfl, rfl⟩
        refine wa_if_eq (tgt := 49) F dX6_act_42 (by decide) (fun c42 => ?_) (fun c42 => ?_)
        · skip
          replace c42 : (sIn d 0 5000) = false := bI_f c42
          refine wa_iconst (v := 0) F dX6_act_49 (by decide) ?_
          refine wa_istore (lv' := [(5, .int 0), (0, .ref 2), (1, .int a), (2, .int b), (3, .int q), (4, .int d)]) F dX6_act_50 (by decide) rfl ?_
          refine wa_aload_n F dX6_act_52 (i := 0) rfl 1 rfl ?_
          refine wa_iload F dX6_act_53 0 rfl ?_
          refine wa_if_ne (tgt := 62) F dX6_act_55 (by decide) (fun z => absurd (by decide) z) (fun _ => ?_)
          refine wa_iconst (v := 1) F dX6_act_58 (by decide) ?_
          refine wa_goto (tgt := 76) F dX6_act_59 (by decide) ?_
          refine wa_callV F [] (c_X6_refused hst D TC H0 ad X S o 1) mw_X6_refused ml_X6_127 hm_m rfl rfl (Nat.le_of_ble_eq_true rfl) ⟨Nat.le_of_ble_eq_true rfl, Nat.le_of_ble_eq_true rfl⟩ ⟨Nat.le_of_ble_eq_true rfl, Nat.le_of_ble_eq_true rfl⟩ dX6_act_76 PR_ag (fun _ z => z.elim) ?_
          rintro _ _ _ ⟨rfl, rfl, rfl⟩
          rw [show (bI (decide (¬ (1 : Int32) = 0))) = 1 from rfl]
          refine wa_if_eq (tgt := 84) F dX6_act_79 (by decide) (fun z => absurd z (by decide)) (fun _ => ?_)
          refine wa_iconst (v := 0) F dX6_act_82 (by decide) ?_
          refine wa_iret F rfl (Nat.le_of_ble_eq_true rfl) (Nat.le_of_ble_eq_true rfl) dX6_act_83 ?_
          have ek : kAct S a b q d = 1 := by simp [kAct, c8, c19, c30, c42]
          exact ⟨by rw [ek, mR_n (by decide)], rfl, by rw [ek, mS_n (by decide)]⟩
        · skip
          replace c42 : (sIn d 0 5000) = true := bI_t c42
          refine wa_iconst (v := 1) F dX6_act_45 (by decide) ?_
          refine wa_goto (tgt := 50) F dX6_act_46 (by decide) ?_
          refine wa_istore (lv' := [(5, .int 1), (0, .ref 2), (1, .int a), (2, .int b), (3, .int q), (4, .int d)]) F dX6_act_50 (by decide) rfl ?_
          refine wa_aload_n F dX6_act_52 (i := 0) rfl 1 rfl ?_
          refine wa_iload F dX6_act_53 0 rfl ?_
          refine wa_if_ne (tgt := 62) F dX6_act_55 (by decide) (fun _ => ?_) (fun z => absurd z (by decide))
          refine wa_aload_n F dX6_act_62 (i := 0) rfl 1 rfl ?_
          refine wa_getf (v := .int (S 2 0)) F LY_X6 (hm_m (S := S)) 2 (by decide) fl_X6_108 rfl dX6_act_63 ?_
          refine wa_bipush (v := 6) F dX6_act_66 (by decide) ?_
          refine wa_icmp_ne (tgt := 75) F dX6_act_68 (by decide) (fun c68 => ?_) (fun c68 => ?_)
          · skip
            have hlt2 : cnt S 2 < 6 := cn_lt hc rfl c68
            refine wa_iconst (v := 0) F dX6_act_75 (by decide) ?_
            refine wa_callV F [] (c_X6_refused hst D TC H0 ad X S o 0) mw_X6_refused ml_X6_127 hm_m rfl rfl (Nat.le_of_ble_eq_true rfl) ⟨Nat.le_of_ble_eq_true rfl, Nat.le_of_ble_eq_true rfl⟩ ⟨Nat.le_of_ble_eq_true rfl, Nat.le_of_ble_eq_true rfl⟩ dX6_act_76 PR_ag (fun _ z => z.elim) ?_
            rintro _ _ _ ⟨rfl, rfl, rfl⟩
            rw [show (bI (decide (¬ (0 : Int32) = 0))) = 0 from rfl]
            refine wa_if_eq (tgt := 84) F dX6_act_79 (by decide) (fun _ => ?_) (fun z => absurd (by decide) z)
            refine wa_aload_n F dX6_act_84 (i := 0) rfl 1 rfl ?_
            refine wa_getf (v := .ref 103) F LY_X6 (hm_m (S := (sU S 0 0 0))) 3 (by decide) fl_X6_7 rfl dX6_act_85 ?_
            refine wa_aload_n F dX6_act_88 (i := 0) rfl 1 rfl ?_
            refine wa_getf (v := .int (S 2 0)) F LY_X6 (hm_m (S := (sU S 0 0 0))) 2 (by decide) fl_X6_108 rfl dX6_act_89 ?_
            refine wa_iload_n F dX6_act_92 (i := 1) rfl 2 rfl ?_
            refine wa_iast F 0 rfl (hm_3 (S := (sU S 0 0 0))) (cnt S 2) hc.1 (by omega) (by decide) dX6_act_93 (hu_3 (cnt S 2) a) ?_
            refine wa_aload_n F dX6_act_94 (i := 0) rfl 1 rfl ?_
            refine wa_getf (v := .ref 104) F LY_X6 (hm_m (S := (sU (sU S 0 0 0) 3 (cnt S 2) a))) 4 (by decide) fl_X6_13 rfl dX6_act_95 ?_
            refine wa_aload_n F dX6_act_98 (i := 0) rfl 1 rfl ?_
            refine wa_getf (v := .int (S 2 0)) F LY_X6 (hm_m (S := (sU (sU S 0 0 0) 3 (cnt S 2) a))) 2 (by decide) fl_X6_108 rfl dX6_act_99 ?_
            refine wa_iload_n F dX6_act_102 (i := 2) rfl 3 rfl ?_
            refine wa_iast F 0 rfl (hm_4 (S := (sU (sU S 0 0 0) 3 (cnt S 2) a))) (cnt S 2) hc.1 (by omega) (by decide) dX6_act_103 (hu_4 (cnt S 2) b) ?_
            refine wa_aload_n F dX6_act_104 (i := 0) rfl 1 rfl ?_
            refine wa_getf (v := .ref 105) F LY_X6 (hm_m (S := (sU (sU (sU S 0 0 0) 3 (cnt S 2) a) 4 (cnt S 2) b))) 5 (by decide) fl_X6_16 rfl dX6_act_105 ?_
            refine wa_aload_n F dX6_act_108 (i := 0) rfl 1 rfl ?_
            refine wa_getf (v := .int (S 2 0)) F LY_X6 (hm_m (S := (sU (sU (sU S 0 0 0) 3 (cnt S 2) a) 4 (cnt S 2) b))) 2 (by decide) fl_X6_108 rfl dX6_act_109 ?_
            refine wa_iload_n F dX6_act_112 (i := 3) rfl 4 rfl ?_
            refine wa_iast F 0 rfl (hm_5 (S := (sU (sU (sU S 0 0 0) 3 (cnt S 2) a) 4 (cnt S 2) b))) (cnt S 2) hc.1 (by omega) (by decide) dX6_act_113 (hu_5 (cnt S 2) q) ?_
            refine wa_aload_n F dX6_act_114 (i := 0) rfl 1 rfl ?_
            refine wa_getf (v := .ref 106) F LY_X6 (hm_m (S := (sU (sU (sU (sU S 0 0 0) 3 (cnt S 2) a) 4 (cnt S 2) b) 5 (cnt S 2) q))) 6 (by decide) fl_X6_19 rfl dX6_act_115 ?_
            refine wa_aload_n F dX6_act_118 (i := 0) rfl 1 rfl ?_
            refine wa_getf (v := .int (S 2 0)) F LY_X6 (hm_m (S := (sU (sU (sU (sU S 0 0 0) 3 (cnt S 2) a) 4 (cnt S 2) b) 5 (cnt S 2) q))) 2 (by decide) fl_X6_108 rfl dX6_act_119 ?_
            refine wa_iload F dX6_act_122 5 rfl ?_
            refine wa_iast F 0 rfl (hm_6 (S := (sU (sU (sU (sU S 0 0 0) 3 (cnt S 2) a) 4 (cnt S 2) b) 5 (cnt S 2) q))) (cnt S 2) hc.1 (by omega) (by decide) dX6_act_124 (hu_6 (cnt S 2) d) ?_
            refine wa_aload_n F dX6_act_125 (i := 0) rfl 1 rfl ?_
            refine wa_dup F dX6_act_126 rfl ?_
            refine wa_getf (v := .int (S 2 0)) F LY_X6 (hm_m (S := (sU (sU (sU (sU (sU S 0 0 0) 3 (cnt S 2) a) 4 (cnt S 2) b) 5 (cnt S 2) q) 6 (cnt S 2) d))) 2 (by decide) fl_X6_108 rfl dX6_act_127 ?_
            refine wa_iconst (v := 1) F dX6_act_130 (by decide) ?_
            refine wa_iadd F dX6_act_131 ?_
            refine wa_putf F LY_X6 (hm_m (S := (sU (sU (sU (sU (sU S 0 0 0) 3 (cnt S 2) a) 4 (cnt S 2) b) 5 (cnt S 2) q) 6 (cnt S 2) d))) 2 (by decide) fl_X6_108 rfl rfl rfl (Nat.le_of_ble_eq_true rfl) dX6_act_132 (hs_2 ((S 2 0) + 1)) ?_
            refine wa_aload_n F dX6_act_135 (i := 0) rfl 1 rfl ?_
            refine wa_getf (v := .int ((sU (sU (sU (sU (sU (sU S 0 0 0) 3 (cnt S 2) a) 4 (cnt S 2) b) 5 (cnt S 2) q) 6 (cnt S 2) d) 2 0 ((S 2 0) + 1)) 2 0)) F LY_X6 (hm_m (S := (sU (sU (sU (sU (sU (sU S 0 0 0) 3 (cnt S 2) a) 4 (cnt S 2) b) 5 (cnt S 2) q) 6 (cnt S 2) d) 2 0 ((S 2 0) + 1)))) 2 (by decide) fl_X6_108 rfl dX6_act_136 ?_
            refine wa_iconst (v := 1) F dX6_act_139 (by decide) ?_
            refine wa_isub F dX6_act_140 ?_
            refine wa_iret F rfl (Nat.le_of_ble_eq_true rfl) (Nat.le_of_ble_eq_true rfl) dX6_act_141 ?_
            have ek : kAct S a b q d = 0 := by simp [kAct, c8, c19, c30, c42, c68]
            refine ⟨?_, rfl, ?_⟩
            · rw [ek, mR_0]
              refine congrArg (fun z => some (Value.int z)) ?_
              unfold rAct; simp [sU, upd, Int32.add_sub_cancel]
            · rw [ek, mS_0]
              unfold uAct; rfl
          · skip
            refine wa_iconst (v := 2) F dX6_act_71 (by decide) ?_
            refine wa_goto (tgt := 76) F dX6_act_72 (by decide) ?_
            refine wa_callV F [] (c_X6_refused hst D TC H0 ad X S o 2) mw_X6_refused ml_X6_127 hm_m rfl rfl (Nat.le_of_ble_eq_true rfl) ⟨Nat.le_of_ble_eq_true rfl, Nat.le_of_ble_eq_true rfl⟩ ⟨Nat.le_of_ble_eq_true rfl, Nat.le_of_ble_eq_true rfl⟩ dX6_act_76 PR_ag (fun _ z => z.elim) ?_
            rintro _ _ _ ⟨rfl, rfl, rfl⟩
            rw [show (bI (decide (¬ (2 : Int32) = 0))) = 1 from rfl]
            refine wa_if_eq (tgt := 84) F dX6_act_79 (by decide) (fun z => absurd z (by decide)) (fun _ => ?_)
            refine wa_iconst (v := 0) F dX6_act_82 (by decide) ?_
            refine wa_iret F rfl (Nat.le_of_ble_eq_true rfl) (Nat.le_of_ble_eq_true rfl) dX6_act_83 ?_
            have ek : kAct S a b q d = 2 := by simp [kAct, c8, c19, c30, c42, c68]
            exact ⟨by rw [ek, mR_n (by decide)], rfl, by rw [ek, mS_n (by decide)]⟩
set_option maxHeartbeats 2000000 in
set_option maxRecDepth 20000 in
theorem c_X6_special {l : Launch} (hst : l.stackTraces = false) (D : va_G) (TC : Nat → ClassId) (H0 : Heap) (ad : Nat → Nat) (X S : St) (o : Nat → Int64) (a : Int32) (b : Int32) (n : Nat) (hi : INV n S) : CC l D (tysOf TC) H0 yX6_special cX6_special 5 (some .boolean) 6 0 0 [.ref 2, .int a, .int b] ad (hall TC X S o) (PR ad (some (.int (mR (kSpc S a b) (rSpc S a b)))) (hall TC X (mS (kSpc S a b) (sSpc S a b) (uSpc a b)) o)) (fun _ => False) := by
  refine cc_intro hst (by decide +kernel) (Nat.le_of_ble_eq_true rfl) ?_
  intro p e s m args below meth c F
  rw [show lv_args 0 [.ref 2, .int a, .int b] = [(0, .ref 2), (1, .int a), (2, .int b)] from rfl]
  obtain ⟨hc, hs, hp, hd0, hm, h7, h8, hbo0, hu0, hvr⟩ := id hi
  have hc2 := hc.2; have hs2 := hs.2; have hp2 := hp.2; have hd := hd0.2; have hm2 := hm.2
  refine wa_aload_n F dX6_special_0 (i := 0) rfl 0 rfl ?_
  refine wa_iload_n F dX6_special_1 (i := 1) rfl 1 rfl ?_
  refine wa_callV F [] (c_X6_isAct hst D TC H0 ad X S o a) mw_X6_isAct ml_X6_131 hm_m rfl rfl (Nat.le_of_ble_eq_true rfl) ⟨Nat.le_of_ble_eq_true rfl, Nat.le_of_ble_eq_true rfl⟩ ⟨Nat.le_of_ble_eq_true rfl, Nat.le_of_ble_eq_true rfl⟩ dX6_special_2 PR_ag (fun _ z => z.elim) ?_
  rintro _ _ _ ⟨rfl, rfl, rfl⟩
  refine wa_if_eq (tgt := 20) F dX6_special_5 (by decide) (fun c5 => ?_) (fun c5 => ?_)
  · skip
    replace c5 : (sIn a 0 (S 2 0 - 1)) = false := bI_f c5
    refine wa_iconst (v := 0) F dX6_special_20 (by decide) ?_
    refine wa_istore_n (lv' := [(3, .int 0), (0, .ref 2), (1, .int a), (2, .int b)]) F dX6_special_21 (i := 3) rfl (by decide) rfl ?_
    refine wa_aload_n F dX6_special_22 (i := 0) rfl 1 rfl ?_
    refine wa_iload_n F dX6_special_23 (i := 3) rfl 0 rfl ?_
    refine wa_if_ne (tgt := 31) F dX6_special_24 (by decide) (fun z => absurd (by decide) z) (fun _ => ?_)
    refine wa_iconst (v := 1) F dX6_special_27 (by decide) ?_
    refine wa_goto (tgt := 54) F dX6_special_28 (by decide) ?_
    refine wa_callV F [] (c_X6_refused hst D TC H0 ad X S o 1) mw_X6_refused ml_X6_127 hm_m rfl rfl (Nat.le_of_ble_eq_true rfl) ⟨Nat.le_of_ble_eq_true rfl, Nat.le_of_ble_eq_true rfl⟩ ⟨Nat.le_of_ble_eq_true rfl, Nat.le_of_ble_eq_true rfl⟩ dX6_special_54 PR_ag (fun _ z => z.elim) ?_
    rintro _ _ _ ⟨rfl, rfl, rfl⟩
    rw [show (bI (decide (¬ (1 : Int32) = 0))) = 1 from rfl]
    refine wa_if_eq (tgt := 62) F dX6_special_57 (by decide) (fun z => absurd z (by decide)) (fun _ => ?_)
    refine wa_iconst (v := 0) F dX6_special_60 (by decide) ?_
    refine wa_iret F rfl (Nat.le_of_ble_eq_true rfl) (Nat.le_of_ble_eq_true rfl) dX6_special_61 ?_
    have ek : kSpc S a b = 1 := by simp [kSpc, c5]
    have es1 : sSpc S a b = S := by simp [sSpc, c5, ]
    exact ⟨by rw [ek, mR_n (by decide)], rfl, by rw [ek, es1, mS_n (by decide)]⟩
  · skip
    replace c5 : (sIn a 0 (S 2 0 - 1)) = true := bI_t c5
    obtain ⟨ja, la, rfl⟩ := sIn_nat hc.1 (by omega) c5
    have ea : tn (nI ja) = ja := tn_nI (by omega)
    refine wa_aload_n F dX6_special_8 (i := 0) rfl 0 rfl ?_
    refine wa_iload_n F dX6_special_9 (i := 2) rfl 2 rfl ?_
    refine wa_callV F [] (c_X6_isAct hst D TC H0 ad X S o b) mw_X6_isAct ml_X6_131 hm_m rfl rfl (Nat.le_of_ble_eq_true rfl) ⟨Nat.le_of_ble_eq_true rfl, Nat.le_of_ble_eq_true rfl⟩ ⟨Nat.le_of_ble_eq_true rfl, Nat.le_of_ble_eq_true rfl⟩ dX6_special_10 PR_ag (fun _ z => z.elim) ?_
    rintro _ _ _ ⟨rfl, rfl, rfl⟩
    refine wa_if_eq (tgt := 20) F dX6_special_13 (by decide) (fun c13 => ?_) (fun c13 => ?_)
    · skip
      replace c13 : (sIn b 0 (S 2 0 - 1)) = false := bI_f c13
      refine wa_iconst (v := 0) F dX6_special_20 (by decide) ?_
      refine wa_istore_n (lv' := [(3, .int 0), (0, .ref 2), (1, .int (nI ja)), (2, .int b)]) F dX6_special_21 (i := 3) rfl (by decide) rfl ?_
      refine wa_aload_n F dX6_special_22 (i := 0) rfl 1 rfl ?_
      refine wa_iload_n F dX6_special_23 (i := 3) rfl 0 rfl ?_
      refine wa_if_ne (tgt := 31) F dX6_special_24 (by decide) (fun z => absurd (by decide) z) (fun _ => ?_)
      refine wa_iconst (v := 1) F dX6_special_27 (by decide) ?_
      refine wa_goto (tgt := 54) F dX6_special_28 (by decide) ?_
      refine wa_callV F [] (c_X6_refused hst D TC H0 ad X S o 1) mw_X6_refused ml_X6_127 hm_m rfl rfl (Nat.le_of_ble_eq_true rfl) ⟨Nat.le_of_ble_eq_true rfl, Nat.le_of_ble_eq_true rfl⟩ ⟨Nat.le_of_ble_eq_true rfl, Nat.le_of_ble_eq_true rfl⟩ dX6_special_54 PR_ag (fun _ z => z.elim) ?_
      rintro _ _ _ ⟨rfl, rfl, rfl⟩
      rw [show (bI (decide (¬ (1 : Int32) = 0))) = 1 from rfl]
      refine wa_if_eq (tgt := 62) F dX6_special_57 (by decide) (fun z => absurd z (by decide)) (fun _ => ?_)
      refine wa_iconst (v := 0) F dX6_special_60 (by decide) ?_
      refine wa_iret F rfl (Nat.le_of_ble_eq_true rfl) (Nat.le_of_ble_eq_true rfl) dX6_special_61 ?_
      have ek : kSpc S (nI ja) b = 1 := by simp [kSpc, c5, c13, ea]
      have es1 : sSpc S (nI ja) b = S := by simp [sSpc, c5, c13, ea]
      exact ⟨by rw [ek, mR_n (by decide)], rfl, by rw [ek, es1, mS_n (by decide)]⟩
    · skip
      replace c13 : (sIn b 0 (S 2 0 - 1)) = true := bI_t c13
      obtain ⟨jb, lb, rfl⟩ := sIn_nat hc.1 (by omega) c13
      have eb : tn (nI jb) = jb := tn_nI (by omega)
      refine wa_iconst (v := 1) F dX6_special_16 (by decide) ?_
      refine wa_goto (tgt := 21) F dX6_special_17 (by decide) ?_
      refine wa_istore_n (lv' := [(3, .int 1), (0, .ref 2), (1, .int (nI ja)), (2, .int (nI jb))]) F dX6_special_21 (i := 3) rfl (by decide) rfl ?_
      refine wa_aload_n F dX6_special_22 (i := 0) rfl 1 rfl ?_
      refine wa_iload_n F dX6_special_23 (i := 3) rfl 0 rfl ?_
      refine wa_if_ne (tgt := 31) F dX6_special_24 (by decide) (fun _ => ?_) (fun z => absurd z (by decide))
      refine wa_iload_n F dX6_special_31 (i := 1) rfl 2 rfl ?_
      refine wa_iload_n F dX6_special_32 (i := 2) rfl 3 rfl ?_
      refine wa_icmp_ne (tgt := 40) F dX6_special_33 (by decide) (fun c33 => ?_) (fun c33 => ?_)
      · skip
        refine wa_aload_n F dX6_special_40 (i := 0) rfl 1 rfl ?_
        refine wa_iload_n F dX6_special_41 (i := 2) rfl 3 rfl ?_
        refine wa_iload_n F dX6_special_42 (i := 1) rfl 2 rfl ?_
        refine wa_callV F [.ref 2] (c_X6_isAbove hst D TC H0 ad X S o jb ja (by omega) (by omega) h7 h8) mw_X6_isAbove ml_X6_134 hm_m rfl rfl (Nat.le_of_ble_eq_true rfl) ⟨Nat.le_of_ble_eq_true rfl, Nat.le_of_ble_eq_true rfl⟩ ⟨Nat.le_of_ble_eq_true rfl, Nat.le_of_ble_eq_true rfl⟩ dX6_special_43 PR_ag (fun _ z => z.elim) ?_
        rintro _ _ _ ⟨rfl, rfl, rfl⟩
        refine wa_if_eq (tgt := 53) F dX6_special_46 (by decide) (fun c46 => ?_) (fun c46 => ?_)
        · skip
          refine wa_iconst (v := 0) F dX6_special_53 (by decide) ?_
          refine wa_callV F [] (c_X6_refused hst D TC H0 ad X (uReach jb S) o 0) mw_X6_refused ml_X6_127 hm_m rfl rfl (Nat.le_of_ble_eq_true rfl) ⟨Nat.le_of_ble_eq_true rfl, Nat.le_of_ble_eq_true rfl⟩ ⟨Nat.le_of_ble_eq_true rfl, Nat.le_of_ble_eq_true rfl⟩ dX6_special_54 PR_ag (fun _ z => z.elim) ?_
          rintro _ _ _ ⟨rfl, rfl, rfl⟩
          rw [show (bI (decide (¬ (0 : Int32) = 0))) = 0 from rfl]
          refine wa_if_eq (tgt := 62) F dX6_special_57 (by decide) (fun _ => ?_) (fun z => absurd (by decide) z)
          refine wa_aload_n F dX6_special_62 (i := 0) rfl 1 rfl ?_
          refine wa_getf (v := .ref 107) F LY_X6 (hm_m (S := (sU (uReach jb S) 0 0 0))) 7 (by decide) fl_X6_22 rfl dX6_special_63 ?_
          refine wa_bipush (v := 6) F dX6_special_66 (by decide) ?_
          refine wa_iload_n F dX6_special_68 (i := 1) rfl 2 rfl ?_
          refine wa_imulN F dX6_special_69 (a := 6) (b := ja) rfl rfl ?_
          refine wa_iload_n F dX6_special_70 (i := 2) rfl 3 rfl ?_
          refine wa_iaddN F dX6_special_71 (a := 6 * ja) (b := jb) rfl rfl ?_
          refine wa_zald (f := (sU (uReach jb S) 0 0 0) 7) F 2 rfl (hm_7 (S := (sU (uReach jb S) 0 0 0))) ((6 * ja) + jb) rfl (by omega) (by decide) dX6_special_72 ?_
          refine wa_istore (lv' := [(4, .int ((sU (uReach jb S) 0 0 0) 7 ((6 * ja) + jb))), (3, .int 1), (0, .ref 2), (1, .int (nI ja)), (2, .int (nI jb))]) F dX6_special_73 (by decide) rfl ?_
          refine wa_aload_n F dX6_special_75 (i := 0) rfl 2 rfl ?_
          refine wa_getf (v := .ref 107) F LY_X6 (hm_m (S := (sU (uReach jb S) 0 0 0))) 7 (by decide) fl_X6_22 rfl dX6_special_76 ?_
          refine wa_bipush (v := 6) F dX6_special_79 (by decide) ?_
          refine wa_iload_n F dX6_special_81 (i := 1) rfl 3 rfl ?_
          refine wa_imulN F dX6_special_82 (a := 6) (b := ja) rfl rfl ?_
          refine wa_iload_n F dX6_special_83 (i := 2) rfl 4 rfl ?_
          refine wa_iaddN F dX6_special_84 (a := 6 * ja) (b := jb) rfl rfl ?_
          refine wa_iconst (v := 1) F dX6_special_85 (by decide) ?_
          refine wa_zast F 2 rfl (hm_7 (S := (sU (uReach jb S) 0 0 0))) ((6 * ja) + jb) rfl (by omega) (by decide) rfl dX6_special_86 (hu_7 ((6 * ja) + jb) 1) ?_
          refine wa_iload F dX6_special_87 0 rfl ?_
          refine wa_if_ne (tgt := 96) F dX6_special_89 (by decide) (fun c89 => ?_) (fun c89 => ?_)
          · skip
            refine wa_iconst (v := 0) F dX6_special_96 (by decide) ?_
            refine wa_iret F rfl (Nat.le_of_ble_eq_true rfl) (Nat.le_of_ble_eq_true rfl) dX6_special_97 ?_
            have ek : kSpc S (nI ja) (nI jb) = 0 := by simp [kSpc, c5, c13, c33, c46, c89, ea, eb]
            have es1 : sSpc S (nI ja) (nI jb) = (uReach jb S) := by simp [sSpc, c5, c13, c33, c46, c89, ea, eb]
            refine ⟨?_, rfl, ?_⟩
            · rw [ek, mR_0]
              refine congrArg (fun z => some (Value.int z)) ?_
              unfold rSpc; simp only [ea, eb]; rw [show sU (uReach jb S) 0 0 0 7 (6 * ja + jb) = S 7 (6 * ja + jb) from by rw [sU_ne (by decide), uReach_ne (by decide)]] at c89; simp [bI, c89]
            · rw [ek, es1, mS_0]
              unfold uSpc; rw [ea, eb]
          · skip
            refine wa_iconst (v := 1) F dX6_special_92 (by decide) ?_
            refine wa_goto (tgt := 97) F dX6_special_93 (by decide) ?_
            refine wa_iret F rfl (Nat.le_of_ble_eq_true rfl) (Nat.le_of_ble_eq_true rfl) dX6_special_97 ?_
            have ek : kSpc S (nI ja) (nI jb) = 0 := by simp [kSpc, c5, c13, c33, c46, c89, ea, eb]
            have es1 : sSpc S (nI ja) (nI jb) = (uReach jb S) := by simp [sSpc, c5, c13, c33, c46, c89, ea, eb]
            refine ⟨?_, rfl, ?_⟩
            · rw [ek, mR_0]
              refine congrArg (fun z => some (Value.int z)) ?_
              unfold rSpc; simp only [ea, eb]; rw [show sU (uReach jb S) 0 0 0 7 (6 * ja + jb) = S 7 (6 * ja + jb) from by rw [sU_ne (by decide), uReach_ne (by decide)]] at c89; simp [bI, c89]
            · rw [ek, es1, mS_0]
              unfold uSpc; rw [ea, eb]
        · skip
          refine wa_iconst (v := 3) F dX6_special_49 (by decide) ?_
          refine wa_goto (tgt := 54) F dX6_special_50 (by decide) ?_
          refine wa_callV F [] (c_X6_refused hst D TC H0 ad X (uReach jb S) o 3) mw_X6_refused ml_X6_127 hm_m rfl rfl (Nat.le_of_ble_eq_true rfl) ⟨Nat.le_of_ble_eq_true rfl, Nat.le_of_ble_eq_true rfl⟩ ⟨Nat.le_of_ble_eq_true rfl, Nat.le_of_ble_eq_true rfl⟩ dX6_special_54 PR_ag (fun _ z => z.elim) ?_
          rintro _ _ _ ⟨rfl, rfl, rfl⟩
          rw [show (bI (decide (¬ (3 : Int32) = 0))) = 1 from rfl]
          refine wa_if_eq (tgt := 62) F dX6_special_57 (by decide) (fun z => absurd z (by decide)) (fun _ => ?_)
          refine wa_iconst (v := 0) F dX6_special_60 (by decide) ?_
          refine wa_iret F rfl (Nat.le_of_ble_eq_true rfl) (Nat.le_of_ble_eq_true rfl) dX6_special_61 ?_
          have ek : kSpc S (nI ja) (nI jb) = 3 := by simp [kSpc, c5, c13, c33, c46, ea, eb]
          have es1 : sSpc S (nI ja) (nI jb) = (uReach jb S) := by simp [sSpc, c5, c13, c33, c46, ea, eb]
          exact ⟨by rw [ek, mR_n (by decide)], rfl, by rw [ek, es1, mS_n (by decide)]⟩
      · skip
        refine wa_iconst (v := 2) F dX6_special_36 (by decide) ?_
        refine wa_goto (tgt := 54) F dX6_special_37 (by decide) ?_
        refine wa_callV F [] (c_X6_refused hst D TC H0 ad X S o 2) mw_X6_refused ml_X6_127 hm_m rfl rfl (Nat.le_of_ble_eq_true rfl) ⟨Nat.le_of_ble_eq_true rfl, Nat.le_of_ble_eq_true rfl⟩ ⟨Nat.le_of_ble_eq_true rfl, Nat.le_of_ble_eq_true rfl⟩ dX6_special_54 PR_ag (fun _ z => z.elim) ?_
        rintro _ _ _ ⟨rfl, rfl, rfl⟩
        rw [show (bI (decide (¬ (2 : Int32) = 0))) = 1 from rfl]
        refine wa_if_eq (tgt := 62) F dX6_special_57 (by decide) (fun z => absurd z (by decide)) (fun _ => ?_)
        refine wa_iconst (v := 0) F dX6_special_60 (by decide) ?_
        refine wa_iret F rfl (Nat.le_of_ble_eq_true rfl) (Nat.le_of_ble_eq_true rfl) dX6_special_61 ?_
        have ek : kSpc S (nI ja) (nI jb) = 2 := by simp [kSpc, c5, c13, c33, ea, eb]
        have es1 : sSpc S (nI ja) (nI jb) = S := by simp [sSpc, c5, c13, c33, ea, eb]
        exact ⟨by rw [ek, mR_n (by decide)], rfl, by rw [ek, es1, mS_n (by decide)]⟩
set_option maxHeartbeats 2000000 in
set_option maxRecDepth 20000 in
theorem c_X6_standard {l : Launch} (hst : l.stackTraces = false) (D : va_G) (TC : Nat → ClassId) (H0 : Heap) (ad : Nat → Nat) (X S : St) (o : Nat → Int64) (a : Int32) (b : Int32) (n : Nat) (hi : INV n S) : CC l D (tysOf TC) H0 yX6_standard cX6_standard 3 (some .int) 6 0 0 [.ref 2, .int a, .int b] ad (hall TC X S o) (PR ad (some (.int (mR (kStd S a b) (rStd S)))) (hall TC X (mS (kStd S a b) (S) (uStd a b)) o)) (fun _ => False) := by
  refine cc_intro hst (by decide +kernel) (Nat.le_of_ble_eq_true rfl) ?_
  intro p e s m args below meth c F
  rw [show lv_args 0 [.ref 2, .int a, .int b] = [(0, .ref 2), (1, .int a), (2, .int b)] from rfl]
  obtain ⟨hc, hs, hp, hd0, hm, h7, h8, hbo0, hu0, hvr⟩ := id hi
  have hc2 := hc.2; have hs2 := hs.2; have hp2 := hp.2; have hd := hd0.2; have hm2 := hm.2
  refine wa_aload_n F dX6_standard_0 (i := 0) rfl 0 rfl ?_
  refine wa_iload_n F dX6_standard_1 (i := 1) rfl 1 rfl ?_
  refine wa_iconst (v := 1) F dX6_standard_2 (by decide) ?_
  refine wa_sipush (v := 255) F dX6_standard_3 (by decide) ?_
  refine wa_callS F [.ref 2] (c_X6_in hst D (tysOf TC) H0 ad (hall TC X S o) a 1 255) mw_X6_in ml_X6_111 rfl (Nat.le_of_ble_eq_true rfl) ⟨Nat.le_of_ble_eq_true rfl, Nat.le_of_ble_eq_true rfl⟩ ⟨Nat.le_of_ble_eq_true rfl, Nat.le_of_ble_eq_true rfl⟩ dX6_standard_6 PR_ag (fun _ z => z.elim) ?_
  rintro _ _ _ ⟨rfl, rfl, rfl⟩
  refine wa_if_eq (tgt := 23) F dX6_standard_9 (by decide) (fun c9 => ?_) (fun c9 => ?_)
  · skip
    replace c9 : (sIn a 1 255) = false := bI_f c9
    refine wa_iconst (v := 1) F dX6_standard_23 (by decide) ?_
    refine wa_goto (tgt := 41) F dX6_standard_24 (by decide) ?_
    refine wa_callV F [] (c_X6_refused hst D TC H0 ad X S o 1) mw_X6_refused ml_X6_127 hm_m rfl rfl (Nat.le_of_ble_eq_true rfl) ⟨Nat.le_of_ble_eq_true rfl, Nat.le_of_ble_eq_true rfl⟩ ⟨Nat.le_of_ble_eq_true rfl, Nat.le_of_ble_eq_true rfl⟩ dX6_standard_41 PR_ag (fun _ z => z.elim) ?_
    rintro _ _ _ ⟨rfl, rfl, rfl⟩
    rw [show (bI (decide (¬ (1 : Int32) = 0))) = 1 from rfl]
    refine wa_if_eq (tgt := 49) F dX6_standard_44 (by decide) (fun z => absurd z (by decide)) (fun _ => ?_)
    refine wa_iconst (v := 0) F dX6_standard_47 (by decide) ?_
    refine wa_iret F rfl (Nat.le_of_ble_eq_true rfl) (Nat.le_of_ble_eq_true rfl) dX6_standard_48 ?_
    have ek : kStd S a b = 1 := by simp [kStd, c9]
    exact ⟨by rw [ek, mR_n (by decide)], rfl, by rw [ek, mS_n (by decide)]⟩
  · skip
    replace c9 : (sIn a 1 255) = true := bI_t c9
    refine wa_iload_n F dX6_standard_12 (i := 2) rfl 2 rfl ?_
    refine wa_iconst (v := 0) F dX6_standard_13 (by decide) ?_
    refine wa_sipush (v := 5000) F dX6_standard_14 (by decide) ?_
    refine wa_callS F [.ref 2] (c_X6_in hst D (tysOf TC) H0 ad (hall TC X S o) b 0 5000) mw_X6_in ml_X6_111 rfl (Nat.le_of_ble_eq_true rfl) ⟨Nat.le_of_ble_eq_true rfl, Nat.le_of_ble_eq_true rfl⟩ ⟨Nat.le_of_ble_eq_true rfl, Nat.le_of_ble_eq_true rfl⟩ dX6_standard_17 PR_ag (fun _ z => z.elim) ?_
    rintro _ _ _ ⟨rfl, rfl, rfl⟩
    refine wa_if_ne (tgt := 27) F dX6_standard_20 (by decide) (fun c20 => ?_) (fun c20 => ?_)
    · skip
      replace c20 : (sIn b 0 5000) = true := bI_t c20
      refine wa_aload_n F dX6_standard_27 (i := 0) rfl 0 rfl ?_
      refine wa_getf (v := .int (S 9 0)) F LY_X6 (hm_m (S := S)) 9 (by decide) fl_X6_115 rfl dX6_standard_28 ?_
      refine wa_bipush (v := 12) F dX6_standard_31 (by decide) ?_
      refine wa_icmp_ne (tgt := 40) F dX6_standard_33 (by decide) (fun c33 => ?_) (fun c33 => ?_)
      · skip
        have hlt9 : cnt S 9 < 12 := cn_lt hs rfl c33
        refine wa_iconst (v := 0) F dX6_standard_40 (by decide) ?_
        refine wa_callV F [] (c_X6_refused hst D TC H0 ad X S o 0) mw_X6_refused ml_X6_127 hm_m rfl rfl (Nat.le_of_ble_eq_true rfl) ⟨Nat.le_of_ble_eq_true rfl, Nat.le_of_ble_eq_true rfl⟩ ⟨Nat.le_of_ble_eq_true rfl, Nat.le_of_ble_eq_true rfl⟩ dX6_standard_41 PR_ag (fun _ z => z.elim) ?_
        rintro _ _ _ ⟨rfl, rfl, rfl⟩
        rw [show (bI (decide (¬ (0 : Int32) = 0))) = 0 from rfl]
        refine wa_if_eq (tgt := 49) F dX6_standard_44 (by decide) (fun _ => ?_) (fun z => absurd (by decide) z)
        refine wa_aload_n F dX6_standard_49 (i := 0) rfl 0 rfl ?_
        refine wa_getf (v := .ref 110) F LY_X6 (hm_m (S := (sU S 0 0 0))) 10 (by decide) fl_X6_29 rfl dX6_standard_50 ?_
        refine wa_aload_n F dX6_standard_53 (i := 0) rfl 0 rfl ?_
        refine wa_getf (v := .int (S 9 0)) F LY_X6 (hm_m (S := (sU S 0 0 0))) 9 (by decide) fl_X6_115 rfl dX6_standard_54 ?_
        refine wa_iload_n F dX6_standard_57 (i := 1) rfl 1 rfl ?_
        refine wa_iast F 0 rfl (hm_10 (S := (sU S 0 0 0))) (cnt S 9) hs.1 (by omega) (by decide) dX6_standard_58 (hu_10 (cnt S 9) a) ?_
        refine wa_aload_n F dX6_standard_59 (i := 0) rfl 0 rfl ?_
        refine wa_getf (v := .ref 111) F LY_X6 (hm_m (S := (sU (sU S 0 0 0) 10 (cnt S 9) a))) 11 (by decide) fl_X6_32 rfl dX6_standard_60 ?_
        refine wa_aload_n F dX6_standard_63 (i := 0) rfl 0 rfl ?_
        refine wa_getf (v := .int (S 9 0)) F LY_X6 (hm_m (S := (sU (sU S 0 0 0) 10 (cnt S 9) a))) 9 (by decide) fl_X6_115 rfl dX6_standard_64 ?_
        refine wa_iload_n F dX6_standard_67 (i := 2) rfl 2 rfl ?_
        refine wa_iast F 0 rfl (hm_11 (S := (sU (sU S 0 0 0) 10 (cnt S 9) a))) (cnt S 9) hs.1 (by omega) (by decide) dX6_standard_68 (hu_11 (cnt S 9) b) ?_
        refine wa_aload_n F dX6_standard_69 (i := 0) rfl 0 rfl ?_
        refine wa_getf (v := .ref 112) F LY_X6 (hm_m (S := (sU (sU (sU S 0 0 0) 10 (cnt S 9) a) 11 (cnt S 9) b))) 12 (by decide) fl_X6_35 rfl dX6_standard_70 ?_
        refine wa_aload_n F dX6_standard_73 (i := 0) rfl 0 rfl ?_
        refine wa_getf (v := .int (S 9 0)) F LY_X6 (hm_m (S := (sU (sU (sU S 0 0 0) 10 (cnt S 9) a) 11 (cnt S 9) b))) 9 (by decide) fl_X6_115 rfl dX6_standard_74 ?_
        refine wa_ldc F ck_X6_138 dX6_standard_77 ?_
        refine wa_iast F 0 rfl (hm_12 (S := (sU (sU (sU S 0 0 0) 10 (cnt S 9) a) 11 (cnt S 9) b))) (cnt S 9) hs.1 (by omega) (by decide) dX6_standard_79 (hu_12 (cnt S 9) 1000000) ?_
        refine wa_aload_n F dX6_standard_80 (i := 0) rfl 0 rfl ?_
        refine wa_dup F dX6_standard_81 rfl ?_
        refine wa_getf (v := .int (S 9 0)) F LY_X6 (hm_m (S := (sU (sU (sU (sU S 0 0 0) 10 (cnt S 9) a) 11 (cnt S 9) b) 12 (cnt S 9) 1000000))) 9 (by decide) fl_X6_115 rfl dX6_standard_82 ?_
        refine wa_iconst (v := 1) F dX6_standard_85 (by decide) ?_
        refine wa_iadd F dX6_standard_86 ?_
        refine wa_putf F LY_X6 (hm_m (S := (sU (sU (sU (sU S 0 0 0) 10 (cnt S 9) a) 11 (cnt S 9) b) 12 (cnt S 9) 1000000))) 9 (by decide) fl_X6_115 rfl rfl rfl (Nat.le_of_ble_eq_true rfl) dX6_standard_87 (hs_9 ((S 9 0) + 1)) ?_
        refine wa_aload_n F dX6_standard_90 (i := 0) rfl 0 rfl ?_
        refine wa_getf (v := .int ((sU (sU (sU (sU (sU S 0 0 0) 10 (cnt S 9) a) 11 (cnt S 9) b) 12 (cnt S 9) 1000000) 9 0 ((S 9 0) + 1)) 9 0)) F LY_X6 (hm_m (S := (sU (sU (sU (sU (sU S 0 0 0) 10 (cnt S 9) a) 11 (cnt S 9) b) 12 (cnt S 9) 1000000) 9 0 ((S 9 0) + 1)))) 9 (by decide) fl_X6_115 rfl dX6_standard_91 ?_
        refine wa_iconst (v := 1) F dX6_standard_94 (by decide) ?_
        refine wa_isub F dX6_standard_95 ?_
        refine wa_iret F rfl (Nat.le_of_ble_eq_true rfl) (Nat.le_of_ble_eq_true rfl) dX6_standard_96 ?_
        have ek : kStd S a b = 0 := by simp [kStd, c9, c20, c33]
        refine ⟨?_, rfl, ?_⟩
        · rw [ek, mR_0]
          refine congrArg (fun z => some (Value.int z)) ?_
          unfold rStd; simp [sU, upd, Int32.add_sub_cancel]
        · rw [ek, mS_0]
          unfold uStd; rfl
      · skip
        refine wa_iconst (v := 2) F dX6_standard_36 (by decide) ?_
        refine wa_goto (tgt := 41) F dX6_standard_37 (by decide) ?_
        refine wa_callV F [] (c_X6_refused hst D TC H0 ad X S o 2) mw_X6_refused ml_X6_127 hm_m rfl rfl (Nat.le_of_ble_eq_true rfl) ⟨Nat.le_of_ble_eq_true rfl, Nat.le_of_ble_eq_true rfl⟩ ⟨Nat.le_of_ble_eq_true rfl, Nat.le_of_ble_eq_true rfl⟩ dX6_standard_41 PR_ag (fun _ z => z.elim) ?_
        rintro _ _ _ ⟨rfl, rfl, rfl⟩
        rw [show (bI (decide (¬ (2 : Int32) = 0))) = 1 from rfl]
        refine wa_if_eq (tgt := 49) F dX6_standard_44 (by decide) (fun z => absurd z (by decide)) (fun _ => ?_)
        refine wa_iconst (v := 0) F dX6_standard_47 (by decide) ?_
        refine wa_iret F rfl (Nat.le_of_ble_eq_true rfl) (Nat.le_of_ble_eq_true rfl) dX6_standard_48 ?_
        have ek : kStd S a b = 2 := by simp [kStd, c9, c20, c33]
        exact ⟨by rw [ek, mR_n (by decide)], rfl, by rw [ek, mS_n (by decide)]⟩
    · skip
      replace c20 : (sIn b 0 5000) = false := bI_f c20
      refine wa_iconst (v := 1) F dX6_standard_23 (by decide) ?_
      refine wa_goto (tgt := 41) F dX6_standard_24 (by decide) ?_
      refine wa_callV F [] (c_X6_refused hst D TC H0 ad X S o 1) mw_X6_refused ml_X6_127 hm_m rfl rfl (Nat.le_of_ble_eq_true rfl) ⟨Nat.le_of_ble_eq_true rfl, Nat.le_of_ble_eq_true rfl⟩ ⟨Nat.le_of_ble_eq_true rfl, Nat.le_of_ble_eq_true rfl⟩ dX6_standard_41 PR_ag (fun _ z => z.elim) ?_
      rintro _ _ _ ⟨rfl, rfl, rfl⟩
      rw [show (bI (decide (¬ (1 : Int32) = 0))) = 1 from rfl]
      refine wa_if_eq (tgt := 49) F dX6_standard_44 (by decide) (fun z => absurd z (by decide)) (fun _ => ?_)
      refine wa_iconst (v := 0) F dX6_standard_47 (by decide) ?_
      refine wa_iret F rfl (Nat.le_of_ble_eq_true rfl) (Nat.le_of_ble_eq_true rfl) dX6_standard_48 ?_
      have ek : kStd S a b = 1 := by simp [kStd, c9, c20]
      exact ⟨by rw [ek, mR_n (by decide)], rfl, by rw [ek, mS_n (by decide)]⟩
set_option maxHeartbeats 2000000 in
set_option maxRecDepth 20000 in
theorem c_X6_withdraw {l : Launch} (hst : l.stackTraces = false) (D : va_G) (TC : Nat → ClassId) (H0 : Heap) (ad : Nat → Nat) (X S : St) (o : Nat → Int64) (v : Int32) (b : Int32) (n : Nat) (hi : INV n S) : CC l D (tysOf TC) H0 yX6_withdraw cX6_withdraw 4 (some .int) 6 0 0 [.ref 2, .int v, .int b] ad (hall TC X S o) (PR ad (some (.int (mR (kWd S v b) (rWd S v)))) (hall TC X (mS (kWd S v b) (S) (uWd v b)) o)) (fun _ => False) := by
  refine cc_intro hst (by decide +kernel) (Nat.le_of_ble_eq_true rfl) ?_
  intro p e s m args below meth c F
  rw [show lv_args 0 [.ref 2, .int v, .int b] = [(0, .ref 2), (1, .int v), (2, .int b)] from rfl]
  obtain ⟨hc, hs, hp, hd0, hm, h7, h8, hbo0, hu0, hvr⟩ := id hi
  have hc2 := hc.2; have hs2 := hs.2; have hp2 := hp.2; have hd := hd0.2; have hm2 := hm.2
  refine wa_aload_n F dX6_withdraw_0 (i := 0) rfl 0 rfl ?_
  refine wa_aload_n F dX6_withdraw_1 (i := 0) rfl 0 rfl ?_
  refine wa_iload_n F dX6_withdraw_2 (i := 1) rfl 1 rfl ?_
  refine wa_callV F [.ref 2] (c_X6_isStandard hst D TC H0 ad X S o v) mw_X6_isStandard ml_X6_139 hm_m rfl rfl (Nat.le_of_ble_eq_true rfl) ⟨Nat.le_of_ble_eq_true rfl, Nat.le_of_ble_eq_true rfl⟩ ⟨Nat.le_of_ble_eq_true rfl, Nat.le_of_ble_eq_true rfl⟩ dX6_withdraw_3 PR_ag (fun _ z => z.elim) ?_
  rintro _ _ _ ⟨rfl, rfl, rfl⟩
  refine wa_if_ne (tgt := 13) F dX6_withdraw_6 (by decide) (fun c6 => ?_) (fun c6 => ?_)
  · skip
    replace c6 : (sIn v 0 (S 9 0 - 1)) = true := bI_t c6
    obtain ⟨jv, lv, rfl⟩ := sIn_nat hs.1 (by omega) c6
    have ev : tn (nI jv) = jv := tn_nI (by omega)
    refine wa_iload_n F dX6_withdraw_13 (i := 2) rfl 2 rfl ?_
    refine wa_aload_n F dX6_withdraw_14 (i := 0) rfl 0 rfl ?_
    refine wa_getf (v := .int (S 1 0)) F LY_X6 (hm_m (S := S)) 1 (by decide) fl_X6_142 rfl dX6_withdraw_15 ?_
    refine wa_sipush (v := 5000) F dX6_withdraw_18 (by decide) ?_
    refine wa_callS F [.ref 2] (c_X6_in hst D (tysOf TC) H0 ad (hall TC X S o) b (S 1 0) 5000) mw_X6_in ml_X6_111 rfl (Nat.le_of_ble_eq_true rfl) ⟨Nat.le_of_ble_eq_true rfl, Nat.le_of_ble_eq_true rfl⟩ ⟨Nat.le_of_ble_eq_true rfl, Nat.le_of_ble_eq_true rfl⟩ dX6_withdraw_21 PR_ag (fun _ z => z.elim) ?_
    rintro _ _ _ ⟨rfl, rfl, rfl⟩
    refine wa_if_ne (tgt := 31) F dX6_withdraw_24 (by decide) (fun c24 => ?_) (fun c24 => ?_)
    · skip
      replace c24 : (sIn b (S 1 0) 5000) = true := bI_t c24
      refine wa_iconst (v := 0) F dX6_withdraw_31 (by decide) ?_
      refine wa_callV F [] (c_X6_refused hst D TC H0 ad X S o 0) mw_X6_refused ml_X6_127 hm_m rfl rfl (Nat.le_of_ble_eq_true rfl) ⟨Nat.le_of_ble_eq_true rfl, Nat.le_of_ble_eq_true rfl⟩ ⟨Nat.le_of_ble_eq_true rfl, Nat.le_of_ble_eq_true rfl⟩ dX6_withdraw_32 PR_ag (fun _ z => z.elim) ?_
      rintro _ _ _ ⟨rfl, rfl, rfl⟩
      rw [show (bI (decide (¬ (0 : Int32) = 0))) = 0 from rfl]
      refine wa_if_eq (tgt := 40) F dX6_withdraw_35 (by decide) (fun _ => ?_) (fun z => absurd (by decide) z)
      refine wa_aload_n F dX6_withdraw_40 (i := 0) rfl 0 rfl ?_
      refine wa_getf (v := .ref 112) F LY_X6 (hm_m (S := (sU S 0 0 0))) 12 (by decide) fl_X6_35 rfl dX6_withdraw_41 ?_
      refine wa_iload_n F dX6_withdraw_44 (i := 1) rfl 1 rfl ?_
      refine wa_iald (f := S 12) F 0 rfl (hm_12 (S := (sU S 0 0 0))) jv rfl (by omega) (by decide) dX6_withdraw_45 ?_
      refine wa_istore_n (lv' := [(3, .int (S 12 jv)), (0, .ref 2), (1, .int (nI jv)), (2, .int b)]) F dX6_withdraw_46 (i := 3) rfl (by decide) rfl ?_
      refine wa_aload_n F dX6_withdraw_47 (i := 0) rfl 1 rfl ?_
      refine wa_getf (v := .ref 112) F LY_X6 (hm_m (S := (sU S 0 0 0))) 12 (by decide) fl_X6_35 rfl dX6_withdraw_48 ?_
      refine wa_iload_n F dX6_withdraw_51 (i := 1) rfl 2 rfl ?_
      refine wa_iload_n F dX6_withdraw_52 (i := 2) rfl 3 rfl ?_
      refine wa_iast F 0 rfl (hm_12 (S := (sU S 0 0 0))) jv rfl (by omega) (by decide) dX6_withdraw_53 (hu_12 jv b) ?_
      refine wa_iload_n F dX6_withdraw_54 (i := 3) rfl 0 rfl ?_
      refine wa_ldc F ck_X6_138 dX6_withdraw_55 ?_
      refine wa_icmp_ne (tgt := 64) F dX6_withdraw_57 (by decide) (fun c57 => ?_) (fun c57 => ?_)
      · skip
        refine wa_iload_n F dX6_withdraw_64 (i := 3) rfl 0 rfl ?_
        refine wa_iret F rfl (Nat.le_of_ble_eq_true rfl) (Nat.le_of_ble_eq_true rfl) dX6_withdraw_65 ?_
        have ek : kWd S (nI jv) b = 0 := by simp [kWd, c6, c24, c57, ev]
        refine ⟨?_, rfl, ?_⟩
        · rw [ek, mR_0]
          refine congrArg (fun z => some (Value.int z)) ?_
          unfold rWd unt; rw [ev]; simp [c57]
        · rw [ek, mS_0]
          unfold uWd; rw [ev] <;> rfl
      · skip
        refine wa_iconst (v := (-1)) F dX6_withdraw_60 (by decide) ?_
        refine wa_goto (tgt := 65) F dX6_withdraw_61 (by decide) ?_
        refine wa_iret F rfl (Nat.le_of_ble_eq_true rfl) (Nat.le_of_ble_eq_true rfl) dX6_withdraw_65 ?_
        have ek : kWd S (nI jv) b = 0 := by simp [kWd, c6, c24, c57, ev]
        refine ⟨?_, rfl, ?_⟩
        · rw [ek, mR_0]
          refine congrArg (fun z => some (Value.int z)) ?_
          unfold rWd unt; rw [ev]; simp [c57]
        · rw [ek, mS_0]
          unfold uWd; rw [ev] <;> rfl
    · skip
      replace c24 : (sIn b (S 1 0) 5000) = false := bI_f c24
      refine wa_iconst (v := 2) F dX6_withdraw_27 (by decide) ?_
      refine wa_goto (tgt := 32) F dX6_withdraw_28 (by decide) ?_
      refine wa_callV F [] (c_X6_refused hst D TC H0 ad X S o 2) mw_X6_refused ml_X6_127 hm_m rfl rfl (Nat.le_of_ble_eq_true rfl) ⟨Nat.le_of_ble_eq_true rfl, Nat.le_of_ble_eq_true rfl⟩ ⟨Nat.le_of_ble_eq_true rfl, Nat.le_of_ble_eq_true rfl⟩ dX6_withdraw_32 PR_ag (fun _ z => z.elim) ?_
      rintro _ _ _ ⟨rfl, rfl, rfl⟩
      rw [show (bI (decide (¬ (2 : Int32) = 0))) = 1 from rfl]
      refine wa_if_eq (tgt := 40) F dX6_withdraw_35 (by decide) (fun z => absurd z (by decide)) (fun _ => ?_)
      refine wa_iconst (v := 0) F dX6_withdraw_38 (by decide) ?_
      refine wa_iret F rfl (Nat.le_of_ble_eq_true rfl) (Nat.le_of_ble_eq_true rfl) dX6_withdraw_39 ?_
      have ek : kWd S (nI jv) b = 2 := by simp [kWd, c6, c24, ev]
      exact ⟨by rw [ek, mR_n (by decide)], rfl, by rw [ek, mS_n (by decide)]⟩
  · skip
    replace c6 : (sIn v 0 (S 9 0 - 1)) = false := bI_f c6
    refine wa_iconst (v := 1) F dX6_withdraw_9 (by decide) ?_
    refine wa_goto (tgt := 32) F dX6_withdraw_10 (by decide) ?_
    refine wa_callV F [] (c_X6_refused hst D TC H0 ad X S o 1) mw_X6_refused ml_X6_127 hm_m rfl rfl (Nat.le_of_ble_eq_true rfl) ⟨Nat.le_of_ble_eq_true rfl, Nat.le_of_ble_eq_true rfl⟩ ⟨Nat.le_of_ble_eq_true rfl, Nat.le_of_ble_eq_true rfl⟩ dX6_withdraw_32 PR_ag (fun _ z => z.elim) ?_
    rintro _ _ _ ⟨rfl, rfl, rfl⟩
    rw [show (bI (decide (¬ (1 : Int32) = 0))) = 1 from rfl]
    refine wa_if_eq (tgt := 40) F dX6_withdraw_35 (by decide) (fun z => absurd z (by decide)) (fun _ => ?_)
    refine wa_iconst (v := 0) F dX6_withdraw_38 (by decide) ?_
    refine wa_iret F rfl (Nat.le_of_ble_eq_true rfl) (Nat.le_of_ble_eq_true rfl) dX6_withdraw_39 ?_
    have ek : kWd S v b = 1 := by simp [kWd, c6]
    exact ⟨by rw [ek, mR_n (by decide)], rfl, by rw [ek, mS_n (by decide)]⟩
set_option maxHeartbeats 2000000 in
set_option maxRecDepth 20000 in
theorem c_X6_restrict {l : Launch} (hst : l.stackTraces = false) (D : va_G) (TC : Nat → ClassId) (H0 : Heap) (ad : Nat → Nat) (X S : St) (o : Nat → Int64) (v : Int32) (b : Int32) (n : Nat) (hi : INV n S) : CC l D (tysOf TC) H0 yX6_restrict cX6_restrict 3 (some .int) 6 0 0 [.ref 2, .int v, .int b] ad (hall TC X S o) (PR ad (some (.int (mR (kRs S v b) (rRs S v b)))) (hall TC X (mS (kRs S v b) (S) (uRs v b)) o)) (fun _ => False) := by
  refine cc_intro hst (by decide +kernel) (Nat.le_of_ble_eq_true rfl) ?_
  intro p e s m args below meth c F
  rw [show lv_args 0 [.ref 2, .int v, .int b] = [(0, .ref 2), (1, .int v), (2, .int b)] from rfl]
  obtain ⟨hc, hs, hp, hd0, hm, h7, h8, hbo0, hu0, hvr⟩ := id hi
  have hc2 := hc.2; have hs2 := hs.2; have hp2 := hp.2; have hd := hd0.2; have hm2 := hm.2
  refine wa_aload_n F dX6_restrict_0 (i := 0) rfl 0 rfl ?_
  refine wa_aload_n F dX6_restrict_1 (i := 0) rfl 0 rfl ?_
  refine wa_iload_n F dX6_restrict_2 (i := 1) rfl 1 rfl ?_
  refine wa_callV F [.ref 2] (c_X6_isStandard hst D TC H0 ad X S o v) mw_X6_isStandard ml_X6_139 hm_m rfl rfl (Nat.le_of_ble_eq_true rfl) ⟨Nat.le_of_ble_eq_true rfl, Nat.le_of_ble_eq_true rfl⟩ ⟨Nat.le_of_ble_eq_true rfl, Nat.le_of_ble_eq_true rfl⟩ dX6_restrict_3 PR_ag (fun _ z => z.elim) ?_
  rintro _ _ _ ⟨rfl, rfl, rfl⟩
  refine wa_if_ne (tgt := 13) F dX6_restrict_6 (by decide) (fun c6 => ?_) (fun c6 => ?_)
  · skip
    replace c6 : (sIn v 0 (S 9 0 - 1)) = true := bI_t c6
    obtain ⟨jv, lv, rfl⟩ := sIn_nat hs.1 (by omega) c6
    have ev : tn (nI jv) = jv := tn_nI (by omega)
    refine wa_iload_n F dX6_restrict_13 (i := 2) rfl 2 rfl ?_
    refine wa_iconst (v := 1) F dX6_restrict_14 (by decide) ?_
    refine wa_sipush (v := 255) F dX6_restrict_15 (by decide) ?_
    refine wa_callS F [.ref 2] (c_X6_in hst D (tysOf TC) H0 ad (hall TC X S o) b 1 255) mw_X6_in ml_X6_111 rfl (Nat.le_of_ble_eq_true rfl) ⟨Nat.le_of_ble_eq_true rfl, Nat.le_of_ble_eq_true rfl⟩ ⟨Nat.le_of_ble_eq_true rfl, Nat.le_of_ble_eq_true rfl⟩ dX6_restrict_18 PR_ag (fun _ z => z.elim) ?_
    rintro _ _ _ ⟨rfl, rfl, rfl⟩
    refine wa_if_ne (tgt := 28) F dX6_restrict_21 (by decide) (fun c21 => ?_) (fun c21 => ?_)
    · skip
      replace c21 : (sIn b 1 255) = true := bI_t c21
      refine wa_iconst (v := 0) F dX6_restrict_28 (by decide) ?_
      refine wa_callV F [] (c_X6_refused hst D TC H0 ad X S o 0) mw_X6_refused ml_X6_127 hm_m rfl rfl (Nat.le_of_ble_eq_true rfl) ⟨Nat.le_of_ble_eq_true rfl, Nat.le_of_ble_eq_true rfl⟩ ⟨Nat.le_of_ble_eq_true rfl, Nat.le_of_ble_eq_true rfl⟩ dX6_restrict_29 PR_ag (fun _ z => z.elim) ?_
      rintro _ _ _ ⟨rfl, rfl, rfl⟩
      rw [show (bI (decide (¬ (0 : Int32) = 0))) = 0 from rfl]
      refine wa_if_eq (tgt := 37) F dX6_restrict_32 (by decide) (fun _ => ?_) (fun z => absurd (by decide) z)
      refine wa_aload_n F dX6_restrict_37 (i := 0) rfl 0 rfl ?_
      refine wa_getf (v := .ref 110) F LY_X6 (hm_m (S := (sU S 0 0 0))) 10 (by decide) fl_X6_29 rfl dX6_restrict_38 ?_
      refine wa_iload_n F dX6_restrict_41 (i := 1) rfl 1 rfl ?_
      refine wa_dup2 F dX6_restrict_42 rfl rfl ?_
      refine wa_iald (f := S 10) F 0 rfl (hm_10 (S := (sU S 0 0 0))) jv rfl (by omega) (by decide) dX6_restrict_43 ?_
      refine wa_iload_n F dX6_restrict_44 (i := 2) rfl 2 rfl ?_
      refine wa_iconst (v := (-1)) F dX6_restrict_45 (by decide) ?_
      refine wa_ixor F dX6_restrict_46 ?_
      refine wa_iand F dX6_restrict_47 ?_
      refine wa_iast F 0 rfl (hm_10 (S := (sU S 0 0 0))) jv rfl (by omega) (by decide) dX6_restrict_48 (hu_10 jv ((S 10 jv) &&& (b ^^^ (-1)))) ?_
      refine wa_aload_n F dX6_restrict_49 (i := 0) rfl 0 rfl ?_
      refine wa_getf (v := .ref 110) F LY_X6 (hm_m (S := (sU (sU S 0 0 0) 10 jv ((S 10 jv) &&& (b ^^^ (-1)))))) 10 (by decide) fl_X6_29 rfl dX6_restrict_50 ?_
      refine wa_iload_n F dX6_restrict_53 (i := 1) rfl 1 rfl ?_
      refine wa_iald (f := (sU (sU S 0 0 0) 10 jv ((S 10 jv) &&& (b ^^^ (-1)))) 10) F 0 rfl (hm_10 (S := (sU (sU S 0 0 0) 10 jv ((S 10 jv) &&& (b ^^^ (-1)))))) jv rfl (by omega) (by decide) dX6_restrict_54 ?_
      refine wa_iret F rfl (Nat.le_of_ble_eq_true rfl) (Nat.le_of_ble_eq_true rfl) dX6_restrict_55 ?_
      have ek : kRs S (nI jv) b = 0 := by simp [kRs, c6, c21, ev]
      refine ⟨?_, rfl, ?_⟩
      · rw [ek, mR_0]
        refine congrArg (fun z => some (Value.int z)) ?_
        unfold rRs; rw [ev]; simp [sU, upd]
      · rw [ek, mS_0]
        unfold uRs; rw [ev]; rfl
    · skip
      replace c21 : (sIn b 1 255) = false := bI_f c21
      refine wa_iconst (v := 2) F dX6_restrict_24 (by decide) ?_
      refine wa_goto (tgt := 29) F dX6_restrict_25 (by decide) ?_
      refine wa_callV F [] (c_X6_refused hst D TC H0 ad X S o 2) mw_X6_refused ml_X6_127 hm_m rfl rfl (Nat.le_of_ble_eq_true rfl) ⟨Nat.le_of_ble_eq_true rfl, Nat.le_of_ble_eq_true rfl⟩ ⟨Nat.le_of_ble_eq_true rfl, Nat.le_of_ble_eq_true rfl⟩ dX6_restrict_29 PR_ag (fun _ z => z.elim) ?_
      rintro _ _ _ ⟨rfl, rfl, rfl⟩
      rw [show (bI (decide (¬ (2 : Int32) = 0))) = 1 from rfl]
      refine wa_if_eq (tgt := 37) F dX6_restrict_32 (by decide) (fun z => absurd z (by decide)) (fun _ => ?_)
      refine wa_iconst (v := 0) F dX6_restrict_35 (by decide) ?_
      refine wa_iret F rfl (Nat.le_of_ble_eq_true rfl) (Nat.le_of_ble_eq_true rfl) dX6_restrict_36 ?_
      have ek : kRs S (nI jv) b = 2 := by simp [kRs, c6, c21, ev]
      exact ⟨by rw [ek, mR_n (by decide)], rfl, by rw [ek, mS_n (by decide)]⟩
  · skip
    replace c6 : (sIn v 0 (S 9 0 - 1)) = false := bI_f c6
    refine wa_iconst (v := 1) F dX6_restrict_9 (by decide) ?_
    refine wa_goto (tgt := 29) F dX6_restrict_10 (by decide) ?_
    refine wa_callV F [] (c_X6_refused hst D TC H0 ad X S o 1) mw_X6_refused ml_X6_127 hm_m rfl rfl (Nat.le_of_ble_eq_true rfl) ⟨Nat.le_of_ble_eq_true rfl, Nat.le_of_ble_eq_true rfl⟩ ⟨Nat.le_of_ble_eq_true rfl, Nat.le_of_ble_eq_true rfl⟩ dX6_restrict_29 PR_ag (fun _ z => z.elim) ?_
    rintro _ _ _ ⟨rfl, rfl, rfl⟩
    rw [show (bI (decide (¬ (1 : Int32) = 0))) = 1 from rfl]
    refine wa_if_eq (tgt := 37) F dX6_restrict_32 (by decide) (fun z => absurd z (by decide)) (fun _ => ?_)
    refine wa_iconst (v := 0) F dX6_restrict_35 (by decide) ?_
    refine wa_iret F rfl (Nat.le_of_ble_eq_true rfl) (Nat.le_of_ble_eq_true rfl) dX6_restrict_36 ?_
    have ek : kRs S v b = 1 := by simp [kRs, c6]
    exact ⟨by rw [ek, mR_n (by decide)], rfl, by rw [ek, mS_n (by decide)]⟩
set_option maxHeartbeats 2000000 in
set_option maxRecDepth 20000 in
theorem c_X6_product {l : Launch} (hst : l.stackTraces = false) (D : va_G) (TC : Nat → ClassId) (H0 : Heap) (ad : Nat → Nat) (X S : St) (o : Nat → Int64) (b : Int32) (n : Nat) (hi : INV n S) : CC l D (tysOf TC) H0 yX6_product cX6_product 2 (some .int) 6 0 0 [.ref 2, .int b] ad (hall TC X S o) (PR ad (some (.int (mR (kPr S b) (rPr S)))) (hall TC X (mS (kPr S b) (S) (uPr b)) o)) (fun _ => False) := by
  refine cc_intro hst (by decide +kernel) (Nat.le_of_ble_eq_true rfl) ?_
  intro p e s m args below meth c F
  rw [show lv_args 0 [.ref 2, .int b] = [(0, .ref 2), (1, .int b)] from rfl]
  obtain ⟨hc, hs, hp, hd0, hm, h7, h8, hbo0, hu0, hvr⟩ := id hi
  have hc2 := hc.2; have hs2 := hs.2; have hp2 := hp.2; have hd := hd0.2; have hm2 := hm.2
  refine wa_aload_n F dX6_product_0 (i := 0) rfl 0 rfl ?_
  refine wa_iload_n F dX6_product_1 (i := 1) rfl 1 rfl ?_
  refine wa_iconst (v := 1) F dX6_product_2 (by decide) ?_
  refine wa_sipush (v := 255) F dX6_product_3 (by decide) ?_
  refine wa_callS F [.ref 2] (c_X6_in hst D (tysOf TC) H0 ad (hall TC X S o) b 1 255) mw_X6_in ml_X6_111 rfl (Nat.le_of_ble_eq_true rfl) ⟨Nat.le_of_ble_eq_true rfl, Nat.le_of_ble_eq_true rfl⟩ ⟨Nat.le_of_ble_eq_true rfl, Nat.le_of_ble_eq_true rfl⟩ dX6_product_6 PR_ag (fun _ z => z.elim) ?_
  rintro _ _ _ ⟨rfl, rfl, rfl⟩
  refine wa_if_ne (tgt := 16) F dX6_product_9 (by decide) (fun c9 => ?_) (fun c9 => ?_)
  · skip
    replace c9 : (sIn b 1 255) = true := bI_t c9
    refine wa_aload_n F dX6_product_16 (i := 0) rfl 0 rfl ?_
    refine wa_getf (v := .int (S 13 0)) F LY_X6 (hm_m (S := S)) 13 (by decide) fl_X6_118 rfl dX6_product_17 ?_
    refine wa_bipush (v := 10) F dX6_product_20 (by decide) ?_
    refine wa_icmp_ne (tgt := 29) F dX6_product_22 (by decide) (fun c22 => ?_) (fun c22 => ?_)
    · skip
      have hlt13 : cnt S 13 < 10 := cn_lt hp rfl c22
      refine wa_iconst (v := 0) F dX6_product_29 (by decide) ?_
      refine wa_callV F [] (c_X6_refused hst D TC H0 ad X S o 0) mw_X6_refused ml_X6_127 hm_m rfl rfl (Nat.le_of_ble_eq_true rfl) ⟨Nat.le_of_ble_eq_true rfl, Nat.le_of_ble_eq_true rfl⟩ ⟨Nat.le_of_ble_eq_true rfl, Nat.le_of_ble_eq_true rfl⟩ dX6_product_30 PR_ag (fun _ z => z.elim) ?_
      rintro _ _ _ ⟨rfl, rfl, rfl⟩
      rw [show (bI (decide (¬ (0 : Int32) = 0))) = 0 from rfl]
      refine wa_if_eq (tgt := 38) F dX6_product_33 (by decide) (fun _ => ?_) (fun z => absurd (by decide) z)
      refine wa_aload_n F dX6_product_38 (i := 0) rfl 0 rfl ?_
      refine wa_getf (v := .ref 114) F LY_X6 (hm_m (S := (sU S 0 0 0))) 14 (by decide) fl_X6_38 rfl dX6_product_39 ?_
      refine wa_aload_n F dX6_product_42 (i := 0) rfl 0 rfl ?_
      refine wa_getf (v := .int (S 13 0)) F LY_X6 (hm_m (S := (sU S 0 0 0))) 13 (by decide) fl_X6_118 rfl dX6_product_43 ?_
      refine wa_iload_n F dX6_product_46 (i := 1) rfl 1 rfl ?_
      refine wa_iast F 0 rfl (hm_14 (S := (sU S 0 0 0))) (cnt S 13) hp.1 (by omega) (by decide) dX6_product_47 (hu_14 (cnt S 13) b) ?_
      refine wa_aload_n F dX6_product_48 (i := 0) rfl 0 rfl ?_
      refine wa_getf (v := .ref 120) F LY_X6 (hm_m (S := (sU (sU S 0 0 0) 14 (cnt S 13) b))) 20 (by decide) fl_X6_56 rfl dX6_product_49 ?_
      refine wa_aload_n F dX6_product_52 (i := 0) rfl 0 rfl ?_
      refine wa_getf (v := .int (S 13 0)) F LY_X6 (hm_m (S := (sU (sU S 0 0 0) 14 (cnt S 13) b))) 13 (by decide) fl_X6_118 rfl dX6_product_53 ?_
      refine wa_iconst (v := (-1)) F dX6_product_56 (by decide) ?_
      refine wa_iast F 0 rfl (hm_20 (S := (sU (sU S 0 0 0) 14 (cnt S 13) b))) (cnt S 13) hp.1 (by omega) (by decide) dX6_product_57 (hu_20 (cnt S 13) (-1)) ?_
      refine wa_aload_n F dX6_product_58 (i := 0) rfl 0 rfl ?_
      refine wa_getf (v := .ref 121) F LY_X6 (hm_m (S := (sU (sU (sU S 0 0 0) 14 (cnt S 13) b) 20 (cnt S 13) (-1)))) 21 (by decide) fl_X6_59 rfl dX6_product_59 ?_
      refine wa_aload_n F dX6_product_62 (i := 0) rfl 0 rfl ?_
      refine wa_getf (v := .int (S 13 0)) F LY_X6 (hm_m (S := (sU (sU (sU S 0 0 0) 14 (cnt S 13) b) 20 (cnt S 13) (-1)))) 13 (by decide) fl_X6_118 rfl dX6_product_63 ?_
      refine wa_iconst (v := (-1)) F dX6_product_66 (by decide) ?_
      refine wa_iast F 0 rfl (hm_21 (S := (sU (sU (sU S 0 0 0) 14 (cnt S 13) b) 20 (cnt S 13) (-1)))) (cnt S 13) hp.1 (by omega) (by decide) dX6_product_67 (hu_21 (cnt S 13) (-1)) ?_
      refine wa_aload_n F dX6_product_68 (i := 0) rfl 0 rfl ?_
      refine wa_getf (v := .ref 122) F LY_X6 (hm_m (S := (sU (sU (sU (sU S 0 0 0) 14 (cnt S 13) b) 20 (cnt S 13) (-1)) 21 (cnt S 13) (-1)))) 22 (by decide) fl_X6_62 rfl dX6_product_69 ?_
      refine wa_aload_n F dX6_product_72 (i := 0) rfl 0 rfl ?_
      refine wa_getf (v := .int (S 13 0)) F LY_X6 (hm_m (S := (sU (sU (sU (sU S 0 0 0) 14 (cnt S 13) b) 20 (cnt S 13) (-1)) 21 (cnt S 13) (-1)))) 13 (by decide) fl_X6_118 rfl dX6_product_73 ?_
      refine wa_iconst (v := (-1)) F dX6_product_76 (by decide) ?_
      refine wa_iast F 0 rfl (hm_22 (S := (sU (sU (sU (sU S 0 0 0) 14 (cnt S 13) b) 20 (cnt S 13) (-1)) 21 (cnt S 13) (-1)))) (cnt S 13) hp.1 (by omega) (by decide) dX6_product_77 (hu_22 (cnt S 13) (-1)) ?_
      refine wa_aload_n F dX6_product_78 (i := 0) rfl 0 rfl ?_
      refine wa_getf (v := .ref 123) F LY_X6 (hm_m (S := (sU (sU (sU (sU (sU S 0 0 0) 14 (cnt S 13) b) 20 (cnt S 13) (-1)) 21 (cnt S 13) (-1)) 22 (cnt S 13) (-1)))) 23 (by decide) fl_X6_65 rfl dX6_product_79 ?_
      refine wa_aload_n F dX6_product_82 (i := 0) rfl 0 rfl ?_
      refine wa_getf (v := .int (S 13 0)) F LY_X6 (hm_m (S := (sU (sU (sU (sU (sU S 0 0 0) 14 (cnt S 13) b) 20 (cnt S 13) (-1)) 21 (cnt S 13) (-1)) 22 (cnt S 13) (-1)))) 13 (by decide) fl_X6_118 rfl dX6_product_83 ?_
      refine wa_iconst (v := (-1)) F dX6_product_86 (by decide) ?_
      refine wa_iast F 0 rfl (hm_23 (S := (sU (sU (sU (sU (sU S 0 0 0) 14 (cnt S 13) b) 20 (cnt S 13) (-1)) 21 (cnt S 13) (-1)) 22 (cnt S 13) (-1)))) (cnt S 13) hp.1 (by omega) (by decide) dX6_product_87 (hu_23 (cnt S 13) (-1)) ?_
      refine wa_aload_n F dX6_product_88 (i := 0) rfl 0 rfl ?_
      refine wa_dup F dX6_product_89 rfl ?_
      refine wa_getf (v := .int (S 13 0)) F LY_X6 (hm_m (S := (sU (sU (sU (sU (sU (sU S 0 0 0) 14 (cnt S 13) b) 20 (cnt S 13) (-1)) 21 (cnt S 13) (-1)) 22 (cnt S 13) (-1)) 23 (cnt S 13) (-1)))) 13 (by decide) fl_X6_118 rfl dX6_product_90 ?_
      refine wa_iconst (v := 1) F dX6_product_93 (by decide) ?_
      refine wa_iadd F dX6_product_94 ?_
      refine wa_putf F LY_X6 (hm_m (S := (sU (sU (sU (sU (sU (sU S 0 0 0) 14 (cnt S 13) b) 20 (cnt S 13) (-1)) 21 (cnt S 13) (-1)) 22 (cnt S 13) (-1)) 23 (cnt S 13) (-1)))) 13 (by decide) fl_X6_118 rfl rfl rfl (Nat.le_of_ble_eq_true rfl) dX6_product_95 (hs_13 ((S 13 0) + 1)) ?_
      refine wa_aload_n F dX6_product_98 (i := 0) rfl 0 rfl ?_
      refine wa_getf (v := .int ((sU (sU (sU (sU (sU (sU (sU S 0 0 0) 14 (cnt S 13) b) 20 (cnt S 13) (-1)) 21 (cnt S 13) (-1)) 22 (cnt S 13) (-1)) 23 (cnt S 13) (-1)) 13 0 ((S 13 0) + 1)) 13 0)) F LY_X6 (hm_m (S := (sU (sU (sU (sU (sU (sU (sU S 0 0 0) 14 (cnt S 13) b) 20 (cnt S 13) (-1)) 21 (cnt S 13) (-1)) 22 (cnt S 13) (-1)) 23 (cnt S 13) (-1)) 13 0 ((S 13 0) + 1)))) 13 (by decide) fl_X6_118 rfl dX6_product_99 ?_
      refine wa_iconst (v := 1) F dX6_product_102 (by decide) ?_
      refine wa_isub F dX6_product_103 ?_
      refine wa_iret F rfl (Nat.le_of_ble_eq_true rfl) (Nat.le_of_ble_eq_true rfl) dX6_product_104 ?_
      have ek : kPr S b = 0 := by simp [kPr, c9, c22]
      refine ⟨?_, rfl, ?_⟩
      · rw [ek, mR_0]
        refine congrArg (fun z => some (Value.int z)) ?_
        unfold rPr; simp [sU, upd, Int32.add_sub_cancel]
      · rw [ek, mS_0]
        unfold uPr; rfl
    · skip
      refine wa_iconst (v := 2) F dX6_product_25 (by decide) ?_
      refine wa_goto (tgt := 30) F dX6_product_26 (by decide) ?_
      refine wa_callV F [] (c_X6_refused hst D TC H0 ad X S o 2) mw_X6_refused ml_X6_127 hm_m rfl rfl (Nat.le_of_ble_eq_true rfl) ⟨Nat.le_of_ble_eq_true rfl, Nat.le_of_ble_eq_true rfl⟩ ⟨Nat.le_of_ble_eq_true rfl, Nat.le_of_ble_eq_true rfl⟩ dX6_product_30 PR_ag (fun _ z => z.elim) ?_
      rintro _ _ _ ⟨rfl, rfl, rfl⟩
      rw [show (bI (decide (¬ (2 : Int32) = 0))) = 1 from rfl]
      refine wa_if_eq (tgt := 38) F dX6_product_33 (by decide) (fun z => absurd z (by decide)) (fun _ => ?_)
      refine wa_iconst (v := 0) F dX6_product_36 (by decide) ?_
      refine wa_iret F rfl (Nat.le_of_ble_eq_true rfl) (Nat.le_of_ble_eq_true rfl) dX6_product_37 ?_
      have ek : kPr S b = 2 := by simp [kPr, c9, c22]
      exact ⟨by rw [ek, mR_n (by decide)], rfl, by rw [ek, mS_n (by decide)]⟩
  · skip
    replace c9 : (sIn b 1 255) = false := bI_f c9
    refine wa_iconst (v := 1) F dX6_product_12 (by decide) ?_
    refine wa_goto (tgt := 30) F dX6_product_13 (by decide) ?_
    refine wa_callV F [] (c_X6_refused hst D TC H0 ad X S o 1) mw_X6_refused ml_X6_127 hm_m rfl rfl (Nat.le_of_ble_eq_true rfl) ⟨Nat.le_of_ble_eq_true rfl, Nat.le_of_ble_eq_true rfl⟩ ⟨Nat.le_of_ble_eq_true rfl, Nat.le_of_ble_eq_true rfl⟩ dX6_product_30 PR_ag (fun _ z => z.elim) ?_
    rintro _ _ _ ⟨rfl, rfl, rfl⟩
    rw [show (bI (decide (¬ (1 : Int32) = 0))) = 1 from rfl]
    refine wa_if_eq (tgt := 38) F dX6_product_33 (by decide) (fun z => absurd z (by decide)) (fun _ => ?_)
    refine wa_iconst (v := 0) F dX6_product_36 (by decide) ?_
    refine wa_iret F rfl (Nat.le_of_ble_eq_true rfl) (Nat.le_of_ble_eq_true rfl) dX6_product_37 ?_
    have ek : kPr S b = 1 := by simp [kPr, c9]
    exact ⟨by rw [ek, mR_n (by decide)], rfl, by rw [ek, mS_n (by decide)]⟩
set_option maxHeartbeats 2000000 in
set_option maxRecDepth 20000 in
theorem c_X6_change {l : Launch} (hst : l.stackTraces = false) (D : va_G) (TC : Nat → ClassId) (H0 : Heap) (ad : Nat → Nat) (X S : St) (o : Nat → Int64) (v : Int32) (b : Int32) (n : Nat) (hi : INV n S) : CC l D (tysOf TC) H0 yX6_change cX6_change 3 (some .int) 6 0 0 [.ref 2, .int v, .int b] ad (hall TC X S o) (PR ad (some (.int (mR (kCh S v b) (rCh S v b)))) (hall TC X (mS (kCh S v b) (S) (uCh v b)) o)) (fun _ => False) := by
  refine cc_intro hst (by decide +kernel) (Nat.le_of_ble_eq_true rfl) ?_
  intro p e s m args below meth c F
  rw [show lv_args 0 [.ref 2, .int v, .int b] = [(0, .ref 2), (1, .int v), (2, .int b)] from rfl]
  obtain ⟨hc, hs, hp, hd0, hm, h7, h8, hbo0, hu0, hvr⟩ := id hi
  have hc2 := hc.2; have hs2 := hs.2; have hp2 := hp.2; have hd := hd0.2; have hm2 := hm.2
  refine wa_aload_n F dX6_change_0 (i := 0) rfl 0 rfl ?_
  refine wa_aload_n F dX6_change_1 (i := 0) rfl 0 rfl ?_
  refine wa_iload_n F dX6_change_2 (i := 1) rfl 1 rfl ?_
  refine wa_callV F [.ref 2] (c_X6_isProduct hst D TC H0 ad X S o v) mw_X6_isProduct ml_X6_145 hm_m rfl rfl (Nat.le_of_ble_eq_true rfl) ⟨Nat.le_of_ble_eq_true rfl, Nat.le_of_ble_eq_true rfl⟩ ⟨Nat.le_of_ble_eq_true rfl, Nat.le_of_ble_eq_true rfl⟩ dX6_change_3 PR_ag (fun _ z => z.elim) ?_
  rintro _ _ _ ⟨rfl, rfl, rfl⟩
  refine wa_if_ne (tgt := 13) F dX6_change_6 (by decide) (fun c6 => ?_) (fun c6 => ?_)
  · skip
    replace c6 : (sIn v 0 (S 13 0 - 1)) = true := bI_t c6
    obtain ⟨jv, lv, rfl⟩ := sIn_nat hp.1 (by omega) c6
    have ev : tn (nI jv) = jv := tn_nI (by omega)
    refine wa_iload_n F dX6_change_13 (i := 2) rfl 2 rfl ?_
    refine wa_iconst (v := 1) F dX6_change_14 (by decide) ?_
    refine wa_sipush (v := 255) F dX6_change_15 (by decide) ?_
    refine wa_callS F [.ref 2] (c_X6_in hst D (tysOf TC) H0 ad (hall TC X S o) b 1 255) mw_X6_in ml_X6_111 rfl (Nat.le_of_ble_eq_true rfl) ⟨Nat.le_of_ble_eq_true rfl, Nat.le_of_ble_eq_true rfl⟩ ⟨Nat.le_of_ble_eq_true rfl, Nat.le_of_ble_eq_true rfl⟩ dX6_change_18 PR_ag (fun _ z => z.elim) ?_
    rintro _ _ _ ⟨rfl, rfl, rfl⟩
    refine wa_if_ne (tgt := 28) F dX6_change_21 (by decide) (fun c21 => ?_) (fun c21 => ?_)
    · skip
      replace c21 : (sIn b 1 255) = true := bI_t c21
      refine wa_iconst (v := 0) F dX6_change_28 (by decide) ?_
      refine wa_callV F [] (c_X6_refused hst D TC H0 ad X S o 0) mw_X6_refused ml_X6_127 hm_m rfl rfl (Nat.le_of_ble_eq_true rfl) ⟨Nat.le_of_ble_eq_true rfl, Nat.le_of_ble_eq_true rfl⟩ ⟨Nat.le_of_ble_eq_true rfl, Nat.le_of_ble_eq_true rfl⟩ dX6_change_29 PR_ag (fun _ z => z.elim) ?_
      rintro _ _ _ ⟨rfl, rfl, rfl⟩
      rw [show (bI (decide (¬ (0 : Int32) = 0))) = 0 from rfl]
      refine wa_if_eq (tgt := 37) F dX6_change_32 (by decide) (fun _ => ?_) (fun z => absurd (by decide) z)
      refine wa_aload_n F dX6_change_37 (i := 0) rfl 0 rfl ?_
      refine wa_getf (v := .ref 114) F LY_X6 (hm_m (S := (sU S 0 0 0))) 14 (by decide) fl_X6_38 rfl dX6_change_38 ?_
      refine wa_iload_n F dX6_change_41 (i := 1) rfl 1 rfl ?_
      refine wa_iald (f := S 14) F 0 rfl (hm_14 (S := (sU S 0 0 0))) jv rfl (by omega) (by decide) dX6_change_42 ?_
      refine wa_iload_n F dX6_change_43 (i := 2) rfl 2 rfl ?_
      refine wa_icmp_eq (tgt := 59) F dX6_change_44 (by decide) (fun c44 => ?_) (fun c44 => ?_)
      · skip
        refine wa_aload_n F dX6_change_59 (i := 0) rfl 0 rfl ?_
        refine wa_getf (v := .ref 115) F LY_X6 (hm_m (S := (sU S 0 0 0))) 15 (by decide) fl_X6_41 rfl dX6_change_60 ?_
        refine wa_iload_n F dX6_change_63 (i := 1) rfl 1 rfl ?_
        refine wa_iald (f := S 15) F 0 rfl (hm_15 (S := (sU S 0 0 0))) jv rfl (by omega) (by decide) dX6_change_64 ?_
        refine wa_iret F rfl (Nat.le_of_ble_eq_true rfl) (Nat.le_of_ble_eq_true rfl) dX6_change_65 ?_
        have ek : kCh S (nI jv) b = 0 := by simp [kCh, c6, c21, c44, ev]
        refine ⟨?_, rfl, ?_⟩
        · rw [ek, mR_0]
          refine congrArg (fun z => some (Value.int z)) ?_
          unfold rCh uCh; rw [ev]; simp [c44]
        · rw [ek, mS_0]
          unfold uCh; rw [ev, if_pos (show (sU S 0 0 0) 14 jv = b from c44)]
      · skip
        refine wa_aload_n F dX6_change_47 (i := 0) rfl 0 rfl ?_
        refine wa_getf (v := .ref 114) F LY_X6 (hm_m (S := (sU S 0 0 0))) 14 (by decide) fl_X6_38 rfl dX6_change_48 ?_
        refine wa_iload_n F dX6_change_51 (i := 1) rfl 1 rfl ?_
        refine wa_iload_n F dX6_change_52 (i := 2) rfl 2 rfl ?_
        refine wa_iast F 0 rfl (hm_14 (S := (sU S 0 0 0))) jv rfl (by omega) (by decide) dX6_change_53 (hu_14 jv b) ?_
        refine wa_aload_n F dX6_change_54 (i := 0) rfl 0 rfl ?_
        refine wa_iload_n F dX6_change_55 (i := 1) rfl 1 rfl ?_
        refine wa_callV F [] (c_X6_nextVersion hst D TC H0 ad X (sU (sU S 0 0 0) 14 jv b) o jv (by omega)) mw_X6_nextVersion ml_X6_148 hm_m rfl rfl (Nat.le_of_ble_eq_true rfl) ⟨Nat.le_of_ble_eq_true rfl, Nat.le_of_ble_eq_true rfl⟩ ⟨Nat.le_of_ble_eq_true rfl, Nat.le_of_ble_eq_true rfl⟩ dX6_change_56 PR_ag (fun _ z => z.elim) ?_
        rintro _ _ _ ⟨rfl, rfl, rfl⟩
        refine wa_aload_n F dX6_change_59 (i := 0) rfl 0 rfl ?_
        refine wa_getf (v := .ref 115) F LY_X6 (hm_m (S := (uNext jv (sU (sU S 0 0 0) 14 jv b)))) 15 (by decide) fl_X6_41 rfl dX6_change_60 ?_
        refine wa_iload_n F dX6_change_63 (i := 1) rfl 1 rfl ?_
        refine wa_iald (f := (uNext jv (sU (sU S 0 0 0) 14 jv b)) 15) F 0 rfl (hm_15 (S := (uNext jv (sU (sU S 0 0 0) 14 jv b)))) jv rfl (by omega) (by decide) dX6_change_64 ?_
        refine wa_iret F rfl (Nat.le_of_ble_eq_true rfl) (Nat.le_of_ble_eq_true rfl) dX6_change_65 ?_
        have ek : kCh S (nI jv) b = 0 := by simp [kCh, c6, c21, c44, ev]
        refine ⟨?_, rfl, ?_⟩
        · rw [ek, mR_0]
          refine congrArg (fun z => some (Value.int z)) ?_
          unfold rCh uCh; rw [ev, if_neg c44]; rfl
        · rw [ek, mS_0]
          unfold uCh; rw [ev, if_neg (show ¬ (sU S 0 0 0) 14 jv = b from c44)]
    · skip
      replace c21 : (sIn b 1 255) = false := bI_f c21
      refine wa_iconst (v := 2) F dX6_change_24 (by decide) ?_
      refine wa_goto (tgt := 29) F dX6_change_25 (by decide) ?_
      refine wa_callV F [] (c_X6_refused hst D TC H0 ad X S o 2) mw_X6_refused ml_X6_127 hm_m rfl rfl (Nat.le_of_ble_eq_true rfl) ⟨Nat.le_of_ble_eq_true rfl, Nat.le_of_ble_eq_true rfl⟩ ⟨Nat.le_of_ble_eq_true rfl, Nat.le_of_ble_eq_true rfl⟩ dX6_change_29 PR_ag (fun _ z => z.elim) ?_
      rintro _ _ _ ⟨rfl, rfl, rfl⟩
      rw [show (bI (decide (¬ (2 : Int32) = 0))) = 1 from rfl]
      refine wa_if_eq (tgt := 37) F dX6_change_32 (by decide) (fun z => absurd z (by decide)) (fun _ => ?_)
      refine wa_iconst (v := 0) F dX6_change_35 (by decide) ?_
      refine wa_iret F rfl (Nat.le_of_ble_eq_true rfl) (Nat.le_of_ble_eq_true rfl) dX6_change_36 ?_
      have ek : kCh S (nI jv) b = 2 := by simp [kCh, c6, c21, ev]
      exact ⟨by rw [ek, mR_n (by decide)], rfl, by rw [ek, mS_n (by decide)]⟩
  · skip
    replace c6 : (sIn v 0 (S 13 0 - 1)) = false := bI_f c6
    refine wa_iconst (v := 1) F dX6_change_9 (by decide) ?_
    refine wa_goto (tgt := 29) F dX6_change_10 (by decide) ?_
    refine wa_callV F [] (c_X6_refused hst D TC H0 ad X S o 1) mw_X6_refused ml_X6_127 hm_m rfl rfl (Nat.le_of_ble_eq_true rfl) ⟨Nat.le_of_ble_eq_true rfl, Nat.le_of_ble_eq_true rfl⟩ ⟨Nat.le_of_ble_eq_true rfl, Nat.le_of_ble_eq_true rfl⟩ dX6_change_29 PR_ag (fun _ z => z.elim) ?_
    rintro _ _ _ ⟨rfl, rfl, rfl⟩
    rw [show (bI (decide (¬ (1 : Int32) = 0))) = 1 from rfl]
    refine wa_if_eq (tgt := 37) F dX6_change_32 (by decide) (fun z => absurd z (by decide)) (fun _ => ?_)
    refine wa_iconst (v := 0) F dX6_change_35 (by decide) ?_
    refine wa_iret F rfl (Nat.le_of_ble_eq_true rfl) (Nat.le_of_ble_eq_true rfl) dX6_change_36 ?_
    have ek : kCh S v b = 1 := by simp [kCh, c6]
    exact ⟨by rw [ek, mR_n (by decide)], rfl, by rw [ek, mS_n (by decide)]⟩
set_option maxHeartbeats 2000000 in
set_option maxRecDepth 20000 in
theorem c_X6_risk {l : Launch} (hst : l.stackTraces = false) (D : va_G) (TC : Nat → ClassId) (H0 : Heap) (ad : Nat → Nat) (X S : St) (o : Nat → Int64) (v : Int32) (z : Int32) (q : Int32) (d : Int32) (n : Nat) (hi : INV n S) : CC l D (tysOf TC) H0 yX6_risk cX6_risk 7 (some .int) 6 0 0 [.ref 2, .int v, .int z, .int q, .int d] ad (hall TC X S o) (PR ad (some (.int (mR (kRk S v z q d) (rRk S v z q d)))) (hall TC X (mS (kRk S v z q d) (S) (uRk v z q d)) o)) (fun _ => False) := by
  refine cc_intro hst (by decide +kernel) (Nat.le_of_ble_eq_true rfl) ?_
  intro p e s m args below meth c F
  rw [show lv_args 0 [.ref 2, .int v, .int z, .int q, .int d] = [(0, .ref 2), (1, .int v), (2, .int z), (3, .int q), (4, .int d)] from rfl]
  obtain ⟨hc, hs, hp, hd0, hm, h7, h8, hbo0, hu0, hvr⟩ := id hi
  have hc2 := hc.2; have hs2 := hs.2; have hp2 := hp.2; have hd := hd0.2; have hm2 := hm.2
  refine wa_aload_n F dX6_risk_0 (i := 0) rfl 0 rfl ?_
  refine wa_iload_n F dX6_risk_1 (i := 1) rfl 1 rfl ?_
  refine wa_callV F [] (c_X6_isProduct hst D TC H0 ad X S o v) mw_X6_isProduct ml_X6_145 hm_m rfl rfl (Nat.le_of_ble_eq_true rfl) ⟨Nat.le_of_ble_eq_true rfl, Nat.le_of_ble_eq_true rfl⟩ ⟨Nat.le_of_ble_eq_true rfl, Nat.le_of_ble_eq_true rfl⟩ dX6_risk_2 PR_ag (fun _ z => z.elim) ?_
  rintro _ _ _ ⟨rfl, rfl, rfl⟩
  refine wa_if_eq (tgt := 22) F dX6_risk_5 (by decide) (fun c5 => ?_) (fun c5 => ?_)
  · skip
    replace c5 : (sIn v 0 (S 13 0 - 1)) = false := bI_f c5
    refine wa_iconst (v := 0) F dX6_risk_22 (by decide) ?_
    refine wa_istore (lv' := [(5, .int 0), (0, .ref 2), (1, .int v), (2, .int z), (3, .int q), (4, .int d)]) F dX6_risk_23 (by decide) rfl ?_
    refine wa_aload_n F dX6_risk_25 (i := 0) rfl 1 rfl ?_
    refine wa_iload F dX6_risk_26 0 rfl ?_
    refine wa_if_ne (tgt := 35) F dX6_risk_28 (by decide) (fun z => absurd (by decide) z) (fun _ => ?_)
    refine wa_iconst (v := 1) F dX6_risk_31 (by decide) ?_
    refine wa_goto (tgt := 60) F dX6_risk_32 (by decide) ?_
    refine wa_callV F [] (c_X6_refused hst D TC H0 ad X S o 1) mw_X6_refused ml_X6_127 hm_m rfl rfl (Nat.le_of_ble_eq_true rfl) ⟨Nat.le_of_ble_eq_true rfl, Nat.le_of_ble_eq_true rfl⟩ ⟨Nat.le_of_ble_eq_true rfl, Nat.le_of_ble_eq_true rfl⟩ dX6_risk_60 PR_ag (fun _ z => z.elim) ?_
    rintro _ _ _ ⟨rfl, rfl, rfl⟩
    rw [show (bI (decide (¬ (1 : Int32) = 0))) = 1 from rfl]
    refine wa_if_eq (tgt := 68) F dX6_risk_63 (by decide) (fun z => absurd z (by decide)) (fun _ => ?_)
    refine wa_iconst (v := 0) F dX6_risk_66 (by decide) ?_
    refine wa_iret F rfl (Nat.le_of_ble_eq_true rfl) (Nat.le_of_ble_eq_true rfl) dX6_risk_67 ?_
    have ek : kRk S v z q d = 1 := by simp [kRk, c5]
    exact ⟨by rw [ek, mR_n (by decide)], rfl, by rw [ek, mS_n (by decide)]⟩
  · skip
    replace c5 : (sIn v 0 (S 13 0 - 1)) = true := bI_t c5
    obtain ⟨jv, lv, rfl⟩ := sIn_nat hp.1 (by omega) c5
    have ev : tn (nI jv) = jv := tn_nI (by omega)
    refine wa_iload_n F dX6_risk_8 (i := 2) rfl 2 rfl ?_
    refine wa_iconst (v := 0) F dX6_risk_9 (by decide) ?_
    refine wa_bipush (v := 7) F dX6_risk_10 (by decide) ?_
    refine wa_callS F [] (c_X6_in hst D (tysOf TC) H0 ad (hall TC X S o) z 0 7) mw_X6_in ml_X6_111 rfl (Nat.le_of_ble_eq_true rfl) ⟨Nat.le_of_ble_eq_true rfl, Nat.le_of_ble_eq_true rfl⟩ ⟨Nat.le_of_ble_eq_true rfl, Nat.le_of_ble_eq_true rfl⟩ dX6_risk_12 PR_ag (fun _ z => z.elim) ?_
    rintro _ _ _ ⟨rfl, rfl, rfl⟩
    refine wa_if_eq (tgt := 22) F dX6_risk_15 (by decide) (fun c15 => ?_) (fun c15 => ?_)
    · skip
      replace c15 : (sIn z 0 7) = false := bI_f c15
      refine wa_iconst (v := 0) F dX6_risk_22 (by decide) ?_
      refine wa_istore (lv' := [(5, .int 0), (0, .ref 2), (1, .int (nI jv)), (2, .int z), (3, .int q), (4, .int d)]) F dX6_risk_23 (by decide) rfl ?_
      refine wa_aload_n F dX6_risk_25 (i := 0) rfl 1 rfl ?_
      refine wa_iload F dX6_risk_26 0 rfl ?_
      refine wa_if_ne (tgt := 35) F dX6_risk_28 (by decide) (fun z => absurd (by decide) z) (fun _ => ?_)
      refine wa_iconst (v := 1) F dX6_risk_31 (by decide) ?_
      refine wa_goto (tgt := 60) F dX6_risk_32 (by decide) ?_
      refine wa_callV F [] (c_X6_refused hst D TC H0 ad X S o 1) mw_X6_refused ml_X6_127 hm_m rfl rfl (Nat.le_of_ble_eq_true rfl) ⟨Nat.le_of_ble_eq_true rfl, Nat.le_of_ble_eq_true rfl⟩ ⟨Nat.le_of_ble_eq_true rfl, Nat.le_of_ble_eq_true rfl⟩ dX6_risk_60 PR_ag (fun _ z => z.elim) ?_
      rintro _ _ _ ⟨rfl, rfl, rfl⟩
      rw [show (bI (decide (¬ (1 : Int32) = 0))) = 1 from rfl]
      refine wa_if_eq (tgt := 68) F dX6_risk_63 (by decide) (fun z => absurd z (by decide)) (fun _ => ?_)
      refine wa_iconst (v := 0) F dX6_risk_66 (by decide) ?_
      refine wa_iret F rfl (Nat.le_of_ble_eq_true rfl) (Nat.le_of_ble_eq_true rfl) dX6_risk_67 ?_
      have ek : kRk S (nI jv) z q d = 1 := by simp [kRk, c5, c15, ev]
      exact ⟨by rw [ek, mR_n (by decide)], rfl, by rw [ek, mS_n (by decide)]⟩
    · skip
      replace c15 : (sIn z 0 7) = true := bI_t c15
      obtain ⟨jz, lz, rfl⟩ := sIn_lit (n := 7) (by decide) c15
      have ez : tn (nI jz) = jz := tn_nI (by omega)
      refine wa_iconst (v := 1) F dX6_risk_18 (by decide) ?_
      refine wa_goto (tgt := 23) F dX6_risk_19 (by decide) ?_
      refine wa_istore (lv' := [(5, .int 1), (0, .ref 2), (1, .int (nI jv)), (2, .int (nI jz)), (3, .int q), (4, .int d)]) F dX6_risk_23 (by decide) rfl ?_
      refine wa_aload_n F dX6_risk_25 (i := 0) rfl 1 rfl ?_
      refine wa_iload F dX6_risk_26 0 rfl ?_
      refine wa_if_ne (tgt := 35) F dX6_risk_28 (by decide) (fun _ => ?_) (fun z => absurd z (by decide))
      refine wa_iload_n F dX6_risk_35 (i := 3) rfl 4 rfl ?_
      refine wa_iconst (v := 0) F dX6_risk_36 (by decide) ?_
      refine wa_bipush (v := 9) F dX6_risk_37 (by decide) ?_
      refine wa_callS F [.ref 2] (c_X6_in hst D (tysOf TC) H0 ad (hall TC X S o) q 0 9) mw_X6_in ml_X6_111 rfl (Nat.le_of_ble_eq_true rfl) ⟨Nat.le_of_ble_eq_true rfl, Nat.le_of_ble_eq_true rfl⟩ ⟨Nat.le_of_ble_eq_true rfl, Nat.le_of_ble_eq_true rfl⟩ dX6_risk_39 PR_ag (fun _ z => z.elim) ?_
      rintro _ _ _ ⟨rfl, rfl, rfl⟩
      refine wa_if_eq (tgt := 55) F dX6_risk_42 (by decide) (fun c42 => ?_) (fun c42 => ?_)
      · skip
        replace c42 : (sIn q 0 9) = false := bI_f c42
        refine wa_iconst (v := 2) F dX6_risk_55 (by decide) ?_
        refine wa_goto (tgt := 60) F dX6_risk_56 (by decide) ?_
        refine wa_callV F [] (c_X6_refused hst D TC H0 ad X S o 2) mw_X6_refused ml_X6_127 hm_m rfl rfl (Nat.le_of_ble_eq_true rfl) ⟨Nat.le_of_ble_eq_true rfl, Nat.le_of_ble_eq_true rfl⟩ ⟨Nat.le_of_ble_eq_true rfl, Nat.le_of_ble_eq_true rfl⟩ dX6_risk_60 PR_ag (fun _ z => z.elim) ?_
        rintro _ _ _ ⟨rfl, rfl, rfl⟩
        rw [show (bI (decide (¬ (2 : Int32) = 0))) = 1 from rfl]
        refine wa_if_eq (tgt := 68) F dX6_risk_63 (by decide) (fun z => absurd z (by decide)) (fun _ => ?_)
        refine wa_iconst (v := 0) F dX6_risk_66 (by decide) ?_
        refine wa_iret F rfl (Nat.le_of_ble_eq_true rfl) (Nat.le_of_ble_eq_true rfl) dX6_risk_67 ?_
        have ek : kRk S (nI jv) (nI jz) q d = 2 := by simp [kRk, c5, c15, c42, ev, ez]
        exact ⟨by rw [ek, mR_n (by decide)], rfl, by rw [ek, mS_n (by decide)]⟩
      · skip
        replace c42 : (sIn q 0 9) = true := bI_t c42
        refine wa_iload F dX6_risk_45 5 rfl ?_
        refine wa_iconst (v := 0) F dX6_risk_47 (by decide) ?_
        refine wa_iload_n F dX6_risk_48 (i := 3) rfl 4 rfl ?_
        refine wa_callS F [.ref 2] (c_X6_in hst D (tysOf TC) H0 ad (hall TC X S o) d 0 q) mw_X6_in ml_X6_111 rfl (Nat.le_of_ble_eq_true rfl) ⟨Nat.le_of_ble_eq_true rfl, Nat.le_of_ble_eq_true rfl⟩ ⟨Nat.le_of_ble_eq_true rfl, Nat.le_of_ble_eq_true rfl⟩ dX6_risk_49 PR_ag (fun _ z => z.elim) ?_
        rintro _ _ _ ⟨rfl, rfl, rfl⟩
        refine wa_if_ne (tgt := 59) F dX6_risk_52 (by decide) (fun c52 => ?_) (fun c52 => ?_)
        · skip
          replace c52 : (sIn d 0 q) = true := bI_t c52
          refine wa_iconst (v := 0) F dX6_risk_59 (by decide) ?_
          refine wa_callV F [] (c_X6_refused hst D TC H0 ad X S o 0) mw_X6_refused ml_X6_127 hm_m rfl rfl (Nat.le_of_ble_eq_true rfl) ⟨Nat.le_of_ble_eq_true rfl, Nat.le_of_ble_eq_true rfl⟩ ⟨Nat.le_of_ble_eq_true rfl, Nat.le_of_ble_eq_true rfl⟩ dX6_risk_60 PR_ag (fun _ z => z.elim) ?_
          rintro _ _ _ ⟨rfl, rfl, rfl⟩
          rw [show (bI (decide (¬ (0 : Int32) = 0))) = 0 from rfl]
          refine wa_if_eq (tgt := 68) F dX6_risk_63 (by decide) (fun _ => ?_) (fun z => absurd (by decide) z)
          refine wa_bipush (v := 8) F dX6_risk_68 (by decide) ?_
          refine wa_iload_n F dX6_risk_70 (i := 1) rfl 2 rfl ?_
          refine wa_imulN F dX6_risk_71 (a := 8) (b := jv) rfl rfl ?_
          refine wa_iload_n F dX6_risk_72 (i := 2) rfl 3 rfl ?_
          refine wa_iaddN F dX6_risk_73 (a := 8 * jv) (b := jz) rfl rfl ?_
          refine wa_istore (lv' := [(6, .int (nI ((8 * jv) + jz))), (5, .int 1), (0, .ref 2), (1, .int (nI jv)), (2, .int (nI jz)), (3, .int q), (4, .int d)]) F dX6_risk_74 (by decide) rfl ?_
          refine wa_iload_n F dX6_risk_76 (i := 3) rfl 5 rfl ?_
          refine wa_aload_n F dX6_risk_77 (i := 0) rfl 2 rfl ?_
          refine wa_getf (v := .ref 116) F LY_X6 (hm_m (S := (sU S 0 0 0))) 16 (by decide) fl_X6_44 rfl dX6_risk_78 ?_
          refine wa_iload F dX6_risk_81 0 rfl ?_
          refine wa_iald (f := S 16) F 0 rfl (hm_16 (S := (sU S 0 0 0))) ((8 * jv) + jz) rfl (by omega) (by decide) dX6_risk_83 ?_
          refine wa_icmp_gt (tgt := 99) F dX6_risk_84 (by decide) (fun c84 => ?_) (fun c84 => ?_)
          · skip
            replace c84 := lt_nle c84
            refine wa_aload_n F dX6_risk_99 (i := 0) rfl 2 rfl ?_
            refine wa_iload_n F dX6_risk_100 (i := 1) rfl 3 rfl ?_
            refine wa_callV F [] (c_X6_nextVersion hst D TC H0 ad X (sU S 0 0 0) o jv (by omega)) mw_X6_nextVersion ml_X6_148 hm_m rfl rfl (Nat.le_of_ble_eq_true rfl) ⟨Nat.le_of_ble_eq_true rfl, Nat.le_of_ble_eq_true rfl⟩ ⟨Nat.le_of_ble_eq_true rfl, Nat.le_of_ble_eq_true rfl⟩ dX6_risk_101 PR_ag (fun _ z => z.elim) ?_
            rintro _ _ _ ⟨rfl, rfl, rfl⟩
            refine wa_aload_n F dX6_risk_104 (i := 0) rfl 2 rfl ?_
            refine wa_getf (v := .ref 116) F LY_X6 (hm_m (S := (uNext jv (sU S 0 0 0)))) 16 (by decide) fl_X6_44 rfl dX6_risk_105 ?_
            refine wa_iload F dX6_risk_108 0 rfl ?_
            refine wa_iload_n F dX6_risk_110 (i := 3) rfl 5 rfl ?_
            refine wa_iast F 0 rfl (hm_16 (S := (uNext jv (sU S 0 0 0)))) ((8 * jv) + jz) rfl (by omega) (by decide) dX6_risk_111 (hu_16 ((8 * jv) + jz) q) ?_
            refine wa_aload_n F dX6_risk_112 (i := 0) rfl 2 rfl ?_
            refine wa_getf (v := .ref 117) F LY_X6 (hm_m (S := (sU (uNext jv (sU S 0 0 0)) 16 ((8 * jv) + jz) q))) 17 (by decide) fl_X6_47 rfl dX6_risk_113 ?_
            refine wa_iload F dX6_risk_116 0 rfl ?_
            refine wa_iload F dX6_risk_118 6 rfl ?_
            refine wa_iast F 0 rfl (hm_17 (S := (sU (uNext jv (sU S 0 0 0)) 16 ((8 * jv) + jz) q))) ((8 * jv) + jz) rfl (by omega) (by decide) dX6_risk_120 (hu_17 ((8 * jv) + jz) d) ?_
            refine wa_aload_n F dX6_risk_121 (i := 0) rfl 2 rfl ?_
            refine wa_getf (v := .ref 115) F LY_X6 (hm_m (S := (sU (sU (uNext jv (sU S 0 0 0)) 16 ((8 * jv) + jz) q) 17 ((8 * jv) + jz) d))) 15 (by decide) fl_X6_41 rfl dX6_risk_122 ?_
            refine wa_iload_n F dX6_risk_125 (i := 1) rfl 3 rfl ?_
            refine wa_iald (f := (sU (sU (uNext jv (sU S 0 0 0)) 16 ((8 * jv) + jz) q) 17 ((8 * jv) + jz) d) 15) F 0 rfl (hm_15 (S := (sU (sU (uNext jv (sU S 0 0 0)) 16 ((8 * jv) + jz) q) 17 ((8 * jv) + jz) d))) jv rfl (by omega) (by decide) dX6_risk_126 ?_
            refine wa_iret F rfl (Nat.le_of_ble_eq_true rfl) (Nat.le_of_ble_eq_true rfl) dX6_risk_127 ?_
            have ek : kRk S (nI jv) (nI jz) q d = 0 := by simp [kRk, c5, c15, c42, c52, c84, ev, ez]
            refine ⟨?_, rfl, ?_⟩
            · rw [ek, mR_0]
              refine congrArg (fun z => some (Value.int z)) ?_
              unfold rRk uRk; rw [ev, ez, if_neg (show ¬ (q ≤ S 16 (8 * jv + jz) ∧ d ≤ S 17 (8 * jv + jz)) from fun z => c84 z.1)]; rfl
            · rw [ek, mS_0]
              unfold uRk; rw [ev, ez, if_neg (show ¬ (q ≤ (sU S 0 0 0) 16 (8 * jv + jz) ∧ d ≤ (sU S 0 0 0) 17 (8 * jv + jz)) from fun z => c84 z.1)]
          · skip
            replace c84 := nlt_le c84
            refine wa_iload F dX6_risk_87 6 rfl ?_
            refine wa_aload_n F dX6_risk_89 (i := 0) rfl 2 rfl ?_
            refine wa_getf (v := .ref 117) F LY_X6 (hm_m (S := (sU S 0 0 0))) 17 (by decide) fl_X6_47 rfl dX6_risk_90 ?_
            refine wa_iload F dX6_risk_93 0 rfl ?_
            refine wa_iald (f := S 17) F 0 rfl (hm_17 (S := (sU S 0 0 0))) ((8 * jv) + jz) rfl (by omega) (by decide) dX6_risk_95 ?_
            refine wa_icmp_le (tgt := 104) F dX6_risk_96 (by decide) (fun c96 => ?_) (fun c96 => ?_)
            · skip
              refine wa_aload_n F dX6_risk_104 (i := 0) rfl 2 rfl ?_
              refine wa_getf (v := .ref 116) F LY_X6 (hm_m (S := (sU S 0 0 0))) 16 (by decide) fl_X6_44 rfl dX6_risk_105 ?_
              refine wa_iload F dX6_risk_108 0 rfl ?_
              refine wa_iload_n F dX6_risk_110 (i := 3) rfl 5 rfl ?_
              refine wa_iast F 0 rfl (hm_16 (S := (sU S 0 0 0))) ((8 * jv) + jz) rfl (by omega) (by decide) dX6_risk_111 (hu_16 ((8 * jv) + jz) q) ?_
              refine wa_aload_n F dX6_risk_112 (i := 0) rfl 2 rfl ?_
              refine wa_getf (v := .ref 117) F LY_X6 (hm_m (S := (sU (sU S 0 0 0) 16 ((8 * jv) + jz) q))) 17 (by decide) fl_X6_47 rfl dX6_risk_113 ?_
              refine wa_iload F dX6_risk_116 0 rfl ?_
              refine wa_iload F dX6_risk_118 6 rfl ?_
              refine wa_iast F 0 rfl (hm_17 (S := (sU (sU S 0 0 0) 16 ((8 * jv) + jz) q))) ((8 * jv) + jz) rfl (by omega) (by decide) dX6_risk_120 (hu_17 ((8 * jv) + jz) d) ?_
              refine wa_aload_n F dX6_risk_121 (i := 0) rfl 2 rfl ?_
              refine wa_getf (v := .ref 115) F LY_X6 (hm_m (S := (sU (sU (sU S 0 0 0) 16 ((8 * jv) + jz) q) 17 ((8 * jv) + jz) d))) 15 (by decide) fl_X6_41 rfl dX6_risk_122 ?_
              refine wa_iload_n F dX6_risk_125 (i := 1) rfl 3 rfl ?_
              refine wa_iald (f := S 15) F 0 rfl (hm_15 (S := (sU (sU (sU S 0 0 0) 16 ((8 * jv) + jz) q) 17 ((8 * jv) + jz) d))) jv rfl (by omega) (by decide) dX6_risk_126 ?_
              refine wa_iret F rfl (Nat.le_of_ble_eq_true rfl) (Nat.le_of_ble_eq_true rfl) dX6_risk_127 ?_
              have ek : kRk S (nI jv) (nI jz) q d = 0 := by simp [kRk, c5, c15, c42, c52, c84, c96, ev, ez]
              refine ⟨?_, rfl, ?_⟩
              · rw [ek, mR_0]
                refine congrArg (fun z => some (Value.int z)) ?_
                unfold rRk uRk; rw [ev, ez, if_pos (show (q ≤ S 16 (8 * jv + jz) ∧ d ≤ S 17 (8 * jv + jz)) from ⟨c84, c96⟩)]; rfl
              · rw [ek, mS_0]
                unfold uRk; rw [ev, ez, if_pos (show (q ≤ (sU S 0 0 0) 16 (8 * jv + jz) ∧ d ≤ (sU S 0 0 0) 17 (8 * jv + jz)) from ⟨c84, c96⟩)]
            · skip
              refine wa_aload_n F dX6_risk_99 (i := 0) rfl 2 rfl ?_
              refine wa_iload_n F dX6_risk_100 (i := 1) rfl 3 rfl ?_
              refine wa_callV F [] (c_X6_nextVersion hst D TC H0 ad X (sU S 0 0 0) o jv (by omega)) mw_X6_nextVersion ml_X6_148 hm_m rfl rfl (Nat.le_of_ble_eq_true rfl) ⟨Nat.le_of_ble_eq_true rfl, Nat.le_of_ble_eq_true rfl⟩ ⟨Nat.le_of_ble_eq_true rfl, Nat.le_of_ble_eq_true rfl⟩ dX6_risk_101 PR_ag (fun _ z => z.elim) ?_
              rintro _ _ _ ⟨rfl, rfl, rfl⟩
              refine wa_aload_n F dX6_risk_104 (i := 0) rfl 2 rfl ?_
              refine wa_getf (v := .ref 116) F LY_X6 (hm_m (S := (uNext jv (sU S 0 0 0)))) 16 (by decide) fl_X6_44 rfl dX6_risk_105 ?_
              refine wa_iload F dX6_risk_108 0 rfl ?_
              refine wa_iload_n F dX6_risk_110 (i := 3) rfl 5 rfl ?_
              refine wa_iast F 0 rfl (hm_16 (S := (uNext jv (sU S 0 0 0)))) ((8 * jv) + jz) rfl (by omega) (by decide) dX6_risk_111 (hu_16 ((8 * jv) + jz) q) ?_
              refine wa_aload_n F dX6_risk_112 (i := 0) rfl 2 rfl ?_
              refine wa_getf (v := .ref 117) F LY_X6 (hm_m (S := (sU (uNext jv (sU S 0 0 0)) 16 ((8 * jv) + jz) q))) 17 (by decide) fl_X6_47 rfl dX6_risk_113 ?_
              refine wa_iload F dX6_risk_116 0 rfl ?_
              refine wa_iload F dX6_risk_118 6 rfl ?_
              refine wa_iast F 0 rfl (hm_17 (S := (sU (uNext jv (sU S 0 0 0)) 16 ((8 * jv) + jz) q))) ((8 * jv) + jz) rfl (by omega) (by decide) dX6_risk_120 (hu_17 ((8 * jv) + jz) d) ?_
              refine wa_aload_n F dX6_risk_121 (i := 0) rfl 2 rfl ?_
              refine wa_getf (v := .ref 115) F LY_X6 (hm_m (S := (sU (sU (uNext jv (sU S 0 0 0)) 16 ((8 * jv) + jz) q) 17 ((8 * jv) + jz) d))) 15 (by decide) fl_X6_41 rfl dX6_risk_122 ?_
              refine wa_iload_n F dX6_risk_125 (i := 1) rfl 3 rfl ?_
              refine wa_iald (f := (sU (sU (uNext jv (sU S 0 0 0)) 16 ((8 * jv) + jz) q) 17 ((8 * jv) + jz) d) 15) F 0 rfl (hm_15 (S := (sU (sU (uNext jv (sU S 0 0 0)) 16 ((8 * jv) + jz) q) 17 ((8 * jv) + jz) d))) jv rfl (by omega) (by decide) dX6_risk_126 ?_
              refine wa_iret F rfl (Nat.le_of_ble_eq_true rfl) (Nat.le_of_ble_eq_true rfl) dX6_risk_127 ?_
              have ek : kRk S (nI jv) (nI jz) q d = 0 := by simp [kRk, c5, c15, c42, c52, c84, c96, ev, ez]
              refine ⟨?_, rfl, ?_⟩
              · rw [ek, mR_0]
                refine congrArg (fun z => some (Value.int z)) ?_
                unfold rRk uRk; rw [ev, ez, if_neg (show ¬ (q ≤ S 16 (8 * jv + jz) ∧ d ≤ S 17 (8 * jv + jz)) from fun z => c96 z.2)]; rfl
              · rw [ek, mS_0]
                unfold uRk; rw [ev, ez, if_neg (show ¬ (q ≤ (sU S 0 0 0) 16 (8 * jv + jz) ∧ d ≤ (sU S 0 0 0) 17 (8 * jv + jz)) from fun z => c96 z.2)]
        · skip
          replace c52 : (sIn d 0 q) = false := bI_f c52
          refine wa_iconst (v := 2) F dX6_risk_55 (by decide) ?_
          refine wa_goto (tgt := 60) F dX6_risk_56 (by decide) ?_
          refine wa_callV F [] (c_X6_refused hst D TC H0 ad X S o 2) mw_X6_refused ml_X6_127 hm_m rfl rfl (Nat.le_of_ble_eq_true rfl) ⟨Nat.le_of_ble_eq_true rfl, Nat.le_of_ble_eq_true rfl⟩ ⟨Nat.le_of_ble_eq_true rfl, Nat.le_of_ble_eq_true rfl⟩ dX6_risk_60 PR_ag (fun _ z => z.elim) ?_
          rintro _ _ _ ⟨rfl, rfl, rfl⟩
          rw [show (bI (decide (¬ (2 : Int32) = 0))) = 1 from rfl]
          refine wa_if_eq (tgt := 68) F dX6_risk_63 (by decide) (fun z => absurd z (by decide)) (fun _ => ?_)
          refine wa_iconst (v := 0) F dX6_risk_66 (by decide) ?_
          refine wa_iret F rfl (Nat.le_of_ble_eq_true rfl) (Nat.le_of_ble_eq_true rfl) dX6_risk_67 ?_
          have ek : kRk S (nI jv) (nI jz) q d = 2 := by simp [kRk, c5, c15, c42, c52, ev, ez]
          exact ⟨by rw [ek, mR_n (by decide)], rfl, by rw [ek, mS_n (by decide)]⟩
set_option maxHeartbeats 2000000 in
set_option maxRecDepth 20000 in
theorem c_X6_follow {l : Launch} (hst : l.stackTraces = false) (D : va_G) (TC : Nat → ClassId) (H0 : Heap) (ad : Nat → Nat) (X S : St) (o : Nat → Int64) (v : Int32) (t : Int32) (b : Int32) (n : Nat) (hi : INV n S) : CC l D (tysOf TC) H0 yX6_follow cX6_follow 6 (some .int) 6 0 0 [.ref 2, .int v, .int t, .int b] ad (hall TC X S o) (PR ad (some (.int (mR (kFo S v t b) (rFo S v t)))) (hall TC X (mS (kFo S v t b) (S) (uFo v t b)) o)) (fun _ => False) := by
  refine cc_intro hst (by decide +kernel) (Nat.le_of_ble_eq_true rfl) ?_
  intro p e s m args below meth c F
  rw [show lv_args 0 [.ref 2, .int v, .int t, .int b] = [(0, .ref 2), (1, .int v), (2, .int t), (3, .int b)] from rfl]
  obtain ⟨hc, hs, hp, hd0, hm, h7, h8, hbo0, hu0, hvr⟩ := id hi
  have hc2 := hc.2; have hs2 := hs.2; have hp2 := hp.2; have hd := hd0.2; have hm2 := hm.2
  refine wa_aload_n F dX6_follow_0 (i := 0) rfl 0 rfl ?_
  refine wa_iload_n F dX6_follow_1 (i := 1) rfl 1 rfl ?_
  refine wa_callV F [] (c_X6_isProduct hst D TC H0 ad X S o v) mw_X6_isProduct ml_X6_145 hm_m rfl rfl (Nat.le_of_ble_eq_true rfl) ⟨Nat.le_of_ble_eq_true rfl, Nat.le_of_ble_eq_true rfl⟩ ⟨Nat.le_of_ble_eq_true rfl, Nat.le_of_ble_eq_true rfl⟩ dX6_follow_2 PR_ag (fun _ z => z.elim) ?_
  rintro _ _ _ ⟨rfl, rfl, rfl⟩
  refine wa_if_eq (tgt := 20) F dX6_follow_5 (by decide) (fun c5 => ?_) (fun c5 => ?_)
  · skip
    replace c5 : (sIn v 0 (S 13 0 - 1)) = false := bI_f c5
    refine wa_iconst (v := 0) F dX6_follow_20 (by decide) ?_
    refine wa_istore (lv' := [(4, .int 0), (0, .ref 2), (1, .int v), (2, .int t), (3, .int b)]) F dX6_follow_21 (by decide) rfl ?_
    refine wa_aload_n F dX6_follow_23 (i := 0) rfl 1 rfl ?_
    refine wa_iload F dX6_follow_24 0 rfl ?_
    refine wa_if_ne (tgt := 33) F dX6_follow_26 (by decide) (fun z => absurd (by decide) z) (fun _ => ?_)
    refine wa_iconst (v := 1) F dX6_follow_29 (by decide) ?_
    refine wa_goto (tgt := 49) F dX6_follow_30 (by decide) ?_
    refine wa_callV F [] (c_X6_refused hst D TC H0 ad X S o 1) mw_X6_refused ml_X6_127 hm_m rfl rfl (Nat.le_of_ble_eq_true rfl) ⟨Nat.le_of_ble_eq_true rfl, Nat.le_of_ble_eq_true rfl⟩ ⟨Nat.le_of_ble_eq_true rfl, Nat.le_of_ble_eq_true rfl⟩ dX6_follow_49 PR_ag (fun _ z => z.elim) ?_
    rintro _ _ _ ⟨rfl, rfl, rfl⟩
    rw [show (bI (decide (¬ (1 : Int32) = 0))) = 1 from rfl]
    refine wa_if_eq (tgt := 57) F dX6_follow_52 (by decide) (fun z => absurd z (by decide)) (fun _ => ?_)
    refine wa_iconst (v := 0) F dX6_follow_55 (by decide) ?_
    refine wa_iret F rfl (Nat.le_of_ble_eq_true rfl) (Nat.le_of_ble_eq_true rfl) dX6_follow_56 ?_
    have ek : kFo S v t b = 1 := by simp [kFo, c5]
    exact ⟨by rw [ek, mR_n (by decide)], rfl, by rw [ek, mS_n (by decide)]⟩
  · skip
    replace c5 : (sIn v 0 (S 13 0 - 1)) = true := bI_t c5
    obtain ⟨jv, lv, rfl⟩ := sIn_nat hp.1 (by omega) c5
    have ev : tn (nI jv) = jv := tn_nI (by omega)
    refine wa_aload_n F dX6_follow_8 (i := 0) rfl 0 rfl ?_
    refine wa_iload_n F dX6_follow_9 (i := 2) rfl 2 rfl ?_
    refine wa_callV F [] (c_X6_isStandard hst D TC H0 ad X S o t) mw_X6_isStandard ml_X6_139 hm_m rfl rfl (Nat.le_of_ble_eq_true rfl) ⟨Nat.le_of_ble_eq_true rfl, Nat.le_of_ble_eq_true rfl⟩ ⟨Nat.le_of_ble_eq_true rfl, Nat.le_of_ble_eq_true rfl⟩ dX6_follow_10 PR_ag (fun _ z => z.elim) ?_
    rintro _ _ _ ⟨rfl, rfl, rfl⟩
    refine wa_if_eq (tgt := 20) F dX6_follow_13 (by decide) (fun c13 => ?_) (fun c13 => ?_)
    · skip
      replace c13 : (sIn t 0 (S 9 0 - 1)) = false := bI_f c13
      refine wa_iconst (v := 0) F dX6_follow_20 (by decide) ?_
      refine wa_istore (lv' := [(4, .int 0), (0, .ref 2), (1, .int (nI jv)), (2, .int t), (3, .int b)]) F dX6_follow_21 (by decide) rfl ?_
      refine wa_aload_n F dX6_follow_23 (i := 0) rfl 1 rfl ?_
      refine wa_iload F dX6_follow_24 0 rfl ?_
      refine wa_if_ne (tgt := 33) F dX6_follow_26 (by decide) (fun z => absurd (by decide) z) (fun _ => ?_)
      refine wa_iconst (v := 1) F dX6_follow_29 (by decide) ?_
      refine wa_goto (tgt := 49) F dX6_follow_30 (by decide) ?_
      refine wa_callV F [] (c_X6_refused hst D TC H0 ad X S o 1) mw_X6_refused ml_X6_127 hm_m rfl rfl (Nat.le_of_ble_eq_true rfl) ⟨Nat.le_of_ble_eq_true rfl, Nat.le_of_ble_eq_true rfl⟩ ⟨Nat.le_of_ble_eq_true rfl, Nat.le_of_ble_eq_true rfl⟩ dX6_follow_49 PR_ag (fun _ z => z.elim) ?_
      rintro _ _ _ ⟨rfl, rfl, rfl⟩
      rw [show (bI (decide (¬ (1 : Int32) = 0))) = 1 from rfl]
      refine wa_if_eq (tgt := 57) F dX6_follow_52 (by decide) (fun z => absurd z (by decide)) (fun _ => ?_)
      refine wa_iconst (v := 0) F dX6_follow_55 (by decide) ?_
      refine wa_iret F rfl (Nat.le_of_ble_eq_true rfl) (Nat.le_of_ble_eq_true rfl) dX6_follow_56 ?_
      have ek : kFo S (nI jv) t b = 1 := by simp [kFo, c5, c13, ev]
      exact ⟨by rw [ek, mR_n (by decide)], rfl, by rw [ek, mS_n (by decide)]⟩
    · skip
      replace c13 : (sIn t 0 (S 9 0 - 1)) = true := bI_t c13
      obtain ⟨jt, lt, rfl⟩ := sIn_nat hs.1 (by omega) c13
      have et : tn (nI jt) = jt := tn_nI (by omega)
      refine wa_iconst (v := 1) F dX6_follow_16 (by decide) ?_
      refine wa_goto (tgt := 21) F dX6_follow_17 (by decide) ?_
      refine wa_istore (lv' := [(4, .int 1), (0, .ref 2), (1, .int (nI jv)), (2, .int (nI jt)), (3, .int b)]) F dX6_follow_21 (by decide) rfl ?_
      refine wa_aload_n F dX6_follow_23 (i := 0) rfl 1 rfl ?_
      refine wa_iload F dX6_follow_24 0 rfl ?_
      refine wa_if_ne (tgt := 33) F dX6_follow_26 (by decide) (fun _ => ?_) (fun z => absurd z (by decide))
      refine wa_iload_n F dX6_follow_33 (i := 3) rfl 4 rfl ?_
      refine wa_iconst (v := 0) F dX6_follow_34 (by decide) ?_
      refine wa_sipush (v := 255) F dX6_follow_35 (by decide) ?_
      refine wa_callS F [.ref 2] (c_X6_in hst D (tysOf TC) H0 ad (hall TC X S o) b 0 255) mw_X6_in ml_X6_111 rfl (Nat.le_of_ble_eq_true rfl) ⟨Nat.le_of_ble_eq_true rfl, Nat.le_of_ble_eq_true rfl⟩ ⟨Nat.le_of_ble_eq_true rfl, Nat.le_of_ble_eq_true rfl⟩ dX6_follow_38 PR_ag (fun _ z => z.elim) ?_
      rintro _ _ _ ⟨rfl, rfl, rfl⟩
      refine wa_if_ne (tgt := 48) F dX6_follow_41 (by decide) (fun c41 => ?_) (fun c41 => ?_)
      · skip
        replace c41 : (sIn b 0 255) = true := bI_t c41
        refine wa_iconst (v := 0) F dX6_follow_48 (by decide) ?_
        refine wa_callV F [] (c_X6_refused hst D TC H0 ad X S o 0) mw_X6_refused ml_X6_127 hm_m rfl rfl (Nat.le_of_ble_eq_true rfl) ⟨Nat.le_of_ble_eq_true rfl, Nat.le_of_ble_eq_true rfl⟩ ⟨Nat.le_of_ble_eq_true rfl, Nat.le_of_ble_eq_true rfl⟩ dX6_follow_49 PR_ag (fun _ z => z.elim) ?_
        rintro _ _ _ ⟨rfl, rfl, rfl⟩
        rw [show (bI (decide (¬ (0 : Int32) = 0))) = 0 from rfl]
        refine wa_if_eq (tgt := 57) F dX6_follow_52 (by decide) (fun _ => ?_) (fun z => absurd (by decide) z)
        refine wa_aload_n F dX6_follow_57 (i := 0) rfl 1 rfl ?_
        refine wa_getf (v := .ref 118) F LY_X6 (hm_m (S := (sU S 0 0 0))) 18 (by decide) fl_X6_50 rfl dX6_follow_58 ?_
        refine wa_bipush (v := 12) F dX6_follow_61 (by decide) ?_
        refine wa_iload_n F dX6_follow_63 (i := 1) rfl 2 rfl ?_
        refine wa_imulN F dX6_follow_64 (a := 12) (b := jv) rfl rfl ?_
        refine wa_iload_n F dX6_follow_65 (i := 2) rfl 3 rfl ?_
        refine wa_iaddN F dX6_follow_66 (a := 12 * jv) (b := jt) rfl rfl ?_
        refine wa_iald (f := S 18) F 0 rfl (hm_18 (S := (sU S 0 0 0))) ((12 * jv) + jt) rfl (by omega) (by decide) dX6_follow_67 ?_
        refine wa_istore (lv' := [(5, .int (S 18 ((12 * jv) + jt))), (4, .int 1), (0, .ref 2), (1, .int (nI jv)), (2, .int (nI jt)), (3, .int b)]) F dX6_follow_68 (by decide) rfl ?_
        refine wa_aload_n F dX6_follow_70 (i := 0) rfl 2 rfl ?_
        refine wa_getf (v := .ref 118) F LY_X6 (hm_m (S := (sU S 0 0 0))) 18 (by decide) fl_X6_50 rfl dX6_follow_71 ?_
        refine wa_bipush (v := 12) F dX6_follow_74 (by decide) ?_
        refine wa_iload_n F dX6_follow_76 (i := 1) rfl 3 rfl ?_
        refine wa_imulN F dX6_follow_77 (a := 12) (b := jv) rfl rfl ?_
        refine wa_iload_n F dX6_follow_78 (i := 2) rfl 4 rfl ?_
        refine wa_iaddN F dX6_follow_79 (a := 12 * jv) (b := jt) rfl rfl ?_
        refine wa_iload_n F dX6_follow_80 (i := 3) rfl 5 rfl ?_
        refine wa_iast F 0 rfl (hm_18 (S := (sU S 0 0 0))) ((12 * jv) + jt) rfl (by omega) (by decide) dX6_follow_81 (hu_18 ((12 * jv) + jt) b) ?_
        refine wa_iload F dX6_follow_82 0 rfl ?_
        refine wa_iret F rfl (Nat.le_of_ble_eq_true rfl) (Nat.le_of_ble_eq_true rfl) dX6_follow_84 ?_
        have ek : kFo S (nI jv) (nI jt) b = 0 := by simp [kFo, c5, c13, c41, ev, et]
        refine ⟨?_, rfl, ?_⟩
        · rw [ek, mR_0]
          refine congrArg (fun z => some (Value.int z)) ?_
          unfold rFo; rw [ev, et]
        · rw [ek, mS_0]
          unfold uFo; rw [ev, et]
      · skip
        replace c41 : (sIn b 0 255) = false := bI_f c41
        refine wa_iconst (v := 2) F dX6_follow_44 (by decide) ?_
        refine wa_goto (tgt := 49) F dX6_follow_45 (by decide) ?_
        refine wa_callV F [] (c_X6_refused hst D TC H0 ad X S o 2) mw_X6_refused ml_X6_127 hm_m rfl rfl (Nat.le_of_ble_eq_true rfl) ⟨Nat.le_of_ble_eq_true rfl, Nat.le_of_ble_eq_true rfl⟩ ⟨Nat.le_of_ble_eq_true rfl, Nat.le_of_ble_eq_true rfl⟩ dX6_follow_49 PR_ag (fun _ z => z.elim) ?_
        rintro _ _ _ ⟨rfl, rfl, rfl⟩
        rw [show (bI (decide (¬ (2 : Int32) = 0))) = 1 from rfl]
        refine wa_if_eq (tgt := 57) F dX6_follow_52 (by decide) (fun z => absurd z (by decide)) (fun _ => ?_)
        refine wa_iconst (v := 0) F dX6_follow_55 (by decide) ?_
        refine wa_iret F rfl (Nat.le_of_ble_eq_true rfl) (Nat.le_of_ble_eq_true rfl) dX6_follow_56 ?_
        have ek : kFo S (nI jv) (nI jt) b = 2 := by simp [kFo, c5, c13, c41, ev, et]
        exact ⟨by rw [ek, mR_n (by decide)], rfl, by rw [ek, mS_n (by decide)]⟩
set_option maxHeartbeats 2000000 in
set_option maxRecDepth 20000 in
theorem c_X6_prove {l : Launch} (hst : l.stackTraces = false) (D : va_G) (TC : Nat → ClassId) (H0 : Heap) (ad : Nat → Nat) (X S : St) (o : Nat → Int64) (v : Int32) (b : Int32) (n : Nat) (hi : INV n S) : CC l D (tysOf TC) H0 yX6_prove cX6_prove 3 (some .int) 6 0 0 [.ref 2, .int v, .int b] ad (hall TC X S o) (PR ad (some (.int (mR (kPv S v b) (rPv S v b)))) (hall TC X (mS (kPv S v b) (S) (uPv v b)) o)) (fun _ => False) := by
  refine cc_intro hst (by decide +kernel) (Nat.le_of_ble_eq_true rfl) ?_
  intro p e s m args below meth c F
  rw [show lv_args 0 [.ref 2, .int v, .int b] = [(0, .ref 2), (1, .int v), (2, .int b)] from rfl]
  obtain ⟨hc, hs, hp, hd0, hm, h7, h8, hbo0, hu0, hvr⟩ := id hi
  have hc2 := hc.2; have hs2 := hs.2; have hp2 := hp.2; have hd := hd0.2; have hm2 := hm.2
  refine wa_aload_n F dX6_prove_0 (i := 0) rfl 0 rfl ?_
  refine wa_aload_n F dX6_prove_1 (i := 0) rfl 0 rfl ?_
  refine wa_iload_n F dX6_prove_2 (i := 1) rfl 1 rfl ?_
  refine wa_callV F [.ref 2] (c_X6_isProduct hst D TC H0 ad X S o v) mw_X6_isProduct ml_X6_145 hm_m rfl rfl (Nat.le_of_ble_eq_true rfl) ⟨Nat.le_of_ble_eq_true rfl, Nat.le_of_ble_eq_true rfl⟩ ⟨Nat.le_of_ble_eq_true rfl, Nat.le_of_ble_eq_true rfl⟩ dX6_prove_3 PR_ag (fun _ z => z.elim) ?_
  rintro _ _ _ ⟨rfl, rfl, rfl⟩
  refine wa_if_ne (tgt := 13) F dX6_prove_6 (by decide) (fun c6 => ?_) (fun c6 => ?_)
  · skip
    replace c6 : (sIn v 0 (S 13 0 - 1)) = true := bI_t c6
    obtain ⟨jv, lv, rfl⟩ := sIn_nat hp.1 (by omega) c6
    have ev : tn (nI jv) = jv := tn_nI (by omega)
    refine wa_iload_n F dX6_prove_13 (i := 2) rfl 2 rfl ?_
    refine wa_iconst (v := 1) F dX6_prove_14 (by decide) ?_
    refine wa_sipush (v := 255) F dX6_prove_15 (by decide) ?_
    refine wa_callS F [.ref 2] (c_X6_in hst D (tysOf TC) H0 ad (hall TC X S o) b 1 255) mw_X6_in ml_X6_111 rfl (Nat.le_of_ble_eq_true rfl) ⟨Nat.le_of_ble_eq_true rfl, Nat.le_of_ble_eq_true rfl⟩ ⟨Nat.le_of_ble_eq_true rfl, Nat.le_of_ble_eq_true rfl⟩ dX6_prove_18 PR_ag (fun _ z => z.elim) ?_
    rintro _ _ _ ⟨rfl, rfl, rfl⟩
    refine wa_if_ne (tgt := 28) F dX6_prove_21 (by decide) (fun c21 => ?_) (fun c21 => ?_)
    · skip
      replace c21 : (sIn b 1 255) = true := bI_t c21
      refine wa_iconst (v := 0) F dX6_prove_28 (by decide) ?_
      refine wa_callV F [] (c_X6_refused hst D TC H0 ad X S o 0) mw_X6_refused ml_X6_127 hm_m rfl rfl (Nat.le_of_ble_eq_true rfl) ⟨Nat.le_of_ble_eq_true rfl, Nat.le_of_ble_eq_true rfl⟩ ⟨Nat.le_of_ble_eq_true rfl, Nat.le_of_ble_eq_true rfl⟩ dX6_prove_29 PR_ag (fun _ z => z.elim) ?_
      rintro _ _ _ ⟨rfl, rfl, rfl⟩
      rw [show (bI (decide (¬ (0 : Int32) = 0))) = 0 from rfl]
      refine wa_if_eq (tgt := 37) F dX6_prove_32 (by decide) (fun _ => ?_) (fun z => absurd (by decide) z)
      refine wa_aload_n F dX6_prove_37 (i := 0) rfl 0 rfl ?_
      refine wa_getf (v := .ref 119) F LY_X6 (hm_m (S := (sU S 0 0 0))) 19 (by decide) fl_X6_53 rfl dX6_prove_38 ?_
      refine wa_iload_n F dX6_prove_41 (i := 1) rfl 1 rfl ?_
      refine wa_dup2 F dX6_prove_42 rfl rfl ?_
      refine wa_iald (f := S 19) F 0 rfl (hm_19 (S := (sU S 0 0 0))) jv rfl (by omega) (by decide) dX6_prove_43 ?_
      refine wa_iload_n F dX6_prove_44 (i := 2) rfl 2 rfl ?_
      refine wa_ior F dX6_prove_45 ?_
      refine wa_iast F 0 rfl (hm_19 (S := (sU S 0 0 0))) jv rfl (by omega) (by decide) dX6_prove_46 (hu_19 jv ((S 19 jv) ||| b)) ?_
      refine wa_aload_n F dX6_prove_47 (i := 0) rfl 0 rfl ?_
      refine wa_getf (v := .ref 119) F LY_X6 (hm_m (S := (sU (sU S 0 0 0) 19 jv ((S 19 jv) ||| b)))) 19 (by decide) fl_X6_53 rfl dX6_prove_48 ?_
      refine wa_iload_n F dX6_prove_51 (i := 1) rfl 1 rfl ?_
      refine wa_iald (f := (sU (sU S 0 0 0) 19 jv ((S 19 jv) ||| b)) 19) F 0 rfl (hm_19 (S := (sU (sU S 0 0 0) 19 jv ((S 19 jv) ||| b)))) jv rfl (by omega) (by decide) dX6_prove_52 ?_
      refine wa_iret F rfl (Nat.le_of_ble_eq_true rfl) (Nat.le_of_ble_eq_true rfl) dX6_prove_53 ?_
      have ek : kPv S (nI jv) b = 0 := by simp [kPv, c6, c21, ev]
      refine ⟨?_, rfl, ?_⟩
      · rw [ek, mR_0]
        refine congrArg (fun z => some (Value.int z)) ?_
        unfold rPv; rw [ev]; simp [sU, upd]
      · rw [ek, mS_0]
        unfold uPv; rw [ev]; rfl
    · skip
      replace c21 : (sIn b 1 255) = false := bI_f c21
      refine wa_iconst (v := 2) F dX6_prove_24 (by decide) ?_
      refine wa_goto (tgt := 29) F dX6_prove_25 (by decide) ?_
      refine wa_callV F [] (c_X6_refused hst D TC H0 ad X S o 2) mw_X6_refused ml_X6_127 hm_m rfl rfl (Nat.le_of_ble_eq_true rfl) ⟨Nat.le_of_ble_eq_true rfl, Nat.le_of_ble_eq_true rfl⟩ ⟨Nat.le_of_ble_eq_true rfl, Nat.le_of_ble_eq_true rfl⟩ dX6_prove_29 PR_ag (fun _ z => z.elim) ?_
      rintro _ _ _ ⟨rfl, rfl, rfl⟩
      rw [show (bI (decide (¬ (2 : Int32) = 0))) = 1 from rfl]
      refine wa_if_eq (tgt := 37) F dX6_prove_32 (by decide) (fun z => absurd z (by decide)) (fun _ => ?_)
      refine wa_iconst (v := 0) F dX6_prove_35 (by decide) ?_
      refine wa_iret F rfl (Nat.le_of_ble_eq_true rfl) (Nat.le_of_ble_eq_true rfl) dX6_prove_36 ?_
      have ek : kPv S (nI jv) b = 2 := by simp [kPv, c6, c21, ev]
      exact ⟨by rw [ek, mR_n (by decide)], rfl, by rw [ek, mS_n (by decide)]⟩
  · skip
    replace c6 : (sIn v 0 (S 13 0 - 1)) = false := bI_f c6
    refine wa_iconst (v := 1) F dX6_prove_9 (by decide) ?_
    refine wa_goto (tgt := 29) F dX6_prove_10 (by decide) ?_
    refine wa_callV F [] (c_X6_refused hst D TC H0 ad X S o 1) mw_X6_refused ml_X6_127 hm_m rfl rfl (Nat.le_of_ble_eq_true rfl) ⟨Nat.le_of_ble_eq_true rfl, Nat.le_of_ble_eq_true rfl⟩ ⟨Nat.le_of_ble_eq_true rfl, Nat.le_of_ble_eq_true rfl⟩ dX6_prove_29 PR_ag (fun _ z => z.elim) ?_
    rintro _ _ _ ⟨rfl, rfl, rfl⟩
    rw [show (bI (decide (¬ (1 : Int32) = 0))) = 1 from rfl]
    refine wa_if_eq (tgt := 37) F dX6_prove_32 (by decide) (fun z => absurd z (by decide)) (fun _ => ?_)
    refine wa_iconst (v := 0) F dX6_prove_35 (by decide) ?_
    refine wa_iret F rfl (Nat.le_of_ble_eq_true rfl) (Nat.le_of_ble_eq_true rfl) dX6_prove_36 ?_
    have ek : kPv S v b = 1 := by simp [kPv, c6]
    exact ⟨by rw [ek, mR_n (by decide)], rfl, by rw [ek, mS_n (by decide)]⟩
set_option maxHeartbeats 2000000 in
set_option maxRecDepth 20000 in
theorem c_X6_declare {l : Launch} (hst : l.stackTraces = false) (D : va_G) (TC : Nat → ClassId) (H0 : Heap) (ad : Nat → Nat) (X S : St) (o : Nat → Int64) (v : Int32) (n : Nat) (hi : INV n S) : CC l D (tysOf TC) H0 yX6_declare cX6_declare 3 (some .int) 6 0 0 [.ref 2, .int v] ad (hall TC X S o) (PR ad (some (.int (mR (kDc S v) (rDc S)))) (hall TC X (mS (kDc S v) (S) (uDc v)) o)) (fun _ => False) := by
  refine cc_intro hst (by decide +kernel) (Nat.le_of_ble_eq_true rfl) ?_
  intro p e s m args below meth c F
  rw [show lv_args 0 [.ref 2, .int v] = [(0, .ref 2), (1, .int v)] from rfl]
  obtain ⟨hc, hs, hp, hd0, hm, h7, h8, hbo0, hu0, hvr⟩ := id hi
  have hc2 := hc.2; have hs2 := hs.2; have hp2 := hp.2; have hd := hd0.2; have hm2 := hm.2
  refine wa_aload_n F dX6_declare_0 (i := 0) rfl 0 rfl ?_
  refine wa_iload_n F dX6_declare_1 (i := 1) rfl 1 rfl ?_
  refine wa_callV F [] (c_X6_isProduct hst D TC H0 ad X S o v) mw_X6_isProduct ml_X6_145 hm_m rfl rfl (Nat.le_of_ble_eq_true rfl) ⟨Nat.le_of_ble_eq_true rfl, Nat.le_of_ble_eq_true rfl⟩ ⟨Nat.le_of_ble_eq_true rfl, Nat.le_of_ble_eq_true rfl⟩ dX6_declare_2 PR_ag (fun _ z => z.elim) ?_
  rintro _ _ _ ⟨rfl, rfl, rfl⟩
  refine wa_istore_n (lv' := [(2, .int (bI (sIn v 0 (S 13 0 - 1)))), (0, .ref 2), (1, .int v)]) F dX6_declare_5 (i := 2) rfl (by decide) rfl ?_
  refine wa_aload_n F dX6_declare_6 (i := 0) rfl 1 rfl ?_
  refine wa_iload_n F dX6_declare_7 (i := 2) rfl 0 rfl ?_
  refine wa_if_ne (tgt := 15) F dX6_declare_8 (by decide) (fun c8 => ?_) (fun c8 => ?_)
  · skip
    replace c8 : (sIn v 0 (S 13 0 - 1)) = true := bI_t c8
    obtain ⟨jv, lv, rfl⟩ := sIn_nat hp.1 (by omega) c8
    have ev : tn (nI jv) = jv := tn_nI (by omega)
    have hbo := hbo0 jv lv
    refine wa_aload_n F dX6_declare_15 (i := 0) rfl 1 rfl ?_
    refine wa_iload_n F dX6_declare_16 (i := 1) rfl 2 rfl ?_
    refine wa_callV F [.ref 2] (c_X6_wantingOf hst D TC H0 ad X S o jv (by omega) hc hs hd hbo) mw_X6_wantingOf ml_X6_186 hm_m rfl rfl (Nat.le_of_ble_eq_true rfl) ⟨Nat.le_of_ble_eq_true rfl, Nat.le_of_ble_eq_true rfl⟩ ⟨Nat.le_of_ble_eq_true rfl, Nat.le_of_ble_eq_true rfl⟩ dX6_declare_17 PR_ag (fun _ z => z.elim) ?_
    rintro _ _ _ ⟨rfl, rfl, rfl⟩
    refine wa_bipush (v := 6) F dX6_declare_20 (by decide) ?_
    refine wa_irem F (by decide) dX6_declare_22 ?_
    refine wa_if_eq (tgt := 30) F dX6_declare_23 (by decide) (fun c23 => ?_) (fun c23 => ?_)
    · skip
      refine wa_iconst (v := 0) F dX6_declare_30 (by decide) ?_
      refine wa_callV F [] (c_X6_refused hst D TC H0 ad X S o 0) mw_X6_refused ml_X6_127 hm_m rfl rfl (Nat.le_of_ble_eq_true rfl) ⟨Nat.le_of_ble_eq_true rfl, Nat.le_of_ble_eq_true rfl⟩ ⟨Nat.le_of_ble_eq_true rfl, Nat.le_of_ble_eq_true rfl⟩ dX6_declare_31 PR_ag (fun _ z => z.elim) ?_
      rintro _ _ _ ⟨rfl, rfl, rfl⟩
      rw [show (bI (decide (¬ (0 : Int32) = 0))) = 0 from rfl]
      refine wa_if_eq (tgt := 39) F dX6_declare_34 (by decide) (fun _ => ?_) (fun z => absurd (by decide) z)
      refine wa_aload_n F dX6_declare_39 (i := 0) rfl 1 rfl ?_
      refine wa_getf (v := .ref 123) F LY_X6 (hm_m (S := (sU S 0 0 0))) 23 (by decide) fl_X6_65 rfl dX6_declare_40 ?_
      refine wa_iload_n F dX6_declare_43 (i := 1) rfl 2 rfl ?_
      refine wa_aload_n F dX6_declare_44 (i := 0) rfl 1 rfl ?_
      refine wa_getf (v := .int (S 1 0)) F LY_X6 (hm_m (S := (sU S 0 0 0))) 1 (by decide) fl_X6_142 rfl dX6_declare_45 ?_
      refine wa_iast F 0 rfl (hm_23 (S := (sU S 0 0 0))) jv rfl (by omega) (by decide) dX6_declare_48 (hu_23 jv (S 1 0)) ?_
      refine wa_aload_n F dX6_declare_49 (i := 0) rfl 1 rfl ?_
      refine wa_getf (v := .int (S 1 0)) F LY_X6 (hm_m (S := (sU (sU S 0 0 0) 23 jv (S 1 0)))) 1 (by decide) fl_X6_142 rfl dX6_declare_50 ?_
      refine wa_iret F rfl (Nat.le_of_ble_eq_true rfl) (Nat.le_of_ble_eq_true rfl) dX6_declare_53 ?_
      have ek : kDc S (nI jv) = 0 := by simp [kDc, c8, c23, ev]
      refine ⟨?_, rfl, ?_⟩
      · rw [ek, mR_0]
        refine congrArg (fun z => some (Value.int z)) ?_
        unfold rDc; simp only [ev]
      · rw [ek, mS_0]
        unfold uDc; rw [ev]; rfl
    · skip
      refine wa_iconst (v := 2) F dX6_declare_26 (by decide) ?_
      refine wa_goto (tgt := 31) F dX6_declare_27 (by decide) ?_
      refine wa_callV F [] (c_X6_refused hst D TC H0 ad X S o 2) mw_X6_refused ml_X6_127 hm_m rfl rfl (Nat.le_of_ble_eq_true rfl) ⟨Nat.le_of_ble_eq_true rfl, Nat.le_of_ble_eq_true rfl⟩ ⟨Nat.le_of_ble_eq_true rfl, Nat.le_of_ble_eq_true rfl⟩ dX6_declare_31 PR_ag (fun _ z => z.elim) ?_
      rintro _ _ _ ⟨rfl, rfl, rfl⟩
      rw [show (bI (decide (¬ (2 : Int32) = 0))) = 1 from rfl]
      refine wa_if_eq (tgt := 39) F dX6_declare_34 (by decide) (fun z => absurd z (by decide)) (fun _ => ?_)
      refine wa_iconst (v := 0) F dX6_declare_37 (by decide) ?_
      refine wa_iret F rfl (Nat.le_of_ble_eq_true rfl) (Nat.le_of_ble_eq_true rfl) dX6_declare_38 ?_
      have ek : kDc S (nI jv) = 2 := by simp [kDc, c8, c23, ev]
      exact ⟨by rw [ek, mR_n (by decide)], rfl, by rw [ek, mS_n (by decide)]⟩
  · skip
    replace c8 : (sIn v 0 (S 13 0 - 1)) = false := bI_f c8
    refine wa_iconst (v := 1) F dX6_declare_11 (by decide) ?_
    refine wa_goto (tgt := 31) F dX6_declare_12 (by decide) ?_
    refine wa_callV F [] (c_X6_refused hst D TC H0 ad X S o 1) mw_X6_refused ml_X6_127 hm_m rfl rfl (Nat.le_of_ble_eq_true rfl) ⟨Nat.le_of_ble_eq_true rfl, Nat.le_of_ble_eq_true rfl⟩ ⟨Nat.le_of_ble_eq_true rfl, Nat.le_of_ble_eq_true rfl⟩ dX6_declare_31 PR_ag (fun _ z => z.elim) ?_
    rintro _ _ _ ⟨rfl, rfl, rfl⟩
    rw [show (bI (decide (¬ (1 : Int32) = 0))) = 1 from rfl]
    refine wa_if_eq (tgt := 39) F dX6_declare_34 (by decide) (fun z => absurd z (by decide)) (fun _ => ?_)
    refine wa_iconst (v := 0) F dX6_declare_37 (by decide) ?_
    refine wa_iret F rfl (Nat.le_of_ble_eq_true rfl) (Nat.le_of_ble_eq_true rfl) dX6_declare_38 ?_
    have ek : kDc S v = 1 := by simp [kDc, c8]
    exact ⟨by rw [ek, mR_n (by decide)], rfl, by rw [ek, mS_n (by decide)]⟩
set_option maxHeartbeats 2000000 in
set_option maxRecDepth 20000 in
theorem c_X6_body {l : Launch} (hst : l.stackTraces = false) (D : va_G) (TC : Nat → ClassId) (H0 : Heap) (ad : Nat → Nat) (X S : St) (o : Nat → Int64) (b : Int32) (n : Nat) (hi : INV n S) : CC l D (tysOf TC) H0 yX6_body cX6_body 2 (some .int) 6 0 0 [.ref 2, .int b] ad (hall TC X S o) (PR ad (some (.int (mR (kBo S b) (rBo S)))) (hall TC X (mS (kBo S b) (S) (uBo b)) o)) (fun _ => False) := by
  refine cc_intro hst (by decide +kernel) (Nat.le_of_ble_eq_true rfl) ?_
  intro p e s m args below meth c F
  rw [show lv_args 0 [.ref 2, .int b] = [(0, .ref 2), (1, .int b)] from rfl]
  obtain ⟨hc, hs, hp, hd0, hm, h7, h8, hbo0, hu0, hvr⟩ := id hi
  have hc2 := hc.2; have hs2 := hs.2; have hp2 := hp.2; have hd := hd0.2; have hm2 := hm.2
  refine wa_aload_n F dX6_body_0 (i := 0) rfl 0 rfl ?_
  refine wa_iload_n F dX6_body_1 (i := 1) rfl 1 rfl ?_
  refine wa_iconst (v := 1) F dX6_body_2 (by decide) ?_
  refine wa_bipush (v := 63) F dX6_body_3 (by decide) ?_
  refine wa_callS F [.ref 2] (c_X6_in hst D (tysOf TC) H0 ad (hall TC X S o) b 1 63) mw_X6_in ml_X6_111 rfl (Nat.le_of_ble_eq_true rfl) ⟨Nat.le_of_ble_eq_true rfl, Nat.le_of_ble_eq_true rfl⟩ ⟨Nat.le_of_ble_eq_true rfl, Nat.le_of_ble_eq_true rfl⟩ dX6_body_5 PR_ag (fun _ z => z.elim) ?_
  rintro _ _ _ ⟨rfl, rfl, rfl⟩
  refine wa_if_ne (tgt := 15) F dX6_body_8 (by decide) (fun c8 => ?_) (fun c8 => ?_)
  · skip
    replace c8 : (sIn b 1 63) = true := bI_t c8
    refine wa_aload_n F dX6_body_15 (i := 0) rfl 0 rfl ?_
    refine wa_getf (v := .int (S 25 0)) F LY_X6 (hm_m (S := S)) 25 (by decide) fl_X6_121 rfl dX6_body_16 ?_
    refine wa_iconst (v := 5) F dX6_body_19 (by decide) ?_
    refine wa_icmp_ne (tgt := 27) F dX6_body_20 (by decide) (fun c20 => ?_) (fun c20 => ?_)
    · skip
      have hlt25 : cnt S 25 < 5 := cn_lt hd0 rfl c20
      refine wa_iconst (v := 0) F dX6_body_27 (by decide) ?_
      refine wa_callV F [] (c_X6_refused hst D TC H0 ad X S o 0) mw_X6_refused ml_X6_127 hm_m rfl rfl (Nat.le_of_ble_eq_true rfl) ⟨Nat.le_of_ble_eq_true rfl, Nat.le_of_ble_eq_true rfl⟩ ⟨Nat.le_of_ble_eq_true rfl, Nat.le_of_ble_eq_true rfl⟩ dX6_body_28 PR_ag (fun _ z => z.elim) ?_
      rintro _ _ _ ⟨rfl, rfl, rfl⟩
      rw [show (bI (decide (¬ (0 : Int32) = 0))) = 0 from rfl]
      refine wa_if_eq (tgt := 36) F dX6_body_31 (by decide) (fun _ => ?_) (fun z => absurd (by decide) z)
      refine wa_aload_n F dX6_body_36 (i := 0) rfl 0 rfl ?_
      refine wa_getf (v := .ref 126) F LY_X6 (hm_m (S := (sU S 0 0 0))) 26 (by decide) fl_X6_71 rfl dX6_body_37 ?_
      refine wa_aload_n F dX6_body_40 (i := 0) rfl 0 rfl ?_
      refine wa_getf (v := .int (S 25 0)) F LY_X6 (hm_m (S := (sU S 0 0 0))) 25 (by decide) fl_X6_121 rfl dX6_body_41 ?_
      refine wa_iload_n F dX6_body_44 (i := 1) rfl 1 rfl ?_
      refine wa_iast F 0 rfl (hm_26 (S := (sU S 0 0 0))) (cnt S 25) hd0.1 (by omega) (by decide) dX6_body_45 (hu_26 (cnt S 25) b) ?_
      refine wa_aload_n F dX6_body_46 (i := 0) rfl 0 rfl ?_
      refine wa_getf (v := .ref 127) F LY_X6 (hm_m (S := (sU (sU S 0 0 0) 26 (cnt S 25) b))) 27 (by decide) fl_X6_74 rfl dX6_body_47 ?_
      refine wa_aload_n F dX6_body_50 (i := 0) rfl 0 rfl ?_
      refine wa_getf (v := .int (S 25 0)) F LY_X6 (hm_m (S := (sU (sU S 0 0 0) 26 (cnt S 25) b))) 25 (by decide) fl_X6_121 rfl dX6_body_51 ?_
      refine wa_iconst (v := (-1)) F dX6_body_54 (by decide) ?_
      refine wa_iast F 0 rfl (hm_27 (S := (sU (sU S 0 0 0) 26 (cnt S 25) b))) (cnt S 25) hd0.1 (by omega) (by decide) dX6_body_55 (hu_27 (cnt S 25) (-1)) ?_
      refine wa_aload_n F dX6_body_56 (i := 0) rfl 0 rfl ?_
      refine wa_dup F dX6_body_57 rfl ?_
      refine wa_getf (v := .int (S 25 0)) F LY_X6 (hm_m (S := (sU (sU (sU S 0 0 0) 26 (cnt S 25) b) 27 (cnt S 25) (-1)))) 25 (by decide) fl_X6_121 rfl dX6_body_58 ?_
      refine wa_iconst (v := 1) F dX6_body_61 (by decide) ?_
      refine wa_iadd F dX6_body_62 ?_
      refine wa_putf F LY_X6 (hm_m (S := (sU (sU (sU S 0 0 0) 26 (cnt S 25) b) 27 (cnt S 25) (-1)))) 25 (by decide) fl_X6_121 rfl rfl rfl (Nat.le_of_ble_eq_true rfl) dX6_body_63 (hs_25 ((S 25 0) + 1)) ?_
      refine wa_aload_n F dX6_body_66 (i := 0) rfl 0 rfl ?_
      refine wa_getf (v := .int ((sU (sU (sU (sU S 0 0 0) 26 (cnt S 25) b) 27 (cnt S 25) (-1)) 25 0 ((S 25 0) + 1)) 25 0)) F LY_X6 (hm_m (S := (sU (sU (sU (sU S 0 0 0) 26 (cnt S 25) b) 27 (cnt S 25) (-1)) 25 0 ((S 25 0) + 1)))) 25 (by decide) fl_X6_121 rfl dX6_body_67 ?_
      refine wa_iconst (v := 1) F dX6_body_70 (by decide) ?_
      refine wa_isub F dX6_body_71 ?_
      refine wa_iret F rfl (Nat.le_of_ble_eq_true rfl) (Nat.le_of_ble_eq_true rfl) dX6_body_72 ?_
      have ek : kBo S b = 0 := by simp [kBo, c8, c20]
      refine ⟨?_, rfl, ?_⟩
      · rw [ek, mR_0]
        refine congrArg (fun z => some (Value.int z)) ?_
        unfold rBo; simp [sU, upd, Int32.add_sub_cancel]
      · rw [ek, mS_0]
        unfold uBo; rfl
    · skip
      refine wa_iconst (v := 2) F dX6_body_23 (by decide) ?_
      refine wa_goto (tgt := 28) F dX6_body_24 (by decide) ?_
      refine wa_callV F [] (c_X6_refused hst D TC H0 ad X S o 2) mw_X6_refused ml_X6_127 hm_m rfl rfl (Nat.le_of_ble_eq_true rfl) ⟨Nat.le_of_ble_eq_true rfl, Nat.le_of_ble_eq_true rfl⟩ ⟨Nat.le_of_ble_eq_true rfl, Nat.le_of_ble_eq_true rfl⟩ dX6_body_28 PR_ag (fun _ z => z.elim) ?_
      rintro _ _ _ ⟨rfl, rfl, rfl⟩
      rw [show (bI (decide (¬ (2 : Int32) = 0))) = 1 from rfl]
      refine wa_if_eq (tgt := 36) F dX6_body_31 (by decide) (fun z => absurd z (by decide)) (fun _ => ?_)
      refine wa_iconst (v := 0) F dX6_body_34 (by decide) ?_
      refine wa_iret F rfl (Nat.le_of_ble_eq_true rfl) (Nat.le_of_ble_eq_true rfl) dX6_body_35 ?_
      have ek : kBo S b = 2 := by simp [kBo, c8, c20]
      exact ⟨by rw [ek, mR_n (by decide)], rfl, by rw [ek, mS_n (by decide)]⟩
  · skip
    replace c8 : (sIn b 1 63) = false := bI_f c8
    refine wa_iconst (v := 1) F dX6_body_11 (by decide) ?_
    refine wa_goto (tgt := 28) F dX6_body_12 (by decide) ?_
    refine wa_callV F [] (c_X6_refused hst D TC H0 ad X S o 1) mw_X6_refused ml_X6_127 hm_m rfl rfl (Nat.le_of_ble_eq_true rfl) ⟨Nat.le_of_ble_eq_true rfl, Nat.le_of_ble_eq_true rfl⟩ ⟨Nat.le_of_ble_eq_true rfl, Nat.le_of_ble_eq_true rfl⟩ dX6_body_28 PR_ag (fun _ z => z.elim) ?_
    rintro _ _ _ ⟨rfl, rfl, rfl⟩
    rw [show (bI (decide (¬ (1 : Int32) = 0))) = 1 from rfl]
    refine wa_if_eq (tgt := 36) F dX6_body_31 (by decide) (fun z => absurd z (by decide)) (fun _ => ?_)
    refine wa_iconst (v := 0) F dX6_body_34 (by decide) ?_
    refine wa_iret F rfl (Nat.le_of_ble_eq_true rfl) (Nat.le_of_ble_eq_true rfl) dX6_body_35 ?_
    have ek : kBo S b = 1 := by simp [kBo, c8]
    exact ⟨by rw [ek, mR_n (by decide)], rfl, by rw [ek, mS_n (by decide)]⟩
set_option maxHeartbeats 2000000 in
set_option maxRecDepth 20000 in
theorem c_X6_suspend {l : Launch} (hst : l.stackTraces = false) (D : va_G) (TC : Nat → ClassId) (H0 : Heap) (ad : Nat → Nat) (X S : St) (o : Nat → Int64) (v : Int32) (q : Bool) (n : Nat) (hi : INV n S) : CC l D (tysOf TC) H0 yX6_suspend cX6_suspend 4 (some .boolean) 6 0 0 [.ref 2, .int v, .int (bI q)] ad (hall TC X S o) (PR ad (some (.int (mR (kSu S v) (rSu S v)))) (hall TC X (mS (kSu S v) (S) (uSu v q)) o)) (fun _ => False) := by
  refine cc_intro hst (by decide +kernel) (Nat.le_of_ble_eq_true rfl) ?_
  intro p e s m args below meth c F
  rw [show lv_args 0 [.ref 2, .int v, .int (bI q)] = [(0, .ref 2), (1, .int v), (2, .int (bI q))] from rfl]
  obtain ⟨hc, hs, hp, hd0, hm, h7, h8, hbo0, hu0, hvr⟩ := id hi
  have hc2 := hc.2; have hs2 := hs.2; have hp2 := hp.2; have hd := hd0.2; have hm2 := hm.2
  refine wa_aload_n F dX6_suspend_0 (i := 0) rfl 0 rfl ?_
  refine wa_aload_n F dX6_suspend_1 (i := 0) rfl 0 rfl ?_
  refine wa_iload_n F dX6_suspend_2 (i := 1) rfl 1 rfl ?_
  refine wa_callV F [.ref 2] (c_X6_isBody hst D TC H0 ad X S o v) mw_X6_isBody ml_X6_189 hm_m rfl rfl (Nat.le_of_ble_eq_true rfl) ⟨Nat.le_of_ble_eq_true rfl, Nat.le_of_ble_eq_true rfl⟩ ⟨Nat.le_of_ble_eq_true rfl, Nat.le_of_ble_eq_true rfl⟩ dX6_suspend_3 PR_ag (fun _ z => z.elim) ?_
  rintro _ _ _ ⟨rfl, rfl, rfl⟩
  refine wa_if_eq (tgt := 13) F dX6_suspend_6 (by decide) (fun c6 => ?_) (fun c6 => ?_)
  · skip
    replace c6 : (sIn v 0 (S 25 0 - 1)) = false := bI_f c6
    refine wa_iconst (v := 1) F dX6_suspend_13 (by decide) ?_
    refine wa_callV F [] (c_X6_refused hst D TC H0 ad X S o 1) mw_X6_refused ml_X6_127 hm_m rfl rfl (Nat.le_of_ble_eq_true rfl) ⟨Nat.le_of_ble_eq_true rfl, Nat.le_of_ble_eq_true rfl⟩ ⟨Nat.le_of_ble_eq_true rfl, Nat.le_of_ble_eq_true rfl⟩ dX6_suspend_14 PR_ag (fun _ z => z.elim) ?_
    rintro _ _ _ ⟨rfl, rfl, rfl⟩
    rw [show (bI (decide (¬ (1 : Int32) = 0))) = 1 from rfl]
    refine wa_if_eq (tgt := 22) F dX6_suspend_17 (by decide) (fun z => absurd z (by decide)) (fun _ => ?_)
    refine wa_iconst (v := 0) F dX6_suspend_20 (by decide) ?_
    refine wa_iret F rfl (Nat.le_of_ble_eq_true rfl) (Nat.le_of_ble_eq_true rfl) dX6_suspend_21 ?_
    have ek : kSu S v = 1 := by simp [kSu, c6]
    exact ⟨by rw [ek, mR_n (by decide)], rfl, by rw [ek, mS_n (by decide)]⟩
  · skip
    replace c6 : (sIn v 0 (S 25 0 - 1)) = true := bI_t c6
    obtain ⟨jv, lv, rfl⟩ := sIn_nat hd0.1 (by omega) c6
    have ev : tn (nI jv) = jv := tn_nI (by omega)
    refine wa_iconst (v := 0) F dX6_suspend_9 (by decide) ?_
    refine wa_goto (tgt := 14) F dX6_suspend_10 (by decide) ?_
    refine wa_callV F [] (c_X6_refused hst D TC H0 ad X S o 0) mw_X6_refused ml_X6_127 hm_m rfl rfl (Nat.le_of_ble_eq_true rfl) ⟨Nat.le_of_ble_eq_true rfl, Nat.le_of_ble_eq_true rfl⟩ ⟨Nat.le_of_ble_eq_true rfl, Nat.le_of_ble_eq_true rfl⟩ dX6_suspend_14 PR_ag (fun _ z => z.elim) ?_
    rintro _ _ _ ⟨rfl, rfl, rfl⟩
    rw [show (bI (decide (¬ (0 : Int32) = 0))) = 0 from rfl]
    refine wa_if_eq (tgt := 22) F dX6_suspend_17 (by decide) (fun _ => ?_) (fun z => absurd (by decide) z)
    refine wa_aload_n F dX6_suspend_22 (i := 0) rfl 0 rfl ?_
    refine wa_getf (v := .ref 127) F LY_X6 (hm_m (S := (sU S 0 0 0))) 27 (by decide) fl_X6_74 rfl dX6_suspend_23 ?_
    refine wa_iload_n F dX6_suspend_26 (i := 1) rfl 1 rfl ?_
    refine wa_iald (f := S 27) F 0 rfl (hm_27 (S := (sU S 0 0 0))) jv rfl (by omega) (by decide) dX6_suspend_27 ?_
    refine wa_iconst (v := (-1)) F dX6_suspend_28 (by decide) ?_
    refine wa_icmp_eq (tgt := 36) F dX6_suspend_29 (by decide) (fun c29 => ?_) (fun c29 => ?_)
    · skip
      refine wa_iconst (v := 0) F dX6_suspend_36 (by decide) ?_
      refine wa_istore_n (lv' := [(3, .int 0), (0, .ref 2), (1, .int (nI jv)), (2, .int (bI q))]) F dX6_suspend_37 (i := 3) rfl (by decide) rfl ?_
      refine wa_aload_n F dX6_suspend_38 (i := 0) rfl 1 rfl ?_
      refine wa_getf (v := .ref 127) F LY_X6 (hm_m (S := (sU S 0 0 0))) 27 (by decide) fl_X6_74 rfl dX6_suspend_39 ?_
      refine wa_iload_n F dX6_suspend_42 (i := 1) rfl 2 rfl ?_
      refine wa_iload_n F dX6_suspend_43 (i := 2) rfl 3 rfl ?_
      refine wa_if_ne (tgt := 51) F dX6_suspend_44 (by decide) (fun c44 => ?_) (fun c44 => ?_)
      · skip
        replace c44 : q = true := bI_t c44
        refine wa_iload_n F dX6_suspend_51 (i := 3) rfl 0 rfl ?_
        refine wa_if_eq (tgt := 64) F dX6_suspend_52 (by decide) (fun _ => ?_) (fun z => absurd (by decide) z)
        refine wa_aload_n F dX6_suspend_64 (i := 0) rfl 1 rfl ?_
        refine wa_getf (v := .int (S 1 0)) F LY_X6 (hm_m (S := (sU S 0 0 0))) 1 (by decide) fl_X6_142 rfl dX6_suspend_65 ?_
        refine wa_iast F 0 rfl (hm_27 (S := (sU S 0 0 0))) jv rfl (by omega) (by decide) dX6_suspend_68 (hu_27 jv (S 1 0)) ?_
        refine wa_iload_n F dX6_suspend_69 (i := 3) rfl 0 rfl ?_
        refine wa_iret F rfl (Nat.le_of_ble_eq_true rfl) (Nat.le_of_ble_eq_true rfl) dX6_suspend_70 ?_
        have ek : kSu S (nI jv) = 0 := by simp [kSu, c6, c29, c44, ev]
        refine ⟨?_, rfl, ?_⟩
        · rw [ek, mR_0]
          refine congrArg (fun z => some (Value.int z)) ?_
          unfold rSu; rw [ev]; simp [bI, c29]
        · rw [ek, mS_0]
          unfold uSu; rw [ev]; rw [show (if q = true then (if (sU S 0 0 0) 27 jv = -1 then (sU S 0 0 0) 1 0 else (sU S 0 0 0) 27 jv) else -1) = (S 1 0) from by rw [show (sU S 0 0 0) 27 = S 27 from rfl, show (sU S 0 0 0) 1 = S 1 from rfl]; simp [c29, c44]]
      · skip
        replace c44 : q = false := bI_f c44
        refine wa_iconst (v := (-1)) F dX6_suspend_47 (by decide) ?_
        refine wa_goto (tgt := 68) F dX6_suspend_48 (by decide) ?_
        refine wa_iast F 0 rfl (hm_27 (S := (sU S 0 0 0))) jv rfl (by omega) (by decide) dX6_suspend_68 (hu_27 jv (-1)) ?_
        refine wa_iload_n F dX6_suspend_69 (i := 3) rfl 0 rfl ?_
        refine wa_iret F rfl (Nat.le_of_ble_eq_true rfl) (Nat.le_of_ble_eq_true rfl) dX6_suspend_70 ?_
        have ek : kSu S (nI jv) = 0 := by simp [kSu, c6, c29, c44, ev]
        refine ⟨?_, rfl, ?_⟩
        · rw [ek, mR_0]
          refine congrArg (fun z => some (Value.int z)) ?_
          unfold rSu; rw [ev]; simp [bI, c29]
        · rw [ek, mS_0]
          unfold uSu; rw [ev]; rw [show (if q = true then (if (sU S 0 0 0) 27 jv = -1 then (sU S 0 0 0) 1 0 else (sU S 0 0 0) 27 jv) else -1) = (-1) from by rw [show (sU S 0 0 0) 27 = S 27 from rfl, show (sU S 0 0 0) 1 = S 1 from rfl]; simp [c29, c44]]
    · skip
      refine wa_iconst (v := 1) F dX6_suspend_32 (by decide) ?_
      refine wa_goto (tgt := 37) F dX6_suspend_33 (by decide) ?_
      refine wa_istore_n (lv' := [(3, .int 1), (0, .ref 2), (1, .int (nI jv)), (2, .int (bI q))]) F dX6_suspend_37 (i := 3) rfl (by decide) rfl ?_
      refine wa_aload_n F dX6_suspend_38 (i := 0) rfl 1 rfl ?_
      refine wa_getf (v := .ref 127) F LY_X6 (hm_m (S := (sU S 0 0 0))) 27 (by decide) fl_X6_74 rfl dX6_suspend_39 ?_
      refine wa_iload_n F dX6_suspend_42 (i := 1) rfl 2 rfl ?_
      refine wa_iload_n F dX6_suspend_43 (i := 2) rfl 3 rfl ?_
      refine wa_if_ne (tgt := 51) F dX6_suspend_44 (by decide) (fun c44 => ?_) (fun c44 => ?_)
      · skip
        replace c44 : q = true := bI_t c44
        refine wa_iload_n F dX6_suspend_51 (i := 3) rfl 0 rfl ?_
        refine wa_if_eq (tgt := 64) F dX6_suspend_52 (by decide) (fun z => absurd z (by decide)) (fun _ => ?_)
        refine wa_aload_n F dX6_suspend_55 (i := 0) rfl 1 rfl ?_
        refine wa_getf (v := .ref 127) F LY_X6 (hm_m (S := (sU S 0 0 0))) 27 (by decide) fl_X6_74 rfl dX6_suspend_56 ?_
        refine wa_iload_n F dX6_suspend_59 (i := 1) rfl 2 rfl ?_
        refine wa_iald (f := S 27) F 0 rfl (hm_27 (S := (sU S 0 0 0))) jv rfl (by omega) (by decide) dX6_suspend_60 ?_
        refine wa_goto (tgt := 68) F dX6_suspend_61 (by decide) ?_
        refine wa_iast F 0 rfl (hm_27 (S := (sU S 0 0 0))) jv rfl (by omega) (by decide) dX6_suspend_68 (hu_27 jv (S 27 jv)) ?_
        refine wa_iload_n F dX6_suspend_69 (i := 3) rfl 0 rfl ?_
        refine wa_iret F rfl (Nat.le_of_ble_eq_true rfl) (Nat.le_of_ble_eq_true rfl) dX6_suspend_70 ?_
        have ek : kSu S (nI jv) = 0 := by simp [kSu, c6, c29, c44, ev]
        refine ⟨?_, rfl, ?_⟩
        · rw [ek, mR_0]
          refine congrArg (fun z => some (Value.int z)) ?_
          unfold rSu; rw [ev]; simp [bI, c29]
        · rw [ek, mS_0]
          unfold uSu; rw [ev]; rw [show (if q = true then (if (sU S 0 0 0) 27 jv = -1 then (sU S 0 0 0) 1 0 else (sU S 0 0 0) 27 jv) else -1) = (S 27 jv) from by rw [show (sU S 0 0 0) 27 = S 27 from rfl, show (sU S 0 0 0) 1 = S 1 from rfl]; simp [c29, c44]]
      · skip
        replace c44 : q = false := bI_f c44
        refine wa_iconst (v := (-1)) F dX6_suspend_47 (by decide) ?_
        refine wa_goto (tgt := 68) F dX6_suspend_48 (by decide) ?_
        refine wa_iast F 0 rfl (hm_27 (S := (sU S 0 0 0))) jv rfl (by omega) (by decide) dX6_suspend_68 (hu_27 jv (-1)) ?_
        refine wa_iload_n F dX6_suspend_69 (i := 3) rfl 0 rfl ?_
        refine wa_iret F rfl (Nat.le_of_ble_eq_true rfl) (Nat.le_of_ble_eq_true rfl) dX6_suspend_70 ?_
        have ek : kSu S (nI jv) = 0 := by simp [kSu, c6, c29, c44, ev]
        refine ⟨?_, rfl, ?_⟩
        · rw [ek, mR_0]
          refine congrArg (fun z => some (Value.int z)) ?_
          unfold rSu; rw [ev]; simp [bI, c29]
        · rw [ek, mS_0]
          unfold uSu; rw [ev]; rw [show (if q = true then (if (sU S 0 0 0) 27 jv = -1 then (sU S 0 0 0) 1 0 else (sU S 0 0 0) 27 jv) else -1) = (-1) from by rw [show (sU S 0 0 0) 27 = S 27 from rfl, show (sU S 0 0 0) 1 = S 1 from rfl]; simp [c29, c44]]
set_option maxHeartbeats 2000000 in
set_option maxRecDepth 20000 in
theorem c_X6_certify {l : Launch} (hst : l.stackTraces = false) (D : va_G) (TC : Nat → ClassId) (H0 : Heap) (ad : Nat → Nat) (X S : St) (o : Nat → Int64) (b : Int32) (v : Int32) (d : Int32) (n : Nat) (hi : INV n S) : CC l D (tysOf TC) H0 yX6_certify cX6_certify 7 (some .int) 6 0 0 [.ref 2, .int b, .int v, .int d] ad (hall TC X S o) (PR ad (some (.int (mR (kCe S b v d) (rCe S d)))) (hall TC X (mS (kCe S b v d) (S) (uCe b v d)) o)) (fun _ => False) := by
  refine cc_intro hst (by decide +kernel) (Nat.le_of_ble_eq_true rfl) ?_
  intro p e s m args below meth c F
  rw [show lv_args 0 [.ref 2, .int b, .int v, .int d] = [(0, .ref 2), (1, .int b), (2, .int v), (3, .int d)] from rfl]
  obtain ⟨hc, hs, hp, hd0, hm, h7, h8, hbo0, hu0, hvr⟩ := id hi
  have hc2 := hc.2; have hs2 := hs.2; have hp2 := hp.2; have hd := hd0.2; have hm2 := hm.2
  refine wa_aload_n F dX6_certify_0 (i := 0) rfl 0 rfl ?_
  refine wa_iload_n F dX6_certify_1 (i := 1) rfl 1 rfl ?_
  refine wa_callV F [] (c_X6_isBody hst D TC H0 ad X S o b) mw_X6_isBody ml_X6_189 hm_m rfl rfl (Nat.le_of_ble_eq_true rfl) ⟨Nat.le_of_ble_eq_true rfl, Nat.le_of_ble_eq_true rfl⟩ ⟨Nat.le_of_ble_eq_true rfl, Nat.le_of_ble_eq_true rfl⟩ dX6_certify_2 PR_ag (fun _ z => z.elim) ?_
  rintro _ _ _ ⟨rfl, rfl, rfl⟩
  refine wa_if_eq (tgt := 20) F dX6_certify_5 (by decide) (fun c5 => ?_) (fun c5 => ?_)
  · skip
    replace c5 : (sIn b 0 (S 25 0 - 1)) = false := bI_f c5
    refine wa_iconst (v := 0) F dX6_certify_20 (by decide) ?_
    refine wa_istore (lv' := [(4, .int 0), (0, .ref 2), (1, .int b), (2, .int v), (3, .int d)]) F dX6_certify_21 (by decide) rfl ?_
    refine wa_iload_n F dX6_certify_23 (i := 3) rfl 4 rfl ?_
    refine wa_iconst (v := 1) F dX6_certify_24 (by decide) ?_
    refine wa_sipush (v := 1000) F dX6_certify_25 (by decide) ?_
    refine wa_callS F [] (c_X6_in hst D (tysOf TC) H0 ad (hall TC X S o) d 1 1000) mw_X6_in ml_X6_111 rfl (Nat.le_of_ble_eq_true rfl) ⟨Nat.le_of_ble_eq_true rfl, Nat.le_of_ble_eq_true rfl⟩ ⟨Nat.le_of_ble_eq_true rfl, Nat.le_of_ble_eq_true rfl⟩ dX6_certify_28 PR_ag (fun _ z => z.elim) ?_
    rintro _ _ _ ⟨rfl, rfl, rfl⟩
    refine wa_istore (lv' := [(5, .int (bI (sIn d 1 1000))), (4, .int 0), (0, .ref 2), (1, .int b), (2, .int v), (3, .int d)]) F dX6_certify_31 (by decide) rfl ?_
    refine wa_iload F dX6_certify_33 1 rfl ?_
    refine wa_if_eq (tgt := 79) F dX6_certify_35 (by decide) (fun _ => ?_) (fun z => absurd (by decide) z)
    refine wa_iconst (v := 0) F dX6_certify_79 (by decide) ?_
    refine wa_istore (lv' := [(6, .int 0), (5, .int (bI (sIn d 1 1000))), (4, .int 0), (0, .ref 2), (1, .int b), (2, .int v), (3, .int d)]) F dX6_certify_80 (by decide) rfl ?_
    refine wa_aload_n F dX6_certify_82 (i := 0) rfl 3 rfl ?_
    refine wa_iload F dX6_certify_83 2 rfl ?_
    refine wa_if_ne (tgt := 92) F dX6_certify_85 (by decide) (fun z => absurd (by decide) z) (fun _ => ?_)
    refine wa_iconst (v := 1) F dX6_certify_88 (by decide) ?_
    refine wa_goto (tgt := 111) F dX6_certify_89 (by decide) ?_
    refine wa_callV F [] (c_X6_refused hst D TC H0 ad X S o 1) mw_X6_refused ml_X6_127 hm_m rfl rfl (Nat.le_of_ble_eq_true rfl) ⟨Nat.le_of_ble_eq_true rfl, Nat.le_of_ble_eq_true rfl⟩ ⟨Nat.le_of_ble_eq_true rfl, Nat.le_of_ble_eq_true rfl⟩ dX6_certify_111 PR_ag (fun _ z => z.elim) ?_
    rintro _ _ _ ⟨rfl, rfl, rfl⟩
    rw [show (bI (decide (¬ (1 : Int32) = 0))) = 1 from rfl]
    refine wa_if_eq (tgt := 119) F dX6_certify_114 (by decide) (fun z => absurd z (by decide)) (fun _ => ?_)
    refine wa_iconst (v := 0) F dX6_certify_117 (by decide) ?_
    refine wa_iret F rfl (Nat.le_of_ble_eq_true rfl) (Nat.le_of_ble_eq_true rfl) dX6_certify_118 ?_
    have ek : kCe S b v d = 1 := by simp [kCe, c5]
    exact ⟨by rw [ek, mR_n (by decide)], rfl, by rw [ek, mS_n (by decide)]⟩
  · skip
    replace c5 : (sIn b 0 (S 25 0 - 1)) = true := bI_t c5
    obtain ⟨jb, lb, rfl⟩ := sIn_nat hd0.1 (by omega) c5
    have eb : tn (nI jb) = jb := tn_nI (by omega)
    refine wa_aload_n F dX6_certify_8 (i := 0) rfl 0 rfl ?_
    refine wa_iload_n F dX6_certify_9 (i := 2) rfl 2 rfl ?_
    refine wa_callV F [] (c_X6_isProduct hst D TC H0 ad X S o v) mw_X6_isProduct ml_X6_145 hm_m rfl rfl (Nat.le_of_ble_eq_true rfl) ⟨Nat.le_of_ble_eq_true rfl, Nat.le_of_ble_eq_true rfl⟩ ⟨Nat.le_of_ble_eq_true rfl, Nat.le_of_ble_eq_true rfl⟩ dX6_certify_10 PR_ag (fun _ z => z.elim) ?_
    rintro _ _ _ ⟨rfl, rfl, rfl⟩
    refine wa_if_eq (tgt := 20) F dX6_certify_13 (by decide) (fun c13 => ?_) (fun c13 => ?_)
    · skip
      replace c13 : (sIn v 0 (S 13 0 - 1)) = false := bI_f c13
      refine wa_iconst (v := 0) F dX6_certify_20 (by decide) ?_
      refine wa_istore (lv' := [(4, .int 0), (0, .ref 2), (1, .int (nI jb)), (2, .int v), (3, .int d)]) F dX6_certify_21 (by decide) rfl ?_
      refine wa_iload_n F dX6_certify_23 (i := 3) rfl 4 rfl ?_
      refine wa_iconst (v := 1) F dX6_certify_24 (by decide) ?_
      refine wa_sipush (v := 1000) F dX6_certify_25 (by decide) ?_
      refine wa_callS F [] (c_X6_in hst D (tysOf TC) H0 ad (hall TC X S o) d 1 1000) mw_X6_in ml_X6_111 rfl (Nat.le_of_ble_eq_true rfl) ⟨Nat.le_of_ble_eq_true rfl, Nat.le_of_ble_eq_true rfl⟩ ⟨Nat.le_of_ble_eq_true rfl, Nat.le_of_ble_eq_true rfl⟩ dX6_certify_28 PR_ag (fun _ z => z.elim) ?_
      rintro _ _ _ ⟨rfl, rfl, rfl⟩
      refine wa_istore (lv' := [(5, .int (bI (sIn d 1 1000))), (4, .int 0), (0, .ref 2), (1, .int (nI jb)), (2, .int v), (3, .int d)]) F dX6_certify_31 (by decide) rfl ?_
      refine wa_iload F dX6_certify_33 1 rfl ?_
      refine wa_if_eq (tgt := 79) F dX6_certify_35 (by decide) (fun _ => ?_) (fun z => absurd (by decide) z)
      refine wa_iconst (v := 0) F dX6_certify_79 (by decide) ?_
      refine wa_istore (lv' := [(6, .int 0), (5, .int (bI (sIn d 1 1000))), (4, .int 0), (0, .ref 2), (1, .int (nI jb)), (2, .int v), (3, .int d)]) F dX6_certify_80 (by decide) rfl ?_
      refine wa_aload_n F dX6_certify_82 (i := 0) rfl 3 rfl ?_
      refine wa_iload F dX6_certify_83 2 rfl ?_
      refine wa_if_ne (tgt := 92) F dX6_certify_85 (by decide) (fun z => absurd (by decide) z) (fun _ => ?_)
      refine wa_iconst (v := 1) F dX6_certify_88 (by decide) ?_
      refine wa_goto (tgt := 111) F dX6_certify_89 (by decide) ?_
      refine wa_callV F [] (c_X6_refused hst D TC H0 ad X S o 1) mw_X6_refused ml_X6_127 hm_m rfl rfl (Nat.le_of_ble_eq_true rfl) ⟨Nat.le_of_ble_eq_true rfl, Nat.le_of_ble_eq_true rfl⟩ ⟨Nat.le_of_ble_eq_true rfl, Nat.le_of_ble_eq_true rfl⟩ dX6_certify_111 PR_ag (fun _ z => z.elim) ?_
      rintro _ _ _ ⟨rfl, rfl, rfl⟩
      rw [show (bI (decide (¬ (1 : Int32) = 0))) = 1 from rfl]
      refine wa_if_eq (tgt := 119) F dX6_certify_114 (by decide) (fun z => absurd z (by decide)) (fun _ => ?_)
      refine wa_iconst (v := 0) F dX6_certify_117 (by decide) ?_
      refine wa_iret F rfl (Nat.le_of_ble_eq_true rfl) (Nat.le_of_ble_eq_true rfl) dX6_certify_118 ?_
      have ek : kCe S (nI jb) v d = 1 := by simp [kCe, c5, c13, eb]
      exact ⟨by rw [ek, mR_n (by decide)], rfl, by rw [ek, mS_n (by decide)]⟩
    · skip
      replace c13 : (sIn v 0 (S 13 0 - 1)) = true := bI_t c13
      obtain ⟨jv, lv, rfl⟩ := sIn_nat hp.1 (by omega) c13
      have ev : tn (nI jv) = jv := tn_nI (by omega)
      have hbo := hbo0 jv lv
      refine wa_iconst (v := 1) F dX6_certify_16 (by decide) ?_
      refine wa_goto (tgt := 21) F dX6_certify_17 (by decide) ?_
      refine wa_istore (lv' := [(4, .int 1), (0, .ref 2), (1, .int (nI jb)), (2, .int (nI jv)), (3, .int d)]) F dX6_certify_21 (by decide) rfl ?_
      refine wa_iload_n F dX6_certify_23 (i := 3) rfl 4 rfl ?_
      refine wa_iconst (v := 1) F dX6_certify_24 (by decide) ?_
      refine wa_sipush (v := 1000) F dX6_certify_25 (by decide) ?_
      refine wa_callS F [] (c_X6_in hst D (tysOf TC) H0 ad (hall TC X S o) d 1 1000) mw_X6_in ml_X6_111 rfl (Nat.le_of_ble_eq_true rfl) ⟨Nat.le_of_ble_eq_true rfl, Nat.le_of_ble_eq_true rfl⟩ ⟨Nat.le_of_ble_eq_true rfl, Nat.le_of_ble_eq_true rfl⟩ dX6_certify_28 PR_ag (fun _ z => z.elim) ?_
      rintro _ _ _ ⟨rfl, rfl, rfl⟩
      refine wa_istore (lv' := [(5, .int (bI (sIn d 1 1000))), (4, .int 1), (0, .ref 2), (1, .int (nI jb)), (2, .int (nI jv)), (3, .int d)]) F dX6_certify_31 (by decide) rfl ?_
      refine wa_iload F dX6_certify_33 1 rfl ?_
      refine wa_if_eq (tgt := 79) F dX6_certify_35 (by decide) (fun z => absurd z (by decide)) (fun _ => ?_)
      refine wa_iload F dX6_certify_38 0 rfl ?_
      refine wa_if_eq (tgt := 79) F dX6_certify_40 (by decide) (fun c40 => ?_) (fun c40 => ?_)
      · skip
        replace c40 : (sIn d 1 1000) = false := bI_f c40
        refine wa_iconst (v := 0) F dX6_certify_79 (by decide) ?_
        refine wa_istore (lv' := [(6, .int 0), (5, .int (bI (sIn d 1 1000))), (4, .int 1), (0, .ref 2), (1, .int (nI jb)), (2, .int (nI jv)), (3, .int d)]) F dX6_certify_80 (by decide) rfl ?_
        refine wa_aload_n F dX6_certify_82 (i := 0) rfl 3 rfl ?_
        refine wa_iload F dX6_certify_83 2 rfl ?_
        refine wa_if_ne (tgt := 92) F dX6_certify_85 (by decide) (fun _ => ?_) (fun z => absurd z (by decide))
        refine wa_iload F dX6_certify_92 1 rfl ?_
        refine wa_if_ne (tgt := 101) F dX6_certify_94 (by decide) (fun z => by rw [c40] at z; exact absurd rfl z) (fun _ => ?_)
        refine wa_iconst (v := 2) F dX6_certify_97 (by decide) ?_
        refine wa_goto (tgt := 111) F dX6_certify_98 (by decide) ?_
        refine wa_callV F [] (c_X6_refused hst D TC H0 ad X S o 2) mw_X6_refused ml_X6_127 hm_m rfl rfl (Nat.le_of_ble_eq_true rfl) ⟨Nat.le_of_ble_eq_true rfl, Nat.le_of_ble_eq_true rfl⟩ ⟨Nat.le_of_ble_eq_true rfl, Nat.le_of_ble_eq_true rfl⟩ dX6_certify_111 PR_ag (fun _ z => z.elim) ?_
        rintro _ _ _ ⟨rfl, rfl, rfl⟩
        rw [show (bI (decide (¬ (2 : Int32) = 0))) = 1 from rfl]
        refine wa_if_eq (tgt := 119) F dX6_certify_114 (by decide) (fun z => absurd z (by decide)) (fun _ => ?_)
        refine wa_iconst (v := 0) F dX6_certify_117 (by decide) ?_
        refine wa_iret F rfl (Nat.le_of_ble_eq_true rfl) (Nat.le_of_ble_eq_true rfl) dX6_certify_118 ?_
        have ek : kCe S (nI jb) (nI jv) d = 2 := by simp [kCe, c5, c13, c40, eb, ev]
        exact ⟨by rw [ek, mR_n (by decide)], rfl, by rw [ek, mS_n (by decide)]⟩
      · skip
        replace c40 : (sIn d 1 1000) = true := bI_t c40
        refine wa_aload_n F dX6_certify_43 (i := 0) rfl 2 rfl ?_
        refine wa_getf (v := .ref 127) F LY_X6 (hm_m (S := S)) 27 (by decide) fl_X6_74 rfl dX6_certify_44 ?_
        refine wa_iload_n F dX6_certify_47 (i := 1) rfl 3 rfl ?_
        refine wa_iald (f := S 27) F 0 rfl (hm_27 (S := S)) jb rfl (by omega) (by decide) dX6_certify_48 ?_
        refine wa_iconst (v := (-1)) F dX6_certify_49 (by decide) ?_
        refine wa_icmp_ne (tgt := 79) F dX6_certify_50 (by decide) (fun c50 => ?_) (fun c50 => ?_)
        · skip
          refine wa_iconst (v := 0) F dX6_certify_79 (by decide) ?_
          refine wa_istore (lv' := [(6, .int 0), (5, .int (bI (sIn d 1 1000))), (4, .int 1), (0, .ref 2), (1, .int (nI jb)), (2, .int (nI jv)), (3, .int d)]) F dX6_certify_80 (by decide) rfl ?_
          refine wa_aload_n F dX6_certify_82 (i := 0) rfl 3 rfl ?_
          refine wa_iload F dX6_certify_83 2 rfl ?_
          refine wa_if_ne (tgt := 92) F dX6_certify_85 (by decide) (fun _ => ?_) (fun z => absurd z (by decide))
          refine wa_iload F dX6_certify_92 1 rfl ?_
          refine wa_if_ne (tgt := 101) F dX6_certify_94 (by decide) (fun _ => ?_) (fun z => by rw [c40] at z; exact absurd z (by decide))
          refine wa_iload F dX6_certify_101 0 rfl ?_
          refine wa_if_eq (tgt := 110) F dX6_certify_103 (by decide) (fun _ => ?_) (fun z => absurd (by decide) z)
          refine wa_iconst (v := 3) F dX6_certify_110 (by decide) ?_
          refine wa_callV F [] (c_X6_refused hst D TC H0 ad X S o 3) mw_X6_refused ml_X6_127 hm_m rfl rfl (Nat.le_of_ble_eq_true rfl) ⟨Nat.le_of_ble_eq_true rfl, Nat.le_of_ble_eq_true rfl⟩ ⟨Nat.le_of_ble_eq_true rfl, Nat.le_of_ble_eq_true rfl⟩ dX6_certify_111 PR_ag (fun _ z => z.elim) ?_
          rintro _ _ _ ⟨rfl, rfl, rfl⟩
          rw [show (bI (decide (¬ (3 : Int32) = 0))) = 1 from rfl]
          refine wa_if_eq (tgt := 119) F dX6_certify_114 (by decide) (fun z => absurd z (by decide)) (fun _ => ?_)
          refine wa_iconst (v := 0) F dX6_certify_117 (by decide) ?_
          refine wa_iret F rfl (Nat.le_of_ble_eq_true rfl) (Nat.le_of_ble_eq_true rfl) dX6_certify_118 ?_
          have ek : kCe S (nI jb) (nI jv) d = 3 := by simp [kCe, c5, c13, c40, c50, eb, ev]
          exact ⟨by rw [ek, mR_n (by decide)], rfl, by rw [ek, mS_n (by decide)]⟩
        · skip
          refine wa_aload_n F dX6_certify_53 (i := 0) rfl 2 rfl ?_
          refine wa_iload_n F dX6_certify_54 (i := 1) rfl 3 rfl ?_
          refine wa_iload_n F dX6_certify_55 (i := 2) rfl 4 rfl ?_
          refine wa_callV F [] (c_X6_hasScope hst D TC H0 ad X S o (nI jb) jb jv rfl (by omega) (by omega) hc) mw_X6_hasScope ml_X6_171 hm_m rfl rfl (Nat.le_of_ble_eq_true rfl) ⟨Nat.le_of_ble_eq_true rfl, Nat.le_of_ble_eq_true rfl⟩ ⟨Nat.le_of_ble_eq_true rfl, Nat.le_of_ble_eq_true rfl⟩ dX6_certify_56 PR_ag (fun _ z => z.elim) ?_
          rintro _ _ _ ⟨rfl, rfl, rfl⟩
          refine wa_if_eq (tgt := 79) F dX6_certify_59 (by decide) (fun c59 => ?_) (fun c59 => ?_)
          · skip
            replace c59 : (sScope S jb jv) = false := bI_f c59
            refine wa_iconst (v := 0) F dX6_certify_79 (by decide) ?_
            refine wa_istore (lv' := [(6, .int 0), (5, .int (bI (sIn d 1 1000))), (4, .int 1), (0, .ref 2), (1, .int (nI jb)), (2, .int (nI jv)), (3, .int d)]) F dX6_certify_80 (by decide) rfl ?_
            refine wa_aload_n F dX6_certify_82 (i := 0) rfl 3 rfl ?_
            refine wa_iload F dX6_certify_83 2 rfl ?_
            refine wa_if_ne (tgt := 92) F dX6_certify_85 (by decide) (fun _ => ?_) (fun z => absurd z (by decide))
            refine wa_iload F dX6_certify_92 1 rfl ?_
            refine wa_if_ne (tgt := 101) F dX6_certify_94 (by decide) (fun _ => ?_) (fun z => by rw [c40] at z; exact absurd z (by decide))
            refine wa_iload F dX6_certify_101 0 rfl ?_
            refine wa_if_eq (tgt := 110) F dX6_certify_103 (by decide) (fun _ => ?_) (fun z => absurd (by decide) z)
            refine wa_iconst (v := 3) F dX6_certify_110 (by decide) ?_
            refine wa_callV F [] (c_X6_refused hst D TC H0 ad X S o 3) mw_X6_refused ml_X6_127 hm_m rfl rfl (Nat.le_of_ble_eq_true rfl) ⟨Nat.le_of_ble_eq_true rfl, Nat.le_of_ble_eq_true rfl⟩ ⟨Nat.le_of_ble_eq_true rfl, Nat.le_of_ble_eq_true rfl⟩ dX6_certify_111 PR_ag (fun _ z => z.elim) ?_
            rintro _ _ _ ⟨rfl, rfl, rfl⟩
            rw [show (bI (decide (¬ (3 : Int32) = 0))) = 1 from rfl]
            refine wa_if_eq (tgt := 119) F dX6_certify_114 (by decide) (fun z => absurd z (by decide)) (fun _ => ?_)
            refine wa_iconst (v := 0) F dX6_certify_117 (by decide) ?_
            refine wa_iret F rfl (Nat.le_of_ble_eq_true rfl) (Nat.le_of_ble_eq_true rfl) dX6_certify_118 ?_
            have ek : kCe S (nI jb) (nI jv) d = 3 := by simp [kCe, c5, c13, c40, c50, c59, eb, ev]
            exact ⟨by rw [ek, mR_n (by decide)], rfl, by rw [ek, mS_n (by decide)]⟩
          · skip
            replace c59 : (sScope S jb jv) = true := bI_t c59
            refine wa_aload_n F dX6_certify_62 (i := 0) rfl 2 rfl ?_
            refine wa_iload_n F dX6_certify_63 (i := 2) rfl 4 rfl ?_
            refine wa_callV F [] (c_X6_wantingOf hst D TC H0 ad X S o jv (by omega) hc hs hd hbo) mw_X6_wantingOf ml_X6_186 hm_m rfl rfl (Nat.le_of_ble_eq_true rfl) ⟨Nat.le_of_ble_eq_true rfl, Nat.le_of_ble_eq_true rfl⟩ ⟨Nat.le_of_ble_eq_true rfl, Nat.le_of_ble_eq_true rfl⟩ dX6_certify_64 PR_ag (fun _ z => z.elim) ?_
            rintro _ _ _ ⟨rfl, rfl, rfl⟩
            refine wa_iconst (v := 1) F dX6_certify_67 (by decide) ?_
            refine wa_iconst (v := 3) F dX6_certify_68 (by decide) ?_
            refine wa_callS F [] (c_X6_in hst D (tysOf TC) H0 ad (hall TC X S o) (sWant S jv) 1 3) mw_X6_in ml_X6_111 rfl (Nat.le_of_ble_eq_true rfl) ⟨Nat.le_of_ble_eq_true rfl, Nat.le_of_ble_eq_true rfl⟩ ⟨Nat.le_of_ble_eq_true rfl, Nat.le_of_ble_eq_true rfl⟩ dX6_certify_69 PR_ag (fun _ z => z.elim) ?_
            rintro _ _ _ ⟨rfl, rfl, rfl⟩
            refine wa_if_ne (tgt := 79) F dX6_certify_72 (by decide) (fun c72 => ?_) (fun c72 => ?_)
            · skip
              replace c72 : (sIn (sWant S jv) 1 3) = true := bI_t c72
              refine wa_iconst (v := 0) F dX6_certify_79 (by decide) ?_
              refine wa_istore (lv' := [(6, .int 0), (5, .int (bI (sIn d 1 1000))), (4, .int 1), (0, .ref 2), (1, .int (nI jb)), (2, .int (nI jv)), (3, .int d)]) F dX6_certify_80 (by decide) rfl ?_
              refine wa_aload_n F dX6_certify_82 (i := 0) rfl 3 rfl ?_
              refine wa_iload F dX6_certify_83 2 rfl ?_
              refine wa_if_ne (tgt := 92) F dX6_certify_85 (by decide) (fun _ => ?_) (fun z => absurd z (by decide))
              refine wa_iload F dX6_certify_92 1 rfl ?_
              refine wa_if_ne (tgt := 101) F dX6_certify_94 (by decide) (fun _ => ?_) (fun z => by rw [c40] at z; exact absurd z (by decide))
              refine wa_iload F dX6_certify_101 0 rfl ?_
              refine wa_if_eq (tgt := 110) F dX6_certify_103 (by decide) (fun _ => ?_) (fun z => absurd (by decide) z)
              refine wa_iconst (v := 3) F dX6_certify_110 (by decide) ?_
              refine wa_callV F [] (c_X6_refused hst D TC H0 ad X S o 3) mw_X6_refused ml_X6_127 hm_m rfl rfl (Nat.le_of_ble_eq_true rfl) ⟨Nat.le_of_ble_eq_true rfl, Nat.le_of_ble_eq_true rfl⟩ ⟨Nat.le_of_ble_eq_true rfl, Nat.le_of_ble_eq_true rfl⟩ dX6_certify_111 PR_ag (fun _ z => z.elim) ?_
              rintro _ _ _ ⟨rfl, rfl, rfl⟩
              rw [show (bI (decide (¬ (3 : Int32) = 0))) = 1 from rfl]
              refine wa_if_eq (tgt := 119) F dX6_certify_114 (by decide) (fun z => absurd z (by decide)) (fun _ => ?_)
              refine wa_iconst (v := 0) F dX6_certify_117 (by decide) ?_
              refine wa_iret F rfl (Nat.le_of_ble_eq_true rfl) (Nat.le_of_ble_eq_true rfl) dX6_certify_118 ?_
              have ek : kCe S (nI jb) (nI jv) d = 3 := by simp [kCe, c5, c13, c40, c50, c59, c72, eb, ev]
              exact ⟨by rw [ek, mR_n (by decide)], rfl, by rw [ek, mS_n (by decide)]⟩
            · skip
              replace c72 : (sIn (sWant S jv) 1 3) = false := bI_f c72
              refine wa_iconst (v := 1) F dX6_certify_75 (by decide) ?_
              refine wa_goto (tgt := 80) F dX6_certify_76 (by decide) ?_
              refine wa_istore (lv' := [(6, .int 1), (5, .int (bI (sIn d 1 1000))), (4, .int 1), (0, .ref 2), (1, .int (nI jb)), (2, .int (nI jv)), (3, .int d)]) F dX6_certify_80 (by decide) rfl ?_
              refine wa_aload_n F dX6_certify_82 (i := 0) rfl 3 rfl ?_
              refine wa_iload F dX6_certify_83 2 rfl ?_
              refine wa_if_ne (tgt := 92) F dX6_certify_85 (by decide) (fun _ => ?_) (fun z => absurd z (by decide))
              refine wa_iload F dX6_certify_92 1 rfl ?_
              refine wa_if_ne (tgt := 101) F dX6_certify_94 (by decide) (fun _ => ?_) (fun z => by rw [c40] at z; exact absurd z (by decide))
              refine wa_iload F dX6_certify_101 0 rfl ?_
              refine wa_if_eq (tgt := 110) F dX6_certify_103 (by decide) (fun z => absurd z (by decide)) (fun _ => ?_)
              refine wa_iconst (v := 0) F dX6_certify_106 (by decide) ?_
              refine wa_goto (tgt := 111) F dX6_certify_107 (by decide) ?_
              refine wa_callV F [] (c_X6_refused hst D TC H0 ad X S o 0) mw_X6_refused ml_X6_127 hm_m rfl rfl (Nat.le_of_ble_eq_true rfl) ⟨Nat.le_of_ble_eq_true rfl, Nat.le_of_ble_eq_true rfl⟩ ⟨Nat.le_of_ble_eq_true rfl, Nat.le_of_ble_eq_true rfl⟩ dX6_certify_111 PR_ag (fun _ z => z.elim) ?_
              rintro _ _ _ ⟨rfl, rfl, rfl⟩
              rw [show (bI (decide (¬ (0 : Int32) = 0))) = 0 from rfl]
              refine wa_if_eq (tgt := 119) F dX6_certify_114 (by decide) (fun _ => ?_) (fun z => absurd (by decide) z)
              refine wa_aload_n F dX6_certify_119 (i := 0) rfl 3 rfl ?_
              refine wa_getf (v := .ref 120) F LY_X6 (hm_m (S := (sU S 0 0 0))) 20 (by decide) fl_X6_56 rfl dX6_certify_120 ?_
              refine wa_iload_n F dX6_certify_123 (i := 2) rfl 5 rfl ?_
              refine wa_iload_n F dX6_certify_124 (i := 1) rfl 4 rfl ?_
              refine wa_iast F 0 rfl (hm_20 (S := (sU S 0 0 0))) jv rfl (by omega) (by decide) dX6_certify_125 (hu_20 jv (nI jb)) ?_
              refine wa_aload_n F dX6_certify_126 (i := 0) rfl 3 rfl ?_
              refine wa_getf (v := .ref 121) F LY_X6 (hm_m (S := (sU (sU S 0 0 0) 20 jv (nI jb)))) 21 (by decide) fl_X6_59 rfl dX6_certify_127 ?_
              refine wa_iload_n F dX6_certify_130 (i := 2) rfl 5 rfl ?_
              refine wa_aload_n F dX6_certify_131 (i := 0) rfl 3 rfl ?_
              refine wa_getf (v := .int (S 1 0)) F LY_X6 (hm_m (S := (sU (sU S 0 0 0) 20 jv (nI jb)))) 1 (by decide) fl_X6_142 rfl dX6_certify_132 ?_
              refine wa_iload_n F dX6_certify_135 (i := 3) rfl 6 rfl ?_
              refine wa_iadd F dX6_certify_136 ?_
              refine wa_iast F 0 rfl (hm_21 (S := (sU (sU S 0 0 0) 20 jv (nI jb)))) jv rfl (by omega) (by decide) dX6_certify_137 (hu_21 jv ((S 1 0) + d)) ?_
              refine wa_aload_n F dX6_certify_138 (i := 0) rfl 3 rfl ?_
              refine wa_getf (v := .ref 121) F LY_X6 (hm_m (S := (sU (sU (sU S 0 0 0) 20 jv (nI jb)) 21 jv ((S 1 0) + d)))) 21 (by decide) fl_X6_59 rfl dX6_certify_139 ?_
              refine wa_iload_n F dX6_certify_142 (i := 2) rfl 5 rfl ?_
              refine wa_iald (f := (sU (sU (sU S 0 0 0) 20 jv (nI jb)) 21 jv ((S 1 0) + d)) 21) F 0 rfl (hm_21 (S := (sU (sU (sU S 0 0 0) 20 jv (nI jb)) 21 jv ((S 1 0) + d)))) jv rfl (by omega) (by decide) dX6_certify_143 ?_
              refine wa_iret F rfl (Nat.le_of_ble_eq_true rfl) (Nat.le_of_ble_eq_true rfl) dX6_certify_144 ?_
              have ek : kCe S (nI jb) (nI jv) d = 0 := by simp [kCe, c5, c13, c40, c50, c59, c72, eb, ev]
              refine ⟨?_, rfl, ?_⟩
              · rw [ek, mR_0]
                refine congrArg (fun z => some (Value.int z)) ?_
                unfold rCe; simp [sU, upd]
              · rw [ek, mS_0]
                unfold uCe; rw [ev]; rfl
set_option maxHeartbeats 2000000 in
set_option maxRecDepth 20000 in
theorem c_X6_transfer {l : Launch} (hst : l.stackTraces = false) (D : va_G) (TC : Nat → ClassId) (H0 : Heap) (ad : Nat → Nat) (X S : St) (o : Nat → Int64) (v : Int32) (b : Int32) (n : Nat) (hi : INV n S) : CC l D (tysOf TC) H0 yX6_transfer cX6_transfer 6 (some .int) 6 0 0 [.ref 2, .int v, .int b] ad (hall TC X S o) (PR ad (some (.int (mR (kTr S v b) (rTr S v)))) (hall TC X (mS (kTr S v b) (S) (uTr v b)) o)) (fun _ => False) := by
  refine cc_intro hst (by decide +kernel) (Nat.le_of_ble_eq_true rfl) ?_
  intro p e s m args below meth c F
  rw [show lv_args 0 [.ref 2, .int v, .int b] = [(0, .ref 2), (1, .int v), (2, .int b)] from rfl]
  obtain ⟨hc, hs, hp, hd0, hm, h7, h8, hbo0, hu0, hvr⟩ := id hi
  have hc2 := hc.2; have hs2 := hs.2; have hp2 := hp.2; have hd := hd0.2; have hm2 := hm.2
  refine wa_aload_n F dX6_transfer_0 (i := 0) rfl 0 rfl ?_
  refine wa_iload_n F dX6_transfer_1 (i := 1) rfl 1 rfl ?_
  refine wa_callV F [] (c_X6_isProduct hst D TC H0 ad X S o v) mw_X6_isProduct ml_X6_145 hm_m rfl rfl (Nat.le_of_ble_eq_true rfl) ⟨Nat.le_of_ble_eq_true rfl, Nat.le_of_ble_eq_true rfl⟩ ⟨Nat.le_of_ble_eq_true rfl, Nat.le_of_ble_eq_true rfl⟩ dX6_transfer_2 PR_ag (fun _ z => z.elim) ?_
  rintro _ _ _ ⟨rfl, rfl, rfl⟩
  refine wa_if_eq (tgt := 20) F dX6_transfer_5 (by decide) (fun c5 => ?_) (fun c5 => ?_)
  · skip
    replace c5 : (sIn v 0 (S 13 0 - 1)) = false := bI_f c5
    refine wa_iconst (v := 0) F dX6_transfer_20 (by decide) ?_
    refine wa_istore_n (lv' := [(3, .int 0), (0, .ref 2), (1, .int v), (2, .int b)]) F dX6_transfer_21 (i := 3) rfl (by decide) rfl ?_
    refine wa_iload_n F dX6_transfer_22 (i := 3) rfl 0 rfl ?_
    refine wa_if_eq (tgt := 69) F dX6_transfer_23 (by decide) (fun _ => ?_) (fun z => absurd (by decide) z)
    refine wa_iconst (v := 0) F dX6_transfer_69 (by decide) ?_
    refine wa_istore (lv' := [(4, .int 0), (3, .int 0), (0, .ref 2), (1, .int v), (2, .int b)]) F dX6_transfer_70 (by decide) rfl ?_
    refine wa_aload_n F dX6_transfer_72 (i := 0) rfl 2 rfl ?_
    refine wa_iload_n F dX6_transfer_73 (i := 3) rfl 1 rfl ?_
    refine wa_if_ne (tgt := 81) F dX6_transfer_74 (by decide) (fun z => absurd (by decide) z) (fun _ => ?_)
    refine wa_iconst (v := 1) F dX6_transfer_77 (by decide) ?_
    refine wa_goto (tgt := 91) F dX6_transfer_78 (by decide) ?_
    refine wa_callV F [] (c_X6_refused hst D TC H0 ad X S o 1) mw_X6_refused ml_X6_127 hm_m rfl rfl (Nat.le_of_ble_eq_true rfl) ⟨Nat.le_of_ble_eq_true rfl, Nat.le_of_ble_eq_true rfl⟩ ⟨Nat.le_of_ble_eq_true rfl, Nat.le_of_ble_eq_true rfl⟩ dX6_transfer_91 PR_ag (fun _ z => z.elim) ?_
    rintro _ _ _ ⟨rfl, rfl, rfl⟩
    rw [show (bI (decide (¬ (1 : Int32) = 0))) = 1 from rfl]
    refine wa_if_eq (tgt := 99) F dX6_transfer_94 (by decide) (fun z => absurd z (by decide)) (fun _ => ?_)
    refine wa_iconst (v := 0) F dX6_transfer_97 (by decide) ?_
    refine wa_iret F rfl (Nat.le_of_ble_eq_true rfl) (Nat.le_of_ble_eq_true rfl) dX6_transfer_98 ?_
    have ek : kTr S v b = 1 := by simp [kTr, c5]
    exact ⟨by rw [ek, mR_n (by decide)], rfl, by rw [ek, mS_n (by decide)]⟩
  · skip
    replace c5 : (sIn v 0 (S 13 0 - 1)) = true := bI_t c5
    obtain ⟨jv, lv, rfl⟩ := sIn_nat hp.1 (by omega) c5
    have ev : tn (nI jv) = jv := tn_nI (by omega)
    have hbo := hbo0 jv lv
    refine wa_aload_n F dX6_transfer_8 (i := 0) rfl 0 rfl ?_
    refine wa_iload_n F dX6_transfer_9 (i := 2) rfl 2 rfl ?_
    refine wa_callV F [] (c_X6_isBody hst D TC H0 ad X S o b) mw_X6_isBody ml_X6_189 hm_m rfl rfl (Nat.le_of_ble_eq_true rfl) ⟨Nat.le_of_ble_eq_true rfl, Nat.le_of_ble_eq_true rfl⟩ ⟨Nat.le_of_ble_eq_true rfl, Nat.le_of_ble_eq_true rfl⟩ dX6_transfer_10 PR_ag (fun _ z => z.elim) ?_
    rintro _ _ _ ⟨rfl, rfl, rfl⟩
    refine wa_if_eq (tgt := 20) F dX6_transfer_13 (by decide) (fun c13 => ?_) (fun c13 => ?_)
    · skip
      replace c13 : (sIn b 0 (S 25 0 - 1)) = false := bI_f c13
      refine wa_iconst (v := 0) F dX6_transfer_20 (by decide) ?_
      refine wa_istore_n (lv' := [(3, .int 0), (0, .ref 2), (1, .int (nI jv)), (2, .int b)]) F dX6_transfer_21 (i := 3) rfl (by decide) rfl ?_
      refine wa_iload_n F dX6_transfer_22 (i := 3) rfl 0 rfl ?_
      refine wa_if_eq (tgt := 69) F dX6_transfer_23 (by decide) (fun _ => ?_) (fun z => absurd (by decide) z)
      refine wa_iconst (v := 0) F dX6_transfer_69 (by decide) ?_
      refine wa_istore (lv' := [(4, .int 0), (3, .int 0), (0, .ref 2), (1, .int (nI jv)), (2, .int b)]) F dX6_transfer_70 (by decide) rfl ?_
      refine wa_aload_n F dX6_transfer_72 (i := 0) rfl 2 rfl ?_
      refine wa_iload_n F dX6_transfer_73 (i := 3) rfl 1 rfl ?_
      refine wa_if_ne (tgt := 81) F dX6_transfer_74 (by decide) (fun z => absurd (by decide) z) (fun _ => ?_)
      refine wa_iconst (v := 1) F dX6_transfer_77 (by decide) ?_
      refine wa_goto (tgt := 91) F dX6_transfer_78 (by decide) ?_
      refine wa_callV F [] (c_X6_refused hst D TC H0 ad X S o 1) mw_X6_refused ml_X6_127 hm_m rfl rfl (Nat.le_of_ble_eq_true rfl) ⟨Nat.le_of_ble_eq_true rfl, Nat.le_of_ble_eq_true rfl⟩ ⟨Nat.le_of_ble_eq_true rfl, Nat.le_of_ble_eq_true rfl⟩ dX6_transfer_91 PR_ag (fun _ z => z.elim) ?_
      rintro _ _ _ ⟨rfl, rfl, rfl⟩
      rw [show (bI (decide (¬ (1 : Int32) = 0))) = 1 from rfl]
      refine wa_if_eq (tgt := 99) F dX6_transfer_94 (by decide) (fun z => absurd z (by decide)) (fun _ => ?_)
      refine wa_iconst (v := 0) F dX6_transfer_97 (by decide) ?_
      refine wa_iret F rfl (Nat.le_of_ble_eq_true rfl) (Nat.le_of_ble_eq_true rfl) dX6_transfer_98 ?_
      have ek : kTr S (nI jv) b = 1 := by simp [kTr, c5, c13, ev]
      exact ⟨by rw [ek, mR_n (by decide)], rfl, by rw [ek, mS_n (by decide)]⟩
    · skip
      replace c13 : (sIn b 0 (S 25 0 - 1)) = true := bI_t c13
      obtain ⟨jb, lb, rfl⟩ := sIn_nat hd0.1 (by omega) c13
      have eb : tn (nI jb) = jb := tn_nI (by omega)
      refine wa_iconst (v := 1) F dX6_transfer_16 (by decide) ?_
      refine wa_goto (tgt := 21) F dX6_transfer_17 (by decide) ?_
      refine wa_istore_n (lv' := [(3, .int 1), (0, .ref 2), (1, .int (nI jv)), (2, .int (nI jb))]) F dX6_transfer_21 (i := 3) rfl (by decide) rfl ?_
      refine wa_iload_n F dX6_transfer_22 (i := 3) rfl 0 rfl ?_
      refine wa_if_eq (tgt := 69) F dX6_transfer_23 (by decide) (fun z => absurd z (by decide)) (fun _ => ?_)
      refine wa_aload_n F dX6_transfer_26 (i := 0) rfl 1 rfl ?_
      refine wa_getf (v := .ref 120) F LY_X6 (hm_m (S := S)) 20 (by decide) fl_X6_56 rfl dX6_transfer_27 ?_
      refine wa_iload_n F dX6_transfer_30 (i := 1) rfl 2 rfl ?_
      refine wa_iald (f := S 20) F 0 rfl (hm_20 (S := S)) jv rfl (by omega) (by decide) dX6_transfer_31 ?_
      refine wa_iconst (v := (-1)) F dX6_transfer_32 (by decide) ?_
      refine wa_icmp_eq (tgt := 69) F dX6_transfer_33 (by decide) (fun c33 => ?_) (fun c33 => ?_)
      · skip
        refine wa_iconst (v := 0) F dX6_transfer_69 (by decide) ?_
        refine wa_istore (lv' := [(4, .int 0), (3, .int 1), (0, .ref 2), (1, .int (nI jv)), (2, .int (nI jb))]) F dX6_transfer_70 (by decide) rfl ?_
        refine wa_aload_n F dX6_transfer_72 (i := 0) rfl 2 rfl ?_
        refine wa_iload_n F dX6_transfer_73 (i := 3) rfl 1 rfl ?_
        refine wa_if_ne (tgt := 81) F dX6_transfer_74 (by decide) (fun _ => ?_) (fun z => absurd z (by decide))
        refine wa_iload F dX6_transfer_81 0 rfl ?_
        refine wa_if_eq (tgt := 90) F dX6_transfer_83 (by decide) (fun _ => ?_) (fun z => absurd (by decide) z)
        refine wa_iconst (v := 2) F dX6_transfer_90 (by decide) ?_
        refine wa_callV F [] (c_X6_refused hst D TC H0 ad X S o 2) mw_X6_refused ml_X6_127 hm_m rfl rfl (Nat.le_of_ble_eq_true rfl) ⟨Nat.le_of_ble_eq_true rfl, Nat.le_of_ble_eq_true rfl⟩ ⟨Nat.le_of_ble_eq_true rfl, Nat.le_of_ble_eq_true rfl⟩ dX6_transfer_91 PR_ag (fun _ z => z.elim) ?_
        rintro _ _ _ ⟨rfl, rfl, rfl⟩
        rw [show (bI (decide (¬ (2 : Int32) = 0))) = 1 from rfl]
        refine wa_if_eq (tgt := 99) F dX6_transfer_94 (by decide) (fun z => absurd z (by decide)) (fun _ => ?_)
        refine wa_iconst (v := 0) F dX6_transfer_97 (by decide) ?_
        refine wa_iret F rfl (Nat.le_of_ble_eq_true rfl) (Nat.le_of_ble_eq_true rfl) dX6_transfer_98 ?_
        have ek : kTr S (nI jv) (nI jb) = 2 := by simp [kTr, c5, c13, c33, ev, eb]
        exact ⟨by rw [ek, mR_n (by decide)], rfl, by rw [ek, mS_n (by decide)]⟩
      · skip
        refine wa_aload_n F dX6_transfer_36 (i := 0) rfl 1 rfl ?_
        refine wa_getf (v := .ref 120) F LY_X6 (hm_m (S := S)) 20 (by decide) fl_X6_56 rfl dX6_transfer_37 ?_
        refine wa_iload_n F dX6_transfer_40 (i := 1) rfl 2 rfl ?_
        refine wa_iald (f := S 20) F 0 rfl (hm_20 (S := S)) jv rfl (by omega) (by decide) dX6_transfer_41 ?_
        refine wa_iload_n F dX6_transfer_42 (i := 2) rfl 3 rfl ?_
        refine wa_icmp_eq (tgt := 69) F dX6_transfer_43 (by decide) (fun c43 => ?_) (fun c43 => ?_)
        · skip
          refine wa_iconst (v := 0) F dX6_transfer_69 (by decide) ?_
          refine wa_istore (lv' := [(4, .int 0), (3, .int 1), (0, .ref 2), (1, .int (nI jv)), (2, .int (nI jb))]) F dX6_transfer_70 (by decide) rfl ?_
          refine wa_aload_n F dX6_transfer_72 (i := 0) rfl 2 rfl ?_
          refine wa_iload_n F dX6_transfer_73 (i := 3) rfl 1 rfl ?_
          refine wa_if_ne (tgt := 81) F dX6_transfer_74 (by decide) (fun _ => ?_) (fun z => absurd z (by decide))
          refine wa_iload F dX6_transfer_81 0 rfl ?_
          refine wa_if_eq (tgt := 90) F dX6_transfer_83 (by decide) (fun _ => ?_) (fun z => absurd (by decide) z)
          refine wa_iconst (v := 2) F dX6_transfer_90 (by decide) ?_
          refine wa_callV F [] (c_X6_refused hst D TC H0 ad X S o 2) mw_X6_refused ml_X6_127 hm_m rfl rfl (Nat.le_of_ble_eq_true rfl) ⟨Nat.le_of_ble_eq_true rfl, Nat.le_of_ble_eq_true rfl⟩ ⟨Nat.le_of_ble_eq_true rfl, Nat.le_of_ble_eq_true rfl⟩ dX6_transfer_91 PR_ag (fun _ z => z.elim) ?_
          rintro _ _ _ ⟨rfl, rfl, rfl⟩
          rw [show (bI (decide (¬ (2 : Int32) = 0))) = 1 from rfl]
          refine wa_if_eq (tgt := 99) F dX6_transfer_94 (by decide) (fun z => absurd z (by decide)) (fun _ => ?_)
          refine wa_iconst (v := 0) F dX6_transfer_97 (by decide) ?_
          refine wa_iret F rfl (Nat.le_of_ble_eq_true rfl) (Nat.le_of_ble_eq_true rfl) dX6_transfer_98 ?_
          have ek : kTr S (nI jv) (nI jb) = 2 := by simp [kTr, c5, c13, c33, c43, ev, eb]
          exact ⟨by rw [ek, mR_n (by decide)], rfl, by rw [ek, mS_n (by decide)]⟩
        · skip
          refine wa_aload_n F dX6_transfer_46 (i := 0) rfl 1 rfl ?_
          refine wa_getf (v := .ref 127) F LY_X6 (hm_m (S := S)) 27 (by decide) fl_X6_74 rfl dX6_transfer_47 ?_
          refine wa_iload_n F dX6_transfer_50 (i := 2) rfl 3 rfl ?_
          refine wa_iald (f := S 27) F 0 rfl (hm_27 (S := S)) jb rfl (by omega) (by decide) dX6_transfer_51 ?_
          refine wa_iconst (v := (-1)) F dX6_transfer_52 (by decide) ?_
          refine wa_icmp_ne (tgt := 69) F dX6_transfer_53 (by decide) (fun c53 => ?_) (fun c53 => ?_)
          · skip
            refine wa_iconst (v := 0) F dX6_transfer_69 (by decide) ?_
            refine wa_istore (lv' := [(4, .int 0), (3, .int 1), (0, .ref 2), (1, .int (nI jv)), (2, .int (nI jb))]) F dX6_transfer_70 (by decide) rfl ?_
            refine wa_aload_n F dX6_transfer_72 (i := 0) rfl 2 rfl ?_
            refine wa_iload_n F dX6_transfer_73 (i := 3) rfl 1 rfl ?_
            refine wa_if_ne (tgt := 81) F dX6_transfer_74 (by decide) (fun _ => ?_) (fun z => absurd z (by decide))
            refine wa_iload F dX6_transfer_81 0 rfl ?_
            refine wa_if_eq (tgt := 90) F dX6_transfer_83 (by decide) (fun _ => ?_) (fun z => absurd (by decide) z)
            refine wa_iconst (v := 2) F dX6_transfer_90 (by decide) ?_
            refine wa_callV F [] (c_X6_refused hst D TC H0 ad X S o 2) mw_X6_refused ml_X6_127 hm_m rfl rfl (Nat.le_of_ble_eq_true rfl) ⟨Nat.le_of_ble_eq_true rfl, Nat.le_of_ble_eq_true rfl⟩ ⟨Nat.le_of_ble_eq_true rfl, Nat.le_of_ble_eq_true rfl⟩ dX6_transfer_91 PR_ag (fun _ z => z.elim) ?_
            rintro _ _ _ ⟨rfl, rfl, rfl⟩
            rw [show (bI (decide (¬ (2 : Int32) = 0))) = 1 from rfl]
            refine wa_if_eq (tgt := 99) F dX6_transfer_94 (by decide) (fun z => absurd z (by decide)) (fun _ => ?_)
            refine wa_iconst (v := 0) F dX6_transfer_97 (by decide) ?_
            refine wa_iret F rfl (Nat.le_of_ble_eq_true rfl) (Nat.le_of_ble_eq_true rfl) dX6_transfer_98 ?_
            have ek : kTr S (nI jv) (nI jb) = 2 := by simp [kTr, c5, c13, c33, c43, c53, ev, eb]
            exact ⟨by rw [ek, mR_n (by decide)], rfl, by rw [ek, mS_n (by decide)]⟩
          · skip
            refine wa_aload_n F dX6_transfer_56 (i := 0) rfl 1 rfl ?_
            refine wa_iload_n F dX6_transfer_57 (i := 2) rfl 3 rfl ?_
            refine wa_iload_n F dX6_transfer_58 (i := 1) rfl 2 rfl ?_
            refine wa_callV F [] (c_X6_hasScope hst D TC H0 ad X S o (nI jb) jb jv rfl (by omega) (by omega) hc) mw_X6_hasScope ml_X6_171 hm_m rfl rfl (Nat.le_of_ble_eq_true rfl) ⟨Nat.le_of_ble_eq_true rfl, Nat.le_of_ble_eq_true rfl⟩ ⟨Nat.le_of_ble_eq_true rfl, Nat.le_of_ble_eq_true rfl⟩ dX6_transfer_59 PR_ag (fun _ z => z.elim) ?_
            rintro _ _ _ ⟨rfl, rfl, rfl⟩
            refine wa_if_eq (tgt := 69) F dX6_transfer_62 (by decide) (fun c62 => ?_) (fun c62 => ?_)
            · skip
              replace c62 : (sScope S jb jv) = false := bI_f c62
              refine wa_iconst (v := 0) F dX6_transfer_69 (by decide) ?_
              refine wa_istore (lv' := [(4, .int 0), (3, .int 1), (0, .ref 2), (1, .int (nI jv)), (2, .int (nI jb))]) F dX6_transfer_70 (by decide) rfl ?_
              refine wa_aload_n F dX6_transfer_72 (i := 0) rfl 2 rfl ?_
              refine wa_iload_n F dX6_transfer_73 (i := 3) rfl 1 rfl ?_
              refine wa_if_ne (tgt := 81) F dX6_transfer_74 (by decide) (fun _ => ?_) (fun z => absurd z (by decide))
              refine wa_iload F dX6_transfer_81 0 rfl ?_
              refine wa_if_eq (tgt := 90) F dX6_transfer_83 (by decide) (fun _ => ?_) (fun z => absurd (by decide) z)
              refine wa_iconst (v := 2) F dX6_transfer_90 (by decide) ?_
              refine wa_callV F [] (c_X6_refused hst D TC H0 ad X S o 2) mw_X6_refused ml_X6_127 hm_m rfl rfl (Nat.le_of_ble_eq_true rfl) ⟨Nat.le_of_ble_eq_true rfl, Nat.le_of_ble_eq_true rfl⟩ ⟨Nat.le_of_ble_eq_true rfl, Nat.le_of_ble_eq_true rfl⟩ dX6_transfer_91 PR_ag (fun _ z => z.elim) ?_
              rintro _ _ _ ⟨rfl, rfl, rfl⟩
              rw [show (bI (decide (¬ (2 : Int32) = 0))) = 1 from rfl]
              refine wa_if_eq (tgt := 99) F dX6_transfer_94 (by decide) (fun z => absurd z (by decide)) (fun _ => ?_)
              refine wa_iconst (v := 0) F dX6_transfer_97 (by decide) ?_
              refine wa_iret F rfl (Nat.le_of_ble_eq_true rfl) (Nat.le_of_ble_eq_true rfl) dX6_transfer_98 ?_
              have ek : kTr S (nI jv) (nI jb) = 2 := by simp [kTr, c5, c13, c33, c43, c53, c62, ev, eb]
              exact ⟨by rw [ek, mR_n (by decide)], rfl, by rw [ek, mS_n (by decide)]⟩
            · skip
              replace c62 : (sScope S jb jv) = true := bI_t c62
              refine wa_iconst (v := 1) F dX6_transfer_65 (by decide) ?_
              refine wa_goto (tgt := 70) F dX6_transfer_66 (by decide) ?_
              refine wa_istore (lv' := [(4, .int 1), (3, .int 1), (0, .ref 2), (1, .int (nI jv)), (2, .int (nI jb))]) F dX6_transfer_70 (by decide) rfl ?_
              refine wa_aload_n F dX6_transfer_72 (i := 0) rfl 2 rfl ?_
              refine wa_iload_n F dX6_transfer_73 (i := 3) rfl 1 rfl ?_
              refine wa_if_ne (tgt := 81) F dX6_transfer_74 (by decide) (fun _ => ?_) (fun z => absurd z (by decide))
              refine wa_iload F dX6_transfer_81 0 rfl ?_
              refine wa_if_eq (tgt := 90) F dX6_transfer_83 (by decide) (fun z => absurd z (by decide)) (fun _ => ?_)
              refine wa_iconst (v := 0) F dX6_transfer_86 (by decide) ?_
              refine wa_goto (tgt := 91) F dX6_transfer_87 (by decide) ?_
              refine wa_callV F [] (c_X6_refused hst D TC H0 ad X S o 0) mw_X6_refused ml_X6_127 hm_m rfl rfl (Nat.le_of_ble_eq_true rfl) ⟨Nat.le_of_ble_eq_true rfl, Nat.le_of_ble_eq_true rfl⟩ ⟨Nat.le_of_ble_eq_true rfl, Nat.le_of_ble_eq_true rfl⟩ dX6_transfer_91 PR_ag (fun _ z => z.elim) ?_
              rintro _ _ _ ⟨rfl, rfl, rfl⟩
              rw [show (bI (decide (¬ (0 : Int32) = 0))) = 0 from rfl]
              refine wa_if_eq (tgt := 99) F dX6_transfer_94 (by decide) (fun _ => ?_) (fun z => absurd (by decide) z)
              refine wa_aload_n F dX6_transfer_99 (i := 0) rfl 2 rfl ?_
              refine wa_getf (v := .ref 120) F LY_X6 (hm_m (S := (sU S 0 0 0))) 20 (by decide) fl_X6_56 rfl dX6_transfer_100 ?_
              refine wa_iload_n F dX6_transfer_103 (i := 1) rfl 3 rfl ?_
              refine wa_iald (f := S 20) F 0 rfl (hm_20 (S := (sU S 0 0 0))) jv rfl (by omega) (by decide) dX6_transfer_104 ?_
              refine wa_istore (lv' := [(5, .int (S 20 jv)), (4, .int 1), (3, .int 1), (0, .ref 2), (1, .int (nI jv)), (2, .int (nI jb))]) F dX6_transfer_105 (by decide) rfl ?_
              refine wa_aload_n F dX6_transfer_107 (i := 0) rfl 3 rfl ?_
              refine wa_getf (v := .ref 120) F LY_X6 (hm_m (S := (sU S 0 0 0))) 20 (by decide) fl_X6_56 rfl dX6_transfer_108 ?_
              refine wa_iload_n F dX6_transfer_111 (i := 1) rfl 4 rfl ?_
              refine wa_iload_n F dX6_transfer_112 (i := 2) rfl 5 rfl ?_
              refine wa_iast F 0 rfl (hm_20 (S := (sU S 0 0 0))) jv rfl (by omega) (by decide) dX6_transfer_113 (hu_20 jv (nI jb)) ?_
              refine wa_iload F dX6_transfer_114 0 rfl ?_
              refine wa_iret F rfl (Nat.le_of_ble_eq_true rfl) (Nat.le_of_ble_eq_true rfl) dX6_transfer_116 ?_
              have ek : kTr S (nI jv) (nI jb) = 0 := by simp [kTr, c5, c13, c33, c43, c53, c62, ev, eb]
              refine ⟨?_, rfl, ?_⟩
              · rw [ek, mR_0]
                refine congrArg (fun z => some (Value.int z)) ?_
                unfold rTr; rw [ev]
              · rw [ek, mS_0]
                unfold uTr; rw [ev]
set_option maxHeartbeats 2000000 in
set_option maxRecDepth 20000 in
theorem c_X6_visit {l : Launch} (hst : l.stackTraces = false) (D : va_G) (TC : Nat → ClassId) (H0 : Heap) (ad : Nat → Nat) (X S : St) (o : Nat → Int64) (v : Int32) (q : Bool) (n : Nat) (hi : INV n S) : CC l D (tysOf TC) H0 yX6_visit cX6_visit 4 (some .boolean) 6 0 0 [.ref 2, .int v, .int (bI q)] ad (hall TC X S o) (PR ad (some (.int (mR (kVi S v) (rVi S v q)))) (hall TC X (mS (kVi S v) (S) (uVi v q)) o)) (fun _ => False) := by
  refine cc_intro hst (by decide +kernel) (Nat.le_of_ble_eq_true rfl) ?_
  intro p e s m args below meth c F
  rw [show lv_args 0 [.ref 2, .int v, .int (bI q)] = [(0, .ref 2), (1, .int v), (2, .int (bI q))] from rfl]
  obtain ⟨hc, hs, hp, hd0, hm, h7, h8, hbo0, hu0, hvr⟩ := id hi
  have hc2 := hc.2; have hs2 := hs.2; have hp2 := hp.2; have hd := hd0.2; have hm2 := hm.2
  refine wa_aload_n F dX6_visit_0 (i := 0) rfl 0 rfl ?_
  refine wa_aload_n F dX6_visit_1 (i := 0) rfl 0 rfl ?_
  refine wa_iload_n F dX6_visit_2 (i := 1) rfl 1 rfl ?_
  refine wa_callV F [.ref 2] (c_X6_isProduct hst D TC H0 ad X S o v) mw_X6_isProduct ml_X6_145 hm_m rfl rfl (Nat.le_of_ble_eq_true rfl) ⟨Nat.le_of_ble_eq_true rfl, Nat.le_of_ble_eq_true rfl⟩ ⟨Nat.le_of_ble_eq_true rfl, Nat.le_of_ble_eq_true rfl⟩ dX6_visit_3 PR_ag (fun _ z => z.elim) ?_
  rintro _ _ _ ⟨rfl, rfl, rfl⟩
  refine wa_if_eq (tgt := 13) F dX6_visit_6 (by decide) (fun c6 => ?_) (fun c6 => ?_)
  · skip
    replace c6 : (sIn v 0 (S 13 0 - 1)) = false := bI_f c6
    refine wa_iconst (v := 1) F dX6_visit_13 (by decide) ?_
    refine wa_callV F [] (c_X6_refused hst D TC H0 ad X S o 1) mw_X6_refused ml_X6_127 hm_m rfl rfl (Nat.le_of_ble_eq_true rfl) ⟨Nat.le_of_ble_eq_true rfl, Nat.le_of_ble_eq_true rfl⟩ ⟨Nat.le_of_ble_eq_true rfl, Nat.le_of_ble_eq_true rfl⟩ dX6_visit_14 PR_ag (fun _ z => z.elim) ?_
    rintro _ _ _ ⟨rfl, rfl, rfl⟩
    rw [show (bI (decide (¬ (1 : Int32) = 0))) = 1 from rfl]
    refine wa_if_eq (tgt := 22) F dX6_visit_17 (by decide) (fun z => absurd z (by decide)) (fun _ => ?_)
    refine wa_iconst (v := 0) F dX6_visit_20 (by decide) ?_
    refine wa_iret F rfl (Nat.le_of_ble_eq_true rfl) (Nat.le_of_ble_eq_true rfl) dX6_visit_21 ?_
    have ek : kVi S v = 1 := by simp [kVi, c6]
    exact ⟨by rw [ek, mR_n (by decide)], rfl, by rw [ek, mS_n (by decide)]⟩
  · skip
    replace c6 : (sIn v 0 (S 13 0 - 1)) = true := bI_t c6
    obtain ⟨jv, lv, rfl⟩ := sIn_nat hp.1 (by omega) c6
    have ev : tn (nI jv) = jv := tn_nI (by omega)
    refine wa_iconst (v := 0) F dX6_visit_9 (by decide) ?_
    refine wa_goto (tgt := 14) F dX6_visit_10 (by decide) ?_
    refine wa_callV F [] (c_X6_refused hst D TC H0 ad X S o 0) mw_X6_refused ml_X6_127 hm_m rfl rfl (Nat.le_of_ble_eq_true rfl) ⟨Nat.le_of_ble_eq_true rfl, Nat.le_of_ble_eq_true rfl⟩ ⟨Nat.le_of_ble_eq_true rfl, Nat.le_of_ble_eq_true rfl⟩ dX6_visit_14 PR_ag (fun _ z => z.elim) ?_
    rintro _ _ _ ⟨rfl, rfl, rfl⟩
    rw [show (bI (decide (¬ (0 : Int32) = 0))) = 0 from rfl]
    refine wa_if_eq (tgt := 22) F dX6_visit_17 (by decide) (fun _ => ?_) (fun z => absurd (by decide) z)
    refine wa_iload_n F dX6_visit_22 (i := 2) rfl 2 rfl ?_
    refine wa_if_ne (tgt := 40) F dX6_visit_23 (by decide) (fun c23 => ?_) (fun c23 => ?_)
    · skip
      replace c23 : q = true := bI_t c23
      refine wa_iconst (v := 0) F dX6_visit_40 (by decide) ?_
      refine wa_istore_n (lv' := [(3, .int 0), (0, .ref 2), (1, .int (nI jv)), (2, .int (bI q))]) F dX6_visit_41 (i := 3) rfl (by decide) rfl ?_
      refine wa_aload_n F dX6_visit_42 (i := 0) rfl 1 rfl ?_
      refine wa_getf (v := .ref 122) F LY_X6 (hm_m (S := (sU S 0 0 0))) 22 (by decide) fl_X6_62 rfl dX6_visit_43 ?_
      refine wa_iload_n F dX6_visit_46 (i := 1) rfl 2 rfl ?_
      refine wa_iload_n F dX6_visit_47 (i := 2) rfl 3 rfl ?_
      refine wa_if_eq (tgt := 58) F dX6_visit_48 (by decide) (fun z => by rw [c23] at z; exact absurd z (by decide)) (fun _ => ?_)
      refine wa_aload_n F dX6_visit_51 (i := 0) rfl 1 rfl ?_
      refine wa_getf (v := .int (S 1 0)) F LY_X6 (hm_m (S := (sU S 0 0 0))) 1 (by decide) fl_X6_142 rfl dX6_visit_52 ?_
      refine wa_goto (tgt := 64) F dX6_visit_55 (by decide) ?_
      refine wa_iast F 0 rfl (hm_22 (S := (sU S 0 0 0))) jv rfl (by omega) (by decide) dX6_visit_64 (hu_22 jv (S 1 0)) ?_
      refine wa_aload_n F dX6_visit_65 (i := 0) rfl 1 rfl ?_
      refine wa_getf (v := .ref 120) F LY_X6 (hm_m (S := (sU (sU S 0 0 0) 22 jv (S 1 0)))) 20 (by decide) fl_X6_56 rfl dX6_visit_66 ?_
      refine wa_iload_n F dX6_visit_69 (i := 1) rfl 2 rfl ?_
      refine wa_iload_n F dX6_visit_70 (i := 3) rfl 0 rfl ?_
      refine wa_if_eq (tgt := 78) F dX6_visit_71 (by decide) (fun _ => ?_) (fun z => absurd (by decide) z)
      refine wa_aload_n F dX6_visit_78 (i := 0) rfl 1 rfl ?_
      refine wa_getf (v := .ref 120) F LY_X6 (hm_m (S := (sU (sU S 0 0 0) 22 jv (S 1 0)))) 20 (by decide) fl_X6_56 rfl dX6_visit_79 ?_
      refine wa_iload_n F dX6_visit_82 (i := 1) rfl 2 rfl ?_
      refine wa_iald (f := S 20) F 0 rfl (hm_20 (S := (sU (sU S 0 0 0) 22 jv (S 1 0)))) jv rfl (by omega) (by decide) dX6_visit_83 ?_
      refine wa_iast F 0 rfl (hm_20 (S := (sU (sU S 0 0 0) 22 jv (S 1 0)))) jv rfl (by omega) (by decide) dX6_visit_84 (hu_20 jv (S 20 jv)) ?_
      refine wa_aload_n F dX6_visit_85 (i := 0) rfl 1 rfl ?_
      refine wa_getf (v := .ref 121) F LY_X6 (hm_m (S := (sU (sU (sU S 0 0 0) 22 jv (S 1 0)) 20 jv (S 20 jv)))) 21 (by decide) fl_X6_59 rfl dX6_visit_86 ?_
      refine wa_iload_n F dX6_visit_89 (i := 1) rfl 2 rfl ?_
      refine wa_iload_n F dX6_visit_90 (i := 3) rfl 0 rfl ?_
      refine wa_if_eq (tgt := 98) F dX6_visit_91 (by decide) (fun _ => ?_) (fun z => absurd (by decide) z)
      refine wa_aload_n F dX6_visit_98 (i := 0) rfl 1 rfl ?_
      refine wa_getf (v := .ref 121) F LY_X6 (hm_m (S := (sU (sU (sU S 0 0 0) 22 jv (S 1 0)) 20 jv (S 20 jv)))) 21 (by decide) fl_X6_59 rfl dX6_visit_99 ?_
      refine wa_iload_n F dX6_visit_102 (i := 1) rfl 2 rfl ?_
      refine wa_iald (f := S 21) F 0 rfl (hm_21 (S := (sU (sU (sU S 0 0 0) 22 jv (S 1 0)) 20 jv (S 20 jv)))) jv rfl (by omega) (by decide) dX6_visit_103 ?_
      refine wa_iast F 0 rfl (hm_21 (S := (sU (sU (sU S 0 0 0) 22 jv (S 1 0)) 20 jv (S 20 jv)))) jv rfl (by omega) (by decide) dX6_visit_104 (hu_21 jv (S 21 jv)) ?_
      refine wa_iload_n F dX6_visit_105 (i := 3) rfl 0 rfl ?_
      refine wa_iret F rfl (Nat.le_of_ble_eq_true rfl) (Nat.le_of_ble_eq_true rfl) dX6_visit_106 ?_
      have ek : kVi S (nI jv) = 0 := by simp [kVi, c6, c23, ev]
      refine ⟨?_, rfl, ?_⟩
      · rw [ek, mR_0]
        refine congrArg (fun z => some (Value.int z)) ?_
        unfold rVi eVi; rw [ev]; simp [bI, c23]
      · rw [ek, mS_0]
        unfold uVi eVi; rw [ev]; rw [show (sU S 0 0 0) 20 = S 20 from rfl, show (sU S 0 0 0) 22 = S 22 from rfl, show (sU S 0 0 0) 21 = S 21 from rfl, show (sU S 0 0 0) 1 = S 1 from rfl]; simp [c23]; try rfl
    · skip
      replace c23 : q = false := bI_f c23
      refine wa_aload_n F dX6_visit_26 (i := 0) rfl 0 rfl ?_
      refine wa_getf (v := .ref 120) F LY_X6 (hm_m (S := (sU S 0 0 0))) 20 (by decide) fl_X6_56 rfl dX6_visit_27 ?_
      refine wa_iload_n F dX6_visit_30 (i := 1) rfl 1 rfl ?_
      refine wa_iald (f := S 20) F 0 rfl (hm_20 (S := (sU S 0 0 0))) jv rfl (by omega) (by decide) dX6_visit_31 ?_
      refine wa_iconst (v := (-1)) F dX6_visit_32 (by decide) ?_
      refine wa_icmp_eq (tgt := 40) F dX6_visit_33 (by decide) (fun c33 => ?_) (fun c33 => ?_)
      · skip
        refine wa_iconst (v := 0) F dX6_visit_40 (by decide) ?_
        refine wa_istore_n (lv' := [(3, .int 0), (0, .ref 2), (1, .int (nI jv)), (2, .int (bI q))]) F dX6_visit_41 (i := 3) rfl (by decide) rfl ?_
        refine wa_aload_n F dX6_visit_42 (i := 0) rfl 1 rfl ?_
        refine wa_getf (v := .ref 122) F LY_X6 (hm_m (S := (sU S 0 0 0))) 22 (by decide) fl_X6_62 rfl dX6_visit_43 ?_
        refine wa_iload_n F dX6_visit_46 (i := 1) rfl 2 rfl ?_
        refine wa_iload_n F dX6_visit_47 (i := 2) rfl 3 rfl ?_
        refine wa_if_eq (tgt := 58) F dX6_visit_48 (by decide) (fun _ => ?_) (fun z => by rw [c23] at z; exact absurd rfl z)
        refine wa_aload_n F dX6_visit_58 (i := 0) rfl 1 rfl ?_
        refine wa_getf (v := .ref 122) F LY_X6 (hm_m (S := (sU S 0 0 0))) 22 (by decide) fl_X6_62 rfl dX6_visit_59 ?_
        refine wa_iload_n F dX6_visit_62 (i := 1) rfl 2 rfl ?_
        refine wa_iald (f := S 22) F 0 rfl (hm_22 (S := (sU S 0 0 0))) jv rfl (by omega) (by decide) dX6_visit_63 ?_
        refine wa_iast F 0 rfl (hm_22 (S := (sU S 0 0 0))) jv rfl (by omega) (by decide) dX6_visit_64 (hu_22 jv (S 22 jv)) ?_
        refine wa_aload_n F dX6_visit_65 (i := 0) rfl 1 rfl ?_
        refine wa_getf (v := .ref 120) F LY_X6 (hm_m (S := (sU (sU S 0 0 0) 22 jv (S 22 jv)))) 20 (by decide) fl_X6_56 rfl dX6_visit_66 ?_
        refine wa_iload_n F dX6_visit_69 (i := 1) rfl 2 rfl ?_
        refine wa_iload_n F dX6_visit_70 (i := 3) rfl 0 rfl ?_
        refine wa_if_eq (tgt := 78) F dX6_visit_71 (by decide) (fun _ => ?_) (fun z => absurd (by decide) z)
        refine wa_aload_n F dX6_visit_78 (i := 0) rfl 1 rfl ?_
        refine wa_getf (v := .ref 120) F LY_X6 (hm_m (S := (sU (sU S 0 0 0) 22 jv (S 22 jv)))) 20 (by decide) fl_X6_56 rfl dX6_visit_79 ?_
        refine wa_iload_n F dX6_visit_82 (i := 1) rfl 2 rfl ?_
        refine wa_iald (f := S 20) F 0 rfl (hm_20 (S := (sU (sU S 0 0 0) 22 jv (S 22 jv)))) jv rfl (by omega) (by decide) dX6_visit_83 ?_
        refine wa_iast F 0 rfl (hm_20 (S := (sU (sU S 0 0 0) 22 jv (S 22 jv)))) jv rfl (by omega) (by decide) dX6_visit_84 (hu_20 jv (S 20 jv)) ?_
        refine wa_aload_n F dX6_visit_85 (i := 0) rfl 1 rfl ?_
        refine wa_getf (v := .ref 121) F LY_X6 (hm_m (S := (sU (sU (sU S 0 0 0) 22 jv (S 22 jv)) 20 jv (S 20 jv)))) 21 (by decide) fl_X6_59 rfl dX6_visit_86 ?_
        refine wa_iload_n F dX6_visit_89 (i := 1) rfl 2 rfl ?_
        refine wa_iload_n F dX6_visit_90 (i := 3) rfl 0 rfl ?_
        refine wa_if_eq (tgt := 98) F dX6_visit_91 (by decide) (fun _ => ?_) (fun z => absurd (by decide) z)
        refine wa_aload_n F dX6_visit_98 (i := 0) rfl 1 rfl ?_
        refine wa_getf (v := .ref 121) F LY_X6 (hm_m (S := (sU (sU (sU S 0 0 0) 22 jv (S 22 jv)) 20 jv (S 20 jv)))) 21 (by decide) fl_X6_59 rfl dX6_visit_99 ?_
        refine wa_iload_n F dX6_visit_102 (i := 1) rfl 2 rfl ?_
        refine wa_iald (f := S 21) F 0 rfl (hm_21 (S := (sU (sU (sU S 0 0 0) 22 jv (S 22 jv)) 20 jv (S 20 jv)))) jv rfl (by omega) (by decide) dX6_visit_103 ?_
        refine wa_iast F 0 rfl (hm_21 (S := (sU (sU (sU S 0 0 0) 22 jv (S 22 jv)) 20 jv (S 20 jv)))) jv rfl (by omega) (by decide) dX6_visit_104 (hu_21 jv (S 21 jv)) ?_
        refine wa_iload_n F dX6_visit_105 (i := 3) rfl 0 rfl ?_
        refine wa_iret F rfl (Nat.le_of_ble_eq_true rfl) (Nat.le_of_ble_eq_true rfl) dX6_visit_106 ?_
        have ek : kVi S (nI jv) = 0 := by simp [kVi, c6, c23, c33, ev]
        refine ⟨?_, rfl, ?_⟩
        · rw [ek, mR_0]
          refine congrArg (fun z => some (Value.int z)) ?_
          unfold rVi eVi; rw [ev]; simp [bI, c23, c33]
        · rw [ek, mS_0]
          unfold uVi eVi; rw [ev]; rw [show (sU S 0 0 0) 20 = S 20 from rfl, show (sU S 0 0 0) 22 = S 22 from rfl, show (sU S 0 0 0) 21 = S 21 from rfl, show (sU S 0 0 0) 1 = S 1 from rfl]; simp [c23, c33]; try rfl
      · skip
        refine wa_iconst (v := 1) F dX6_visit_36 (by decide) ?_
        refine wa_goto (tgt := 41) F dX6_visit_37 (by decide) ?_
        refine wa_istore_n (lv' := [(3, .int 1), (0, .ref 2), (1, .int (nI jv)), (2, .int (bI q))]) F dX6_visit_41 (i := 3) rfl (by decide) rfl ?_
        refine wa_aload_n F dX6_visit_42 (i := 0) rfl 1 rfl ?_
        refine wa_getf (v := .ref 122) F LY_X6 (hm_m (S := (sU S 0 0 0))) 22 (by decide) fl_X6_62 rfl dX6_visit_43 ?_
        refine wa_iload_n F dX6_visit_46 (i := 1) rfl 2 rfl ?_
        refine wa_iload_n F dX6_visit_47 (i := 2) rfl 3 rfl ?_
        refine wa_if_eq (tgt := 58) F dX6_visit_48 (by decide) (fun _ => ?_) (fun z => by rw [c23] at z; exact absurd rfl z)
        refine wa_aload_n F dX6_visit_58 (i := 0) rfl 1 rfl ?_
        refine wa_getf (v := .ref 122) F LY_X6 (hm_m (S := (sU S 0 0 0))) 22 (by decide) fl_X6_62 rfl dX6_visit_59 ?_
        refine wa_iload_n F dX6_visit_62 (i := 1) rfl 2 rfl ?_
        refine wa_iald (f := S 22) F 0 rfl (hm_22 (S := (sU S 0 0 0))) jv rfl (by omega) (by decide) dX6_visit_63 ?_
        refine wa_iast F 0 rfl (hm_22 (S := (sU S 0 0 0))) jv rfl (by omega) (by decide) dX6_visit_64 (hu_22 jv (S 22 jv)) ?_
        refine wa_aload_n F dX6_visit_65 (i := 0) rfl 1 rfl ?_
        refine wa_getf (v := .ref 120) F LY_X6 (hm_m (S := (sU (sU S 0 0 0) 22 jv (S 22 jv)))) 20 (by decide) fl_X6_56 rfl dX6_visit_66 ?_
        refine wa_iload_n F dX6_visit_69 (i := 1) rfl 2 rfl ?_
        refine wa_iload_n F dX6_visit_70 (i := 3) rfl 0 rfl ?_
        refine wa_if_eq (tgt := 78) F dX6_visit_71 (by decide) (fun z => absurd z (by decide)) (fun _ => ?_)
        refine wa_iconst (v := (-1)) F dX6_visit_74 (by decide) ?_
        refine wa_goto (tgt := 84) F dX6_visit_75 (by decide) ?_
        refine wa_iast F 0 rfl (hm_20 (S := (sU (sU S 0 0 0) 22 jv (S 22 jv)))) jv rfl (by omega) (by decide) dX6_visit_84 (hu_20 jv (-1)) ?_
        refine wa_aload_n F dX6_visit_85 (i := 0) rfl 1 rfl ?_
        refine wa_getf (v := .ref 121) F LY_X6 (hm_m (S := (sU (sU (sU S 0 0 0) 22 jv (S 22 jv)) 20 jv (-1)))) 21 (by decide) fl_X6_59 rfl dX6_visit_86 ?_
        refine wa_iload_n F dX6_visit_89 (i := 1) rfl 2 rfl ?_
        refine wa_iload_n F dX6_visit_90 (i := 3) rfl 0 rfl ?_
        refine wa_if_eq (tgt := 98) F dX6_visit_91 (by decide) (fun z => absurd z (by decide)) (fun _ => ?_)
        refine wa_iconst (v := (-1)) F dX6_visit_94 (by decide) ?_
        refine wa_goto (tgt := 104) F dX6_visit_95 (by decide) ?_
        refine wa_iast F 0 rfl (hm_21 (S := (sU (sU (sU S 0 0 0) 22 jv (S 22 jv)) 20 jv (-1)))) jv rfl (by omega) (by decide) dX6_visit_104 (hu_21 jv (-1)) ?_
        refine wa_iload_n F dX6_visit_105 (i := 3) rfl 0 rfl ?_
        refine wa_iret F rfl (Nat.le_of_ble_eq_true rfl) (Nat.le_of_ble_eq_true rfl) dX6_visit_106 ?_
        have ek : kVi S (nI jv) = 0 := by simp [kVi, c6, c23, c33, ev]
        refine ⟨?_, rfl, ?_⟩
        · rw [ek, mR_0]
          refine congrArg (fun z => some (Value.int z)) ?_
          unfold rVi eVi; rw [ev]; simp [bI, c23, c33]
        · rw [ek, mS_0]
          unfold uVi eVi; rw [ev]; rw [show (sU S 0 0 0) 20 = S 20 from rfl, show (sU S 0 0 0) 22 = S 22 from rfl, show (sU S 0 0 0) 21 = S 21 from rfl, show (sU S 0 0 0) 1 = S 1 from rfl]; simp [c23, c33]; try rfl
set_option maxHeartbeats 2000000 in
set_option maxRecDepth 20000 in
theorem c_X6_place {l : Launch} (hst : l.stackTraces = false) (D : va_G) (TC : Nat → ClassId) (H0 : Heap) (ad : Nat → Nat) (X S : St) (o : Nat → Int64) (v : Int32) (b : Int32) (n : Nat) (hi : INV n S) : CC l D (tysOf TC) H0 yX6_place cX6_place 5 (some .int) 6 0 0 [.ref 2, .int v, .int b] ad (hall TC X S o) (PR ad (some (.int (mR (kPl S v b) (rPl S)))) (hall TC X (mS (kPl S v b) (S) (uPl v b)) o)) (fun _ => False) := by
  refine cc_intro hst (by decide +kernel) (Nat.le_of_ble_eq_true rfl) ?_
  intro p e s m args below meth c F
  rw [show lv_args 0 [.ref 2, .int v, .int b] = [(0, .ref 2), (1, .int v), (2, .int b)] from rfl]
  obtain ⟨hc, hs, hp, hd0, hm, h7, h8, hbo0, hu0, hvr⟩ := id hi
  have hc2 := hc.2; have hs2 := hs.2; have hp2 := hp.2; have hd := hd0.2; have hm2 := hm.2
  refine wa_aload_n F dX6_place_0 (i := 0) rfl 0 rfl ?_
  refine wa_iload_n F dX6_place_1 (i := 1) rfl 1 rfl ?_
  refine wa_callV F [] (c_X6_isProduct hst D TC H0 ad X S o v) mw_X6_isProduct ml_X6_145 hm_m rfl rfl (Nat.le_of_ble_eq_true rfl) ⟨Nat.le_of_ble_eq_true rfl, Nat.le_of_ble_eq_true rfl⟩ ⟨Nat.le_of_ble_eq_true rfl, Nat.le_of_ble_eq_true rfl⟩ dX6_place_2 PR_ag (fun _ z => z.elim) ?_
  rintro _ _ _ ⟨rfl, rfl, rfl⟩
  refine wa_istore_n (lv' := [(3, .int (bI (sIn v 0 (S 13 0 - 1)))), (0, .ref 2), (1, .int v), (2, .int b)]) F dX6_place_5 (i := 3) rfl (by decide) rfl ?_
  refine wa_iload_n F dX6_place_6 (i := 2) rfl 3 rfl ?_
  refine wa_iconst (v := 1) F dX6_place_7 (by decide) ?_
  refine wa_sipush (v := 10000) F dX6_place_8 (by decide) ?_
  refine wa_callS F [] (c_X6_in hst D (tysOf TC) H0 ad (hall TC X S o) b 1 10000) mw_X6_in ml_X6_111 rfl (Nat.le_of_ble_eq_true rfl) ⟨Nat.le_of_ble_eq_true rfl, Nat.le_of_ble_eq_true rfl⟩ ⟨Nat.le_of_ble_eq_true rfl, Nat.le_of_ble_eq_true rfl⟩ dX6_place_11 PR_ag (fun _ z => z.elim) ?_
  rintro _ _ _ ⟨rfl, rfl, rfl⟩
  refine wa_istore (lv' := [(4, .int (bI (sIn b 1 10000))), (3, .int (bI (sIn v 0 (S 13 0 - 1)))), (0, .ref 2), (1, .int v), (2, .int b)]) F dX6_place_14 (by decide) rfl ?_
  refine wa_aload_n F dX6_place_16 (i := 0) rfl 2 rfl ?_
  refine wa_iload_n F dX6_place_17 (i := 3) rfl 1 rfl ?_
  refine wa_if_ne (tgt := 25) F dX6_place_18 (by decide) (fun c18 => ?_) (fun c18 => ?_)
  · skip
    replace c18 : (sIn v 0 (S 13 0 - 1)) = true := bI_t c18
    obtain ⟨jv, lv, rfl⟩ := sIn_nat hp.1 (by omega) c18
    have ev : tn (nI jv) = jv := tn_nI (by omega)
    have hbo := hbo0 jv lv
    refine wa_iload F dX6_place_25 0 rfl ?_
    refine wa_if_ne (tgt := 34) F dX6_place_27 (by decide) (fun c27 => ?_) (fun c27 => ?_)
    · skip
      replace c27 : (sIn b 1 10000) = true := bI_t c27
      refine wa_aload_n F dX6_place_34 (i := 0) rfl 2 rfl ?_
      refine wa_iload_n F dX6_place_35 (i := 1) rfl 3 rfl ?_
      refine wa_callV F [.ref 2] (c_X6_wantingOf hst D TC H0 ad X S o jv (by omega) hc hs hd hbo) mw_X6_wantingOf ml_X6_186 hm_m rfl rfl (Nat.le_of_ble_eq_true rfl) ⟨Nat.le_of_ble_eq_true rfl, Nat.le_of_ble_eq_true rfl⟩ ⟨Nat.le_of_ble_eq_true rfl, Nat.le_of_ble_eq_true rfl⟩ dX6_place_36 PR_ag (fun _ z => z.elim) ?_
      rintro _ _ _ ⟨rfl, rfl, rfl⟩
      refine wa_if_ne (tgt := 51) F dX6_place_39 (by decide) (fun c39 => ?_) (fun c39 => ?_)
      · skip
        refine wa_iconst (v := 3) F dX6_place_51 (by decide) ?_
        refine wa_goto (tgt := 56) F dX6_place_52 (by decide) ?_
        refine wa_callV F [] (c_X6_refused hst D TC H0 ad X S o 3) mw_X6_refused ml_X6_127 hm_m rfl rfl (Nat.le_of_ble_eq_true rfl) ⟨Nat.le_of_ble_eq_true rfl, Nat.le_of_ble_eq_true rfl⟩ ⟨Nat.le_of_ble_eq_true rfl, Nat.le_of_ble_eq_true rfl⟩ dX6_place_56 PR_ag (fun _ z => z.elim) ?_
        rintro _ _ _ ⟨rfl, rfl, rfl⟩
        rw [show (bI (decide (¬ (3 : Int32) = 0))) = 1 from rfl]
        refine wa_if_eq (tgt := 64) F dX6_place_59 (by decide) (fun z => absurd z (by decide)) (fun _ => ?_)
        refine wa_iconst (v := 0) F dX6_place_62 (by decide) ?_
        refine wa_iret F rfl (Nat.le_of_ble_eq_true rfl) (Nat.le_of_ble_eq_true rfl) dX6_place_63 ?_
        have ek : kPl S (nI jv) b = 3 := by simp [kPl, c18, c27, c39, ev]
        exact ⟨by rw [ek, mR_n (by decide)], rfl, by rw [ek, mS_n (by decide)]⟩
      · skip
        refine wa_aload_n F dX6_place_42 (i := 0) rfl 2 rfl ?_
        refine wa_getf (v := .int (S 28 0)) F LY_X6 (hm_m (S := S)) 28 (by decide) fl_X6_124 rfl dX6_place_43 ?_
        refine wa_bipush (v := 40) F dX6_place_46 (by decide) ?_
        refine wa_icmp_ne (tgt := 55) F dX6_place_48 (by decide) (fun c48 => ?_) (fun c48 => ?_)
        · skip
          have hlt28 : cnt S 28 < 40 := cn_lt hm rfl c48
          refine wa_iconst (v := 0) F dX6_place_55 (by decide) ?_
          refine wa_callV F [] (c_X6_refused hst D TC H0 ad X S o 0) mw_X6_refused ml_X6_127 hm_m rfl rfl (Nat.le_of_ble_eq_true rfl) ⟨Nat.le_of_ble_eq_true rfl, Nat.le_of_ble_eq_true rfl⟩ ⟨Nat.le_of_ble_eq_true rfl, Nat.le_of_ble_eq_true rfl⟩ dX6_place_56 PR_ag (fun _ z => z.elim) ?_
          rintro _ _ _ ⟨rfl, rfl, rfl⟩
          rw [show (bI (decide (¬ (0 : Int32) = 0))) = 0 from rfl]
          refine wa_if_eq (tgt := 64) F dX6_place_59 (by decide) (fun _ => ?_) (fun z => absurd (by decide) z)
          refine wa_aload_n F dX6_place_64 (i := 0) rfl 2 rfl ?_
          refine wa_iload_n F dX6_place_65 (i := 1) rfl 3 rfl ?_
          refine wa_iload_n F dX6_place_66 (i := 2) rfl 4 rfl ?_
          refine wa_iconst (v := 0) F dX6_place_67 (by decide) ?_
          refine wa_callV F [] (c_X6_arrives hst D TC H0 ad X (sU S 0 0 0) o jv b 0 (by omega) hm hlt28) mw_X6_arrives ml_X6_192 hm_m rfl rfl (Nat.le_of_ble_eq_true rfl) ⟨Nat.le_of_ble_eq_true rfl, Nat.le_of_ble_eq_true rfl⟩ ⟨Nat.le_of_ble_eq_true rfl, Nat.le_of_ble_eq_true rfl⟩ dX6_place_68 PR_ag (fun _ z => z.elim) ?_
          rintro _ _ _ ⟨rfl, rfl, rfl⟩
          refine wa_iret F rfl (Nat.le_of_ble_eq_true rfl) (Nat.le_of_ble_eq_true rfl) dX6_place_71 ?_
          have ek : kPl S (nI jv) b = 0 := by simp [kPl, c18, c27, c39, c48, ev]
          refine ⟨?_, rfl, ?_⟩
          · rw [ek, mR_0]
            refine congrArg (fun z => some (Value.int z)) ?_
            rfl
          · rw [ek, mS_0]
            unfold uPl; rw [ev]
        · skip
          refine wa_iconst (v := 3) F dX6_place_51 (by decide) ?_
          refine wa_goto (tgt := 56) F dX6_place_52 (by decide) ?_
          refine wa_callV F [] (c_X6_refused hst D TC H0 ad X S o 3) mw_X6_refused ml_X6_127 hm_m rfl rfl (Nat.le_of_ble_eq_true rfl) ⟨Nat.le_of_ble_eq_true rfl, Nat.le_of_ble_eq_true rfl⟩ ⟨Nat.le_of_ble_eq_true rfl, Nat.le_of_ble_eq_true rfl⟩ dX6_place_56 PR_ag (fun _ z => z.elim) ?_
          rintro _ _ _ ⟨rfl, rfl, rfl⟩
          rw [show (bI (decide (¬ (3 : Int32) = 0))) = 1 from rfl]
          refine wa_if_eq (tgt := 64) F dX6_place_59 (by decide) (fun z => absurd z (by decide)) (fun _ => ?_)
          refine wa_iconst (v := 0) F dX6_place_62 (by decide) ?_
          refine wa_iret F rfl (Nat.le_of_ble_eq_true rfl) (Nat.le_of_ble_eq_true rfl) dX6_place_63 ?_
          have ek : kPl S (nI jv) b = 3 := by simp [kPl, c18, c27, c39, c48, ev]
          exact ⟨by rw [ek, mR_n (by decide)], rfl, by rw [ek, mS_n (by decide)]⟩
    · skip
      replace c27 : (sIn b 1 10000) = false := bI_f c27
      refine wa_iconst (v := 2) F dX6_place_30 (by decide) ?_
      refine wa_goto (tgt := 56) F dX6_place_31 (by decide) ?_
      refine wa_callV F [] (c_X6_refused hst D TC H0 ad X S o 2) mw_X6_refused ml_X6_127 hm_m rfl rfl (Nat.le_of_ble_eq_true rfl) ⟨Nat.le_of_ble_eq_true rfl, Nat.le_of_ble_eq_true rfl⟩ ⟨Nat.le_of_ble_eq_true rfl, Nat.le_of_ble_eq_true rfl⟩ dX6_place_56 PR_ag (fun _ z => z.elim) ?_
      rintro _ _ _ ⟨rfl, rfl, rfl⟩
      rw [show (bI (decide (¬ (2 : Int32) = 0))) = 1 from rfl]
      refine wa_if_eq (tgt := 64) F dX6_place_59 (by decide) (fun z => absurd z (by decide)) (fun _ => ?_)
      refine wa_iconst (v := 0) F dX6_place_62 (by decide) ?_
      refine wa_iret F rfl (Nat.le_of_ble_eq_true rfl) (Nat.le_of_ble_eq_true rfl) dX6_place_63 ?_
      have ek : kPl S (nI jv) b = 2 := by simp [kPl, c18, c27, ev]
      exact ⟨by rw [ek, mR_n (by decide)], rfl, by rw [ek, mS_n (by decide)]⟩
  · skip
    replace c18 : (sIn v 0 (S 13 0 - 1)) = false := bI_f c18
    refine wa_iconst (v := 1) F dX6_place_21 (by decide) ?_
    refine wa_goto (tgt := 56) F dX6_place_22 (by decide) ?_
    refine wa_callV F [] (c_X6_refused hst D TC H0 ad X S o 1) mw_X6_refused ml_X6_127 hm_m rfl rfl (Nat.le_of_ble_eq_true rfl) ⟨Nat.le_of_ble_eq_true rfl, Nat.le_of_ble_eq_true rfl⟩ ⟨Nat.le_of_ble_eq_true rfl, Nat.le_of_ble_eq_true rfl⟩ dX6_place_56 PR_ag (fun _ z => z.elim) ?_
    rintro _ _ _ ⟨rfl, rfl, rfl⟩
    rw [show (bI (decide (¬ (1 : Int32) = 0))) = 1 from rfl]
    refine wa_if_eq (tgt := 64) F dX6_place_59 (by decide) (fun z => absurd z (by decide)) (fun _ => ?_)
    refine wa_iconst (v := 0) F dX6_place_62 (by decide) ?_
    refine wa_iret F rfl (Nat.le_of_ble_eq_true rfl) (Nat.le_of_ble_eq_true rfl) dX6_place_63 ?_
    have ek : kPl S v b = 1 := by simp [kPl, c18]
    exact ⟨by rw [ek, mR_n (by decide)], rfl, by rw [ek, mS_n (by decide)]⟩
set_option maxHeartbeats 2000000 in
set_option maxRecDepth 20000 in
theorem c_X6_post {l : Launch} (hst : l.stackTraces = false) (D : va_G) (TC : Nat → ClassId) (H0 : Heap) (ad : Nat → Nat) (X S : St) (o : Nat → Int64) (v : Int32) (b : Int32) (n : Nat) (hi : INV n S) : CC l D (tysOf TC) H0 yX6_post cX6_post 4 (some .int) 6 0 0 [.ref 2, .int v, .int b] ad (hall TC X S o) (PR ad (some (.int (mR (kPo S v b) (rPl S)))) (hall TC X (mS (kPo S v b) (S) (uPo v b)) o)) (fun _ => False) := by
  refine cc_intro hst (by decide +kernel) (Nat.le_of_ble_eq_true rfl) ?_
  intro p e s m args below meth c F
  rw [show lv_args 0 [.ref 2, .int v, .int b] = [(0, .ref 2), (1, .int v), (2, .int b)] from rfl]
  obtain ⟨hc, hs, hp, hd0, hm, h7, h8, hbo0, hu0, hvr⟩ := id hi
  have hc2 := hc.2; have hs2 := hs.2; have hp2 := hp.2; have hd := hd0.2; have hm2 := hm.2
  refine wa_aload_n F dX6_post_0 (i := 0) rfl 0 rfl ?_
  refine wa_iload_n F dX6_post_1 (i := 1) rfl 1 rfl ?_
  refine wa_callV F [] (c_X6_isProduct hst D TC H0 ad X S o v) mw_X6_isProduct ml_X6_145 hm_m rfl rfl (Nat.le_of_ble_eq_true rfl) ⟨Nat.le_of_ble_eq_true rfl, Nat.le_of_ble_eq_true rfl⟩ ⟨Nat.le_of_ble_eq_true rfl, Nat.le_of_ble_eq_true rfl⟩ dX6_post_2 PR_ag (fun _ z => z.elim) ?_
  rintro _ _ _ ⟨rfl, rfl, rfl⟩
  refine wa_istore_n (lv' := [(3, .int (bI (sIn v 0 (S 13 0 - 1)))), (0, .ref 2), (1, .int v), (2, .int b)]) F dX6_post_5 (i := 3) rfl (by decide) rfl ?_
  refine wa_aload_n F dX6_post_6 (i := 0) rfl 1 rfl ?_
  refine wa_iload_n F dX6_post_7 (i := 3) rfl 0 rfl ?_
  refine wa_if_ne (tgt := 15) F dX6_post_8 (by decide) (fun c8 => ?_) (fun c8 => ?_)
  · skip
    replace c8 : (sIn v 0 (S 13 0 - 1)) = true := bI_t c8
    obtain ⟨jv, lv, rfl⟩ := sIn_nat hp.1 (by omega) c8
    have ev : tn (nI jv) = jv := tn_nI (by omega)
    have hbo := hbo0 jv lv
    refine wa_iload_n F dX6_post_15 (i := 2) rfl 3 rfl ?_
    refine wa_iconst (v := 1) F dX6_post_16 (by decide) ?_
    refine wa_sipush (v := 10000) F dX6_post_17 (by decide) ?_
    refine wa_callS F [.ref 2] (c_X6_in hst D (tysOf TC) H0 ad (hall TC X S o) b 1 10000) mw_X6_in ml_X6_111 rfl (Nat.le_of_ble_eq_true rfl) ⟨Nat.le_of_ble_eq_true rfl, Nat.le_of_ble_eq_true rfl⟩ ⟨Nat.le_of_ble_eq_true rfl, Nat.le_of_ble_eq_true rfl⟩ dX6_post_20 PR_ag (fun _ z => z.elim) ?_
    rintro _ _ _ ⟨rfl, rfl, rfl⟩
    refine wa_if_ne (tgt := 30) F dX6_post_23 (by decide) (fun c23 => ?_) (fun c23 => ?_)
    · skip
      replace c23 : (sIn b 1 10000) = true := bI_t c23
      refine wa_aload_n F dX6_post_30 (i := 0) rfl 1 rfl ?_
      refine wa_getf (v := .int (S 28 0)) F LY_X6 (hm_m (S := S)) 28 (by decide) fl_X6_124 rfl dX6_post_31 ?_
      refine wa_bipush (v := 40) F dX6_post_34 (by decide) ?_
      refine wa_icmp_ne (tgt := 43) F dX6_post_36 (by decide) (fun c36 => ?_) (fun c36 => ?_)
      · skip
        have hlt28 : cnt S 28 < 40 := cn_lt hm rfl c36
        refine wa_iconst (v := 0) F dX6_post_43 (by decide) ?_
        refine wa_callV F [] (c_X6_refused hst D TC H0 ad X S o 0) mw_X6_refused ml_X6_127 hm_m rfl rfl (Nat.le_of_ble_eq_true rfl) ⟨Nat.le_of_ble_eq_true rfl, Nat.le_of_ble_eq_true rfl⟩ ⟨Nat.le_of_ble_eq_true rfl, Nat.le_of_ble_eq_true rfl⟩ dX6_post_44 PR_ag (fun _ z => z.elim) ?_
        rintro _ _ _ ⟨rfl, rfl, rfl⟩
        rw [show (bI (decide (¬ (0 : Int32) = 0))) = 0 from rfl]
        refine wa_if_eq (tgt := 52) F dX6_post_47 (by decide) (fun _ => ?_) (fun z => absurd (by decide) z)
        refine wa_aload_n F dX6_post_52 (i := 0) rfl 1 rfl ?_
        refine wa_iload_n F dX6_post_53 (i := 1) rfl 2 rfl ?_
        refine wa_iload_n F dX6_post_54 (i := 2) rfl 3 rfl ?_
        refine wa_aload_n F dX6_post_55 (i := 0) rfl 1 rfl ?_
        refine wa_iload_n F dX6_post_56 (i := 1) rfl 2 rfl ?_
        refine wa_callV F [.int b, .int (nI jv), .ref 2] (c_X6_wantingOf hst D TC H0 ad X (sU S 0 0 0) o jv (by omega) hc hs hd hbo) mw_X6_wantingOf ml_X6_186 hm_m rfl rfl (Nat.le_of_ble_eq_true rfl) ⟨Nat.le_of_ble_eq_true rfl, Nat.le_of_ble_eq_true rfl⟩ ⟨Nat.le_of_ble_eq_true rfl, Nat.le_of_ble_eq_true rfl⟩ dX6_post_57 PR_ag (fun _ z => z.elim) ?_
        rintro _ _ _ ⟨rfl, rfl, rfl⟩
        refine wa_callV F [] (c_X6_arrives hst D TC H0 ad X (sU S 0 0 0) o jv b (sWant (sU S 0 0 0) jv) (by omega) hm hlt28) mw_X6_arrives ml_X6_192 hm_m rfl rfl (Nat.le_of_ble_eq_true rfl) ⟨Nat.le_of_ble_eq_true rfl, Nat.le_of_ble_eq_true rfl⟩ ⟨Nat.le_of_ble_eq_true rfl, Nat.le_of_ble_eq_true rfl⟩ dX6_post_60 PR_ag (fun _ z => z.elim) ?_
        rintro _ _ _ ⟨rfl, rfl, rfl⟩
        refine wa_iret F rfl (Nat.le_of_ble_eq_true rfl) (Nat.le_of_ble_eq_true rfl) dX6_post_63 ?_
        have ek : kPo S (nI jv) b = 0 := by simp [kPo, c8, c23, c36, ev]
        refine ⟨?_, rfl, ?_⟩
        · rw [ek, mR_0]
          refine congrArg (fun z => some (Value.int z)) ?_
          rfl
        · rw [ek, mS_0]
          unfold uPo; rw [ev]
      · skip
        refine wa_iconst (v := 3) F dX6_post_39 (by decide) ?_
        refine wa_goto (tgt := 44) F dX6_post_40 (by decide) ?_
        refine wa_callV F [] (c_X6_refused hst D TC H0 ad X S o 3) mw_X6_refused ml_X6_127 hm_m rfl rfl (Nat.le_of_ble_eq_true rfl) ⟨Nat.le_of_ble_eq_true rfl, Nat.le_of_ble_eq_true rfl⟩ ⟨Nat.le_of_ble_eq_true rfl, Nat.le_of_ble_eq_true rfl⟩ dX6_post_44 PR_ag (fun _ z => z.elim) ?_
        rintro _ _ _ ⟨rfl, rfl, rfl⟩
        rw [show (bI (decide (¬ (3 : Int32) = 0))) = 1 from rfl]
        refine wa_if_eq (tgt := 52) F dX6_post_47 (by decide) (fun z => absurd z (by decide)) (fun _ => ?_)
        refine wa_iconst (v := 0) F dX6_post_50 (by decide) ?_
        refine wa_iret F rfl (Nat.le_of_ble_eq_true rfl) (Nat.le_of_ble_eq_true rfl) dX6_post_51 ?_
        have ek : kPo S (nI jv) b = 3 := by simp [kPo, c8, c23, c36, ev]
        exact ⟨by rw [ek, mR_n (by decide)], rfl, by rw [ek, mS_n (by decide)]⟩
    · skip
      replace c23 : (sIn b 1 10000) = false := bI_f c23
      refine wa_iconst (v := 2) F dX6_post_26 (by decide) ?_
      refine wa_goto (tgt := 44) F dX6_post_27 (by decide) ?_
      refine wa_callV F [] (c_X6_refused hst D TC H0 ad X S o 2) mw_X6_refused ml_X6_127 hm_m rfl rfl (Nat.le_of_ble_eq_true rfl) ⟨Nat.le_of_ble_eq_true rfl, Nat.le_of_ble_eq_true rfl⟩ ⟨Nat.le_of_ble_eq_true rfl, Nat.le_of_ble_eq_true rfl⟩ dX6_post_44 PR_ag (fun _ z => z.elim) ?_
      rintro _ _ _ ⟨rfl, rfl, rfl⟩
      rw [show (bI (decide (¬ (2 : Int32) = 0))) = 1 from rfl]
      refine wa_if_eq (tgt := 52) F dX6_post_47 (by decide) (fun z => absurd z (by decide)) (fun _ => ?_)
      refine wa_iconst (v := 0) F dX6_post_50 (by decide) ?_
      refine wa_iret F rfl (Nat.le_of_ble_eq_true rfl) (Nat.le_of_ble_eq_true rfl) dX6_post_51 ?_
      have ek : kPo S (nI jv) b = 2 := by simp [kPo, c8, c23, ev]
      exact ⟨by rw [ek, mR_n (by decide)], rfl, by rw [ek, mS_n (by decide)]⟩
  · skip
    replace c8 : (sIn v 0 (S 13 0 - 1)) = false := bI_f c8
    refine wa_iconst (v := 1) F dX6_post_11 (by decide) ?_
    refine wa_goto (tgt := 44) F dX6_post_12 (by decide) ?_
    refine wa_callV F [] (c_X6_refused hst D TC H0 ad X S o 1) mw_X6_refused ml_X6_127 hm_m rfl rfl (Nat.le_of_ble_eq_true rfl) ⟨Nat.le_of_ble_eq_true rfl, Nat.le_of_ble_eq_true rfl⟩ ⟨Nat.le_of_ble_eq_true rfl, Nat.le_of_ble_eq_true rfl⟩ dX6_post_44 PR_ag (fun _ z => z.elim) ?_
    rintro _ _ _ ⟨rfl, rfl, rfl⟩
    rw [show (bI (decide (¬ (1 : Int32) = 0))) = 1 from rfl]
    refine wa_if_eq (tgt := 52) F dX6_post_47 (by decide) (fun z => absurd z (by decide)) (fun _ => ?_)
    refine wa_iconst (v := 0) F dX6_post_50 (by decide) ?_
    refine wa_iret F rfl (Nat.le_of_ble_eq_true rfl) (Nat.le_of_ble_eq_true rfl) dX6_post_51 ?_
    have ek : kPo S v b = 1 := by simp [kPo, c8]
    exact ⟨by rw [ek, mR_n (by decide)], rfl, by rw [ek, mS_n (by decide)]⟩
set_option maxHeartbeats 2000000 in
set_option maxRecDepth 20000 in
theorem c_X6_sample {l : Launch} (hst : l.stackTraces = false) (D : va_G) (TC : Nat → ClassId) (H0 : Heap) (ad : Nat → Nat) (X S : St) (o : Nat → Int64) (v : Int32) (b : Int32) (t : Int32) (d : Int32) (n : Nat) (hi : INV n S) : CC l D (tysOf TC) H0 yX6_sample cX6_sample 6 (some .int) 6 0 0 [.ref 2, .int v, .int b, .int t, .int d] ad (hall TC X S o) (PR ad (some (.int (mR (kSa S v b t d) (rSa b t d)))) (hall TC X (mS (kSa S v b t d) (S) (uSa v b t d)) o)) (fun _ => False) := by
  refine cc_intro hst (by decide +kernel) (Nat.le_of_ble_eq_true rfl) ?_
  intro p e s m args below meth c F
  rw [show lv_args 0 [.ref 2, .int v, .int b, .int t, .int d] = [(0, .ref 2), (1, .int v), (2, .int b), (3, .int t), (4, .int d)] from rfl]
  obtain ⟨hc, hs, hp, hd0, hm, h7, h8, hbo0, hu0, hvr⟩ := id hi
  have hc2 := hc.2; have hs2 := hs.2; have hp2 := hp.2; have hd := hd0.2; have hm2 := hm.2
  refine wa_iload_n F dX6_sample_0 (i := 2) rfl 2 rfl ?_
  refine wa_iconst (v := 0) F dX6_sample_1 (by decide) ?_
  refine wa_ldc F ck_X6_196 dX6_sample_2 ?_
  refine wa_callS F [] (c_X6_in hst D (tysOf TC) H0 ad (hall TC X S o) b 0 100000) mw_X6_in ml_X6_111 rfl (Nat.le_of_ble_eq_true rfl) ⟨Nat.le_of_ble_eq_true rfl, Nat.le_of_ble_eq_true rfl⟩ ⟨Nat.le_of_ble_eq_true rfl, Nat.le_of_ble_eq_true rfl⟩ dX6_sample_4 PR_ag (fun _ z => z.elim) ?_
  rintro _ _ _ ⟨rfl, rfl, rfl⟩
  refine wa_if_eq (tgt := 36) F dX6_sample_7 (by decide) (fun c7 => ?_) (fun c7 => ?_)
  · skip
    replace c7 : (sIn b 0 100000) = false := bI_f c7
    refine wa_iconst (v := 0) F dX6_sample_36 (by decide) ?_
    refine wa_istore (lv' := [(5, .int 0), (0, .ref 2), (1, .int v), (2, .int b), (3, .int t), (4, .int d)]) F dX6_sample_37 (by decide) rfl ?_
    refine wa_aload_n F dX6_sample_39 (i := 0) rfl 1 rfl ?_
    refine wa_aload_n F dX6_sample_40 (i := 0) rfl 1 rfl ?_
    refine wa_iload_n F dX6_sample_41 (i := 1) rfl 2 rfl ?_
    refine wa_callV F [.ref 2] (c_X6_isBatch hst D TC H0 ad X S o v) mw_X6_isBatch ml_X6_197 hm_m rfl rfl (Nat.le_of_ble_eq_true rfl) ⟨Nat.le_of_ble_eq_true rfl, Nat.le_of_ble_eq_true rfl⟩ ⟨Nat.le_of_ble_eq_true rfl, Nat.le_of_ble_eq_true rfl⟩ dX6_sample_42 PR_ag (fun _ z => z.elim) ?_
    rintro _ _ _ ⟨rfl, rfl, rfl⟩
    refine wa_if_ne (tgt := 52) F dX6_sample_45 (by decide) (fun c45 => ?_) (fun c45 => ?_)
    · skip
      replace c45 : (sIn v 0 (S 28 0 - 1)) = true := bI_t c45
      obtain ⟨jv, lv, rfl⟩ := sIn_nat hm.1 (by omega) c45
      have ev : tn (nI jv) = jv := tn_nI (by omega)
      have hu := ne0_of_toInt (hu0 jv lv).1
      refine wa_iload F dX6_sample_52 0 rfl ?_
      refine wa_if_ne (tgt := 61) F dX6_sample_54 (by decide) (fun z => absurd (by decide) z) (fun _ => ?_)
      refine wa_iconst (v := 2) F dX6_sample_57 (by decide) ?_
      refine wa_goto (tgt := 62) F dX6_sample_58 (by decide) ?_
      refine wa_callV F [] (c_X6_refused hst D TC H0 ad X S o 2) mw_X6_refused ml_X6_127 hm_m rfl rfl (Nat.le_of_ble_eq_true rfl) ⟨Nat.le_of_ble_eq_true rfl, Nat.le_of_ble_eq_true rfl⟩ ⟨Nat.le_of_ble_eq_true rfl, Nat.le_of_ble_eq_true rfl⟩ dX6_sample_62 PR_ag (fun _ z => z.elim) ?_
      rintro _ _ _ ⟨rfl, rfl, rfl⟩
      rw [show (bI (decide (¬ (2 : Int32) = 0))) = 1 from rfl]
      refine wa_if_eq (tgt := 70) F dX6_sample_65 (by decide) (fun z => absurd z (by decide)) (fun _ => ?_)
      refine wa_iconst (v := 0) F dX6_sample_68 (by decide) ?_
      refine wa_iret F rfl (Nat.le_of_ble_eq_true rfl) (Nat.le_of_ble_eq_true rfl) dX6_sample_69 ?_
      have ek : kSa S (nI jv) b t d = 2 := by simp [kSa, c7, c45, ev]
      exact ⟨by rw [ek, mR_n (by decide)], rfl, by rw [ek, mS_n (by decide)]⟩
    · skip
      replace c45 : (sIn v 0 (S 28 0 - 1)) = false := bI_f c45
      refine wa_iconst (v := 1) F dX6_sample_48 (by decide) ?_
      refine wa_goto (tgt := 62) F dX6_sample_49 (by decide) ?_
      refine wa_callV F [] (c_X6_refused hst D TC H0 ad X S o 1) mw_X6_refused ml_X6_127 hm_m rfl rfl (Nat.le_of_ble_eq_true rfl) ⟨Nat.le_of_ble_eq_true rfl, Nat.le_of_ble_eq_true rfl⟩ ⟨Nat.le_of_ble_eq_true rfl, Nat.le_of_ble_eq_true rfl⟩ dX6_sample_62 PR_ag (fun _ z => z.elim) ?_
      rintro _ _ _ ⟨rfl, rfl, rfl⟩
      rw [show (bI (decide (¬ (1 : Int32) = 0))) = 1 from rfl]
      refine wa_if_eq (tgt := 70) F dX6_sample_65 (by decide) (fun z => absurd z (by decide)) (fun _ => ?_)
      refine wa_iconst (v := 0) F dX6_sample_68 (by decide) ?_
      refine wa_iret F rfl (Nat.le_of_ble_eq_true rfl) (Nat.le_of_ble_eq_true rfl) dX6_sample_69 ?_
      have ek : kSa S v b t d = 1 := by simp [kSa, c7, c45]
      exact ⟨by rw [ek, mR_n (by decide)], rfl, by rw [ek, mS_n (by decide)]⟩
  · skip
    replace c7 : (sIn b 0 100000) = true := bI_t c7
    refine wa_iload_n F dX6_sample_10 (i := 3) rfl 3 rfl ?_
    refine wa_iconst (v := 0) F dX6_sample_11 (by decide) ?_
    refine wa_ldc F ck_X6_196 dX6_sample_12 ?_
    refine wa_callS F [] (c_X6_in hst D (tysOf TC) H0 ad (hall TC X S o) t 0 100000) mw_X6_in ml_X6_111 rfl (Nat.le_of_ble_eq_true rfl) ⟨Nat.le_of_ble_eq_true rfl, Nat.le_of_ble_eq_true rfl⟩ ⟨Nat.le_of_ble_eq_true rfl, Nat.le_of_ble_eq_true rfl⟩ dX6_sample_14 PR_ag (fun _ z => z.elim) ?_
    rintro _ _ _ ⟨rfl, rfl, rfl⟩
    refine wa_if_eq (tgt := 36) F dX6_sample_17 (by decide) (fun c17 => ?_) (fun c17 => ?_)
    · skip
      replace c17 : (sIn t 0 100000) = false := bI_f c17
      refine wa_iconst (v := 0) F dX6_sample_36 (by decide) ?_
      refine wa_istore (lv' := [(5, .int 0), (0, .ref 2), (1, .int v), (2, .int b), (3, .int t), (4, .int d)]) F dX6_sample_37 (by decide) rfl ?_
      refine wa_aload_n F dX6_sample_39 (i := 0) rfl 1 rfl ?_
      refine wa_aload_n F dX6_sample_40 (i := 0) rfl 1 rfl ?_
      refine wa_iload_n F dX6_sample_41 (i := 1) rfl 2 rfl ?_
      refine wa_callV F [.ref 2] (c_X6_isBatch hst D TC H0 ad X S o v) mw_X6_isBatch ml_X6_197 hm_m rfl rfl (Nat.le_of_ble_eq_true rfl) ⟨Nat.le_of_ble_eq_true rfl, Nat.le_of_ble_eq_true rfl⟩ ⟨Nat.le_of_ble_eq_true rfl, Nat.le_of_ble_eq_true rfl⟩ dX6_sample_42 PR_ag (fun _ z => z.elim) ?_
      rintro _ _ _ ⟨rfl, rfl, rfl⟩
      refine wa_if_ne (tgt := 52) F dX6_sample_45 (by decide) (fun c45 => ?_) (fun c45 => ?_)
      · skip
        replace c45 : (sIn v 0 (S 28 0 - 1)) = true := bI_t c45
        obtain ⟨jv, lv, rfl⟩ := sIn_nat hm.1 (by omega) c45
        have ev : tn (nI jv) = jv := tn_nI (by omega)
        have hu := ne0_of_toInt (hu0 jv lv).1
        refine wa_iload F dX6_sample_52 0 rfl ?_
        refine wa_if_ne (tgt := 61) F dX6_sample_54 (by decide) (fun z => absurd (by decide) z) (fun _ => ?_)
        refine wa_iconst (v := 2) F dX6_sample_57 (by decide) ?_
        refine wa_goto (tgt := 62) F dX6_sample_58 (by decide) ?_
        refine wa_callV F [] (c_X6_refused hst D TC H0 ad X S o 2) mw_X6_refused ml_X6_127 hm_m rfl rfl (Nat.le_of_ble_eq_true rfl) ⟨Nat.le_of_ble_eq_true rfl, Nat.le_of_ble_eq_true rfl⟩ ⟨Nat.le_of_ble_eq_true rfl, Nat.le_of_ble_eq_true rfl⟩ dX6_sample_62 PR_ag (fun _ z => z.elim) ?_
        rintro _ _ _ ⟨rfl, rfl, rfl⟩
        rw [show (bI (decide (¬ (2 : Int32) = 0))) = 1 from rfl]
        refine wa_if_eq (tgt := 70) F dX6_sample_65 (by decide) (fun z => absurd z (by decide)) (fun _ => ?_)
        refine wa_iconst (v := 0) F dX6_sample_68 (by decide) ?_
        refine wa_iret F rfl (Nat.le_of_ble_eq_true rfl) (Nat.le_of_ble_eq_true rfl) dX6_sample_69 ?_
        have ek : kSa S (nI jv) b t d = 2 := by simp [kSa, c7, c17, c45, ev]
        exact ⟨by rw [ek, mR_n (by decide)], rfl, by rw [ek, mS_n (by decide)]⟩
      · skip
        replace c45 : (sIn v 0 (S 28 0 - 1)) = false := bI_f c45
        refine wa_iconst (v := 1) F dX6_sample_48 (by decide) ?_
        refine wa_goto (tgt := 62) F dX6_sample_49 (by decide) ?_
        refine wa_callV F [] (c_X6_refused hst D TC H0 ad X S o 1) mw_X6_refused ml_X6_127 hm_m rfl rfl (Nat.le_of_ble_eq_true rfl) ⟨Nat.le_of_ble_eq_true rfl, Nat.le_of_ble_eq_true rfl⟩ ⟨Nat.le_of_ble_eq_true rfl, Nat.le_of_ble_eq_true rfl⟩ dX6_sample_62 PR_ag (fun _ z => z.elim) ?_
        rintro _ _ _ ⟨rfl, rfl, rfl⟩
        rw [show (bI (decide (¬ (1 : Int32) = 0))) = 1 from rfl]
        refine wa_if_eq (tgt := 70) F dX6_sample_65 (by decide) (fun z => absurd z (by decide)) (fun _ => ?_)
        refine wa_iconst (v := 0) F dX6_sample_68 (by decide) ?_
        refine wa_iret F rfl (Nat.le_of_ble_eq_true rfl) (Nat.le_of_ble_eq_true rfl) dX6_sample_69 ?_
        have ek : kSa S v b t d = 1 := by simp [kSa, c7, c17, c45]
        exact ⟨by rw [ek, mR_n (by decide)], rfl, by rw [ek, mS_n (by decide)]⟩
    · skip
      replace c17 : (sIn t 0 100000) = true := bI_t c17
      refine wa_iload F dX6_sample_20 4 rfl ?_
      refine wa_iconst (v := 0) F dX6_sample_22 (by decide) ?_
      refine wa_sipush (v := 10000) F dX6_sample_23 (by decide) ?_
      refine wa_callS F [] (c_X6_in hst D (tysOf TC) H0 ad (hall TC X S o) d 0 10000) mw_X6_in ml_X6_111 rfl (Nat.le_of_ble_eq_true rfl) ⟨Nat.le_of_ble_eq_true rfl, Nat.le_of_ble_eq_true rfl⟩ ⟨Nat.le_of_ble_eq_true rfl, Nat.le_of_ble_eq_true rfl⟩ dX6_sample_26 PR_ag (fun _ z => z.elim) ?_
      rintro _ _ _ ⟨rfl, rfl, rfl⟩
      refine wa_if_eq (tgt := 36) F dX6_sample_29 (by decide) (fun c29 => ?_) (fun c29 => ?_)
      · skip
        replace c29 : (sIn d 0 10000) = false := bI_f c29
        refine wa_iconst (v := 0) F dX6_sample_36 (by decide) ?_
        refine wa_istore (lv' := [(5, .int 0), (0, .ref 2), (1, .int v), (2, .int b), (3, .int t), (4, .int d)]) F dX6_sample_37 (by decide) rfl ?_
        refine wa_aload_n F dX6_sample_39 (i := 0) rfl 1 rfl ?_
        refine wa_aload_n F dX6_sample_40 (i := 0) rfl 1 rfl ?_
        refine wa_iload_n F dX6_sample_41 (i := 1) rfl 2 rfl ?_
        refine wa_callV F [.ref 2] (c_X6_isBatch hst D TC H0 ad X S o v) mw_X6_isBatch ml_X6_197 hm_m rfl rfl (Nat.le_of_ble_eq_true rfl) ⟨Nat.le_of_ble_eq_true rfl, Nat.le_of_ble_eq_true rfl⟩ ⟨Nat.le_of_ble_eq_true rfl, Nat.le_of_ble_eq_true rfl⟩ dX6_sample_42 PR_ag (fun _ z => z.elim) ?_
        rintro _ _ _ ⟨rfl, rfl, rfl⟩
        refine wa_if_ne (tgt := 52) F dX6_sample_45 (by decide) (fun c45 => ?_) (fun c45 => ?_)
        · skip
          replace c45 : (sIn v 0 (S 28 0 - 1)) = true := bI_t c45
          obtain ⟨jv, lv, rfl⟩ := sIn_nat hm.1 (by omega) c45
          have ev : tn (nI jv) = jv := tn_nI (by omega)
          have hu := ne0_of_toInt (hu0 jv lv).1
          refine wa_iload F dX6_sample_52 0 rfl ?_
          refine wa_if_ne (tgt := 61) F dX6_sample_54 (by decide) (fun z => absurd (by decide) z) (fun _ => ?_)
          refine wa_iconst (v := 2) F dX6_sample_57 (by decide) ?_
          refine wa_goto (tgt := 62) F dX6_sample_58 (by decide) ?_
          refine wa_callV F [] (c_X6_refused hst D TC H0 ad X S o 2) mw_X6_refused ml_X6_127 hm_m rfl rfl (Nat.le_of_ble_eq_true rfl) ⟨Nat.le_of_ble_eq_true rfl, Nat.le_of_ble_eq_true rfl⟩ ⟨Nat.le_of_ble_eq_true rfl, Nat.le_of_ble_eq_true rfl⟩ dX6_sample_62 PR_ag (fun _ z => z.elim) ?_
          rintro _ _ _ ⟨rfl, rfl, rfl⟩
          rw [show (bI (decide (¬ (2 : Int32) = 0))) = 1 from rfl]
          refine wa_if_eq (tgt := 70) F dX6_sample_65 (by decide) (fun z => absurd z (by decide)) (fun _ => ?_)
          refine wa_iconst (v := 0) F dX6_sample_68 (by decide) ?_
          refine wa_iret F rfl (Nat.le_of_ble_eq_true rfl) (Nat.le_of_ble_eq_true rfl) dX6_sample_69 ?_
          have ek : kSa S (nI jv) b t d = 2 := by simp [kSa, c7, c17, c29, c45, ev]
          exact ⟨by rw [ek, mR_n (by decide)], rfl, by rw [ek, mS_n (by decide)]⟩
        · skip
          replace c45 : (sIn v 0 (S 28 0 - 1)) = false := bI_f c45
          refine wa_iconst (v := 1) F dX6_sample_48 (by decide) ?_
          refine wa_goto (tgt := 62) F dX6_sample_49 (by decide) ?_
          refine wa_callV F [] (c_X6_refused hst D TC H0 ad X S o 1) mw_X6_refused ml_X6_127 hm_m rfl rfl (Nat.le_of_ble_eq_true rfl) ⟨Nat.le_of_ble_eq_true rfl, Nat.le_of_ble_eq_true rfl⟩ ⟨Nat.le_of_ble_eq_true rfl, Nat.le_of_ble_eq_true rfl⟩ dX6_sample_62 PR_ag (fun _ z => z.elim) ?_
          rintro _ _ _ ⟨rfl, rfl, rfl⟩
          rw [show (bI (decide (¬ (1 : Int32) = 0))) = 1 from rfl]
          refine wa_if_eq (tgt := 70) F dX6_sample_65 (by decide) (fun z => absurd z (by decide)) (fun _ => ?_)
          refine wa_iconst (v := 0) F dX6_sample_68 (by decide) ?_
          refine wa_iret F rfl (Nat.le_of_ble_eq_true rfl) (Nat.le_of_ble_eq_true rfl) dX6_sample_69 ?_
          have ek : kSa S v b t d = 1 := by simp [kSa, c7, c17, c29, c45]
          exact ⟨by rw [ek, mR_n (by decide)], rfl, by rw [ek, mS_n (by decide)]⟩
      · skip
        replace c29 : (sIn d 0 10000) = true := bI_t c29
        refine wa_iconst (v := 1) F dX6_sample_32 (by decide) ?_
        refine wa_goto (tgt := 37) F dX6_sample_33 (by decide) ?_
        refine wa_istore (lv' := [(5, .int 1), (0, .ref 2), (1, .int v), (2, .int b), (3, .int t), (4, .int d)]) F dX6_sample_37 (by decide) rfl ?_
        refine wa_aload_n F dX6_sample_39 (i := 0) rfl 1 rfl ?_
        refine wa_aload_n F dX6_sample_40 (i := 0) rfl 1 rfl ?_
        refine wa_iload_n F dX6_sample_41 (i := 1) rfl 2 rfl ?_
        refine wa_callV F [.ref 2] (c_X6_isBatch hst D TC H0 ad X S o v) mw_X6_isBatch ml_X6_197 hm_m rfl rfl (Nat.le_of_ble_eq_true rfl) ⟨Nat.le_of_ble_eq_true rfl, Nat.le_of_ble_eq_true rfl⟩ ⟨Nat.le_of_ble_eq_true rfl, Nat.le_of_ble_eq_true rfl⟩ dX6_sample_42 PR_ag (fun _ z => z.elim) ?_
        rintro _ _ _ ⟨rfl, rfl, rfl⟩
        refine wa_if_ne (tgt := 52) F dX6_sample_45 (by decide) (fun c45 => ?_) (fun c45 => ?_)
        · skip
          replace c45 : (sIn v 0 (S 28 0 - 1)) = true := bI_t c45
          obtain ⟨jv, lv, rfl⟩ := sIn_nat hm.1 (by omega) c45
          have ev : tn (nI jv) = jv := tn_nI (by omega)
          have hu := ne0_of_toInt (hu0 jv lv).1
          refine wa_iload F dX6_sample_52 0 rfl ?_
          refine wa_if_ne (tgt := 61) F dX6_sample_54 (by decide) (fun _ => ?_) (fun z => absurd z (by decide))
          refine wa_iconst (v := 0) F dX6_sample_61 (by decide) ?_
          refine wa_callV F [] (c_X6_refused hst D TC H0 ad X S o 0) mw_X6_refused ml_X6_127 hm_m rfl rfl (Nat.le_of_ble_eq_true rfl) ⟨Nat.le_of_ble_eq_true rfl, Nat.le_of_ble_eq_true rfl⟩ ⟨Nat.le_of_ble_eq_true rfl, Nat.le_of_ble_eq_true rfl⟩ dX6_sample_62 PR_ag (fun _ z => z.elim) ?_
          rintro _ _ _ ⟨rfl, rfl, rfl⟩
          rw [show (bI (decide (¬ (0 : Int32) = 0))) = 0 from rfl]
          refine wa_if_eq (tgt := 70) F dX6_sample_65 (by decide) (fun _ => ?_) (fun z => absurd (by decide) z)
          refine wa_aload_n F dX6_sample_70 (i := 0) rfl 1 rfl ?_
          refine wa_getf (v := .ref 135) F LY_X6 (hm_m (S := (sU S 0 0 0))) 35 (by decide) fl_X6_95 rfl dX6_sample_71 ?_
          refine wa_iload_n F dX6_sample_74 (i := 1) rfl 2 rfl ?_
          refine wa_iload_n F dX6_sample_75 (i := 2) rfl 3 rfl ?_
          refine wa_iload F dX6_sample_76 5 rfl ?_
          refine wa_isub F dX6_sample_78 ?_
          refine wa_iload_n F dX6_sample_79 (i := 3) rfl 4 rfl ?_
          refine wa_icmp_le (tgt := 87) F dX6_sample_80 (by decide) (fun c80 => ?_) (fun c80 => ?_)
          · skip
            refine wa_iload_n F dX6_sample_87 (i := 2) rfl 3 rfl ?_
            refine wa_iload F dX6_sample_88 5 rfl ?_
            refine wa_iadd F dX6_sample_90 ?_
            refine wa_iload_n F dX6_sample_91 (i := 3) rfl 4 rfl ?_
            refine wa_icmp_gt (tgt := 99) F dX6_sample_92 (by decide) (fun c92 => ?_) (fun c92 => ?_)
            · skip
              replace c92 := lt_nle c92
              refine wa_iconst (v := 1) F dX6_sample_99 (by decide) ?_
              refine wa_iast F 0 rfl (hm_35 (S := (sU S 0 0 0))) jv rfl (by omega) (by decide) dX6_sample_100 (hu_35 jv 1) ?_
              refine wa_aload_n F dX6_sample_101 (i := 0) rfl 1 rfl ?_
              refine wa_getf (v := .ref 135) F LY_X6 (hm_m (S := (sU (sU S 0 0 0) 35 jv 1))) 35 (by decide) fl_X6_95 rfl dX6_sample_102 ?_
              refine wa_iload_n F dX6_sample_105 (i := 1) rfl 2 rfl ?_
              refine wa_iald (f := (sU (sU S 0 0 0) 35 jv 1) 35) F 0 rfl (hm_35 (S := (sU (sU S 0 0 0) 35 jv 1))) jv rfl (by omega) (by decide) dX6_sample_106 ?_
              refine wa_iret F rfl (Nat.le_of_ble_eq_true rfl) (Nat.le_of_ble_eq_true rfl) dX6_sample_107 ?_
              have ek : kSa S (nI jv) b t d = 0 := by simp [kSa, c7, c17, c29, c45, c80, c92, ev]
              refine ⟨?_, rfl, ?_⟩
              · rw [ek, mR_0]
                refine congrArg (fun z => some (Value.int z)) ?_
                simp [rSa, sU, upd, c80, c92]
              · rw [ek, mS_0]
                unfold uSa; rw [ev, show rSa b t d = 1 from by simp [rSa, c80, c92]]
            · skip
              replace c92 := nlt_le c92
              refine wa_iconst (v := 0) F dX6_sample_95 (by decide) ?_
              refine wa_goto (tgt := 100) F dX6_sample_96 (by decide) ?_
              refine wa_iast F 0 rfl (hm_35 (S := (sU S 0 0 0))) jv rfl (by omega) (by decide) dX6_sample_100 (hu_35 jv 0) ?_
              refine wa_aload_n F dX6_sample_101 (i := 0) rfl 1 rfl ?_
              refine wa_getf (v := .ref 135) F LY_X6 (hm_m (S := (sU (sU S 0 0 0) 35 jv 0))) 35 (by decide) fl_X6_95 rfl dX6_sample_102 ?_
              refine wa_iload_n F dX6_sample_105 (i := 1) rfl 2 rfl ?_
              refine wa_iald (f := (sU (sU S 0 0 0) 35 jv 0) 35) F 0 rfl (hm_35 (S := (sU (sU S 0 0 0) 35 jv 0))) jv rfl (by omega) (by decide) dX6_sample_106 ?_
              refine wa_iret F rfl (Nat.le_of_ble_eq_true rfl) (Nat.le_of_ble_eq_true rfl) dX6_sample_107 ?_
              have ek : kSa S (nI jv) b t d = 0 := by simp [kSa, c7, c17, c29, c45, c80, c92, ev]
              refine ⟨?_, rfl, ?_⟩
              · rw [ek, mR_0]
                refine congrArg (fun z => some (Value.int z)) ?_
                simp [rSa, sU, upd, c80, c92]
              · rw [ek, mS_0]
                unfold uSa; rw [ev, show rSa b t d = 0 from by simp [rSa, c80, c92]]
          · skip
            refine wa_iconst (v := 2) F dX6_sample_83 (by decide) ?_
            refine wa_goto (tgt := 100) F dX6_sample_84 (by decide) ?_
            refine wa_iast F 0 rfl (hm_35 (S := (sU S 0 0 0))) jv rfl (by omega) (by decide) dX6_sample_100 (hu_35 jv 2) ?_
            refine wa_aload_n F dX6_sample_101 (i := 0) rfl 1 rfl ?_
            refine wa_getf (v := .ref 135) F LY_X6 (hm_m (S := (sU (sU S 0 0 0) 35 jv 2))) 35 (by decide) fl_X6_95 rfl dX6_sample_102 ?_
            refine wa_iload_n F dX6_sample_105 (i := 1) rfl 2 rfl ?_
            refine wa_iald (f := (sU (sU S 0 0 0) 35 jv 2) 35) F 0 rfl (hm_35 (S := (sU (sU S 0 0 0) 35 jv 2))) jv rfl (by omega) (by decide) dX6_sample_106 ?_
            refine wa_iret F rfl (Nat.le_of_ble_eq_true rfl) (Nat.le_of_ble_eq_true rfl) dX6_sample_107 ?_
            have ek : kSa S (nI jv) b t d = 0 := by simp [kSa, c7, c17, c29, c45, c80, ev]
            refine ⟨?_, rfl, ?_⟩
            · rw [ek, mR_0]
              refine congrArg (fun z => some (Value.int z)) ?_
              simp [rSa, sU, upd, c80]
            · rw [ek, mS_0]
              unfold uSa; rw [ev, show rSa b t d = 2 from by simp [rSa, c80]]
        · skip
          replace c45 : (sIn v 0 (S 28 0 - 1)) = false := bI_f c45
          refine wa_iconst (v := 1) F dX6_sample_48 (by decide) ?_
          refine wa_goto (tgt := 62) F dX6_sample_49 (by decide) ?_
          refine wa_callV F [] (c_X6_refused hst D TC H0 ad X S o 1) mw_X6_refused ml_X6_127 hm_m rfl rfl (Nat.le_of_ble_eq_true rfl) ⟨Nat.le_of_ble_eq_true rfl, Nat.le_of_ble_eq_true rfl⟩ ⟨Nat.le_of_ble_eq_true rfl, Nat.le_of_ble_eq_true rfl⟩ dX6_sample_62 PR_ag (fun _ z => z.elim) ?_
          rintro _ _ _ ⟨rfl, rfl, rfl⟩
          rw [show (bI (decide (¬ (1 : Int32) = 0))) = 1 from rfl]
          refine wa_if_eq (tgt := 70) F dX6_sample_65 (by decide) (fun z => absurd z (by decide)) (fun _ => ?_)
          refine wa_iconst (v := 0) F dX6_sample_68 (by decide) ?_
          refine wa_iret F rfl (Nat.le_of_ble_eq_true rfl) (Nat.le_of_ble_eq_true rfl) dX6_sample_69 ?_
          have ek : kSa S v b t d = 1 := by simp [kSa, c7, c17, c29, c45]
          exact ⟨by rw [ek, mR_n (by decide)], rfl, by rw [ek, mS_n (by decide)]⟩
set_option maxHeartbeats 2000000 in
set_option maxRecDepth 20000 in
theorem c_X6_event {l : Launch} (hst : l.stackTraces = false) (D : va_G) (TC : Nat → ClassId) (H0 : Heap) (ad : Nat → Nat) (X S : St) (o : Nat → Int64) (v : Int32) (g : Int32) (b : Int32) (n : Nat) (hi : INV n S) : CC l D (tysOf TC) H0 yX6_event cX6_event 4 (some .int) 6 0 0 [.ref 2, .int v, .int g, .int b] ad (hall TC X S o) (PR ad (some (.int (mR (kEv S v g b) (rEv S v g b)))) (hall TC X (mS (kEv S v g b) (S) (uEv v g b)) o)) (fun _ => False) := by
  refine cc_intro hst (by decide +kernel) (Nat.le_of_ble_eq_true rfl) ?_
  intro p e s m args below meth c F
  rw [show lv_args 0 [.ref 2, .int v, .int g, .int b] = [(0, .ref 2), (1, .int v), (2, .int g), (3, .int b)] from rfl]
  obtain ⟨hc, hs, hp, hd0, hm, h7, h8, hbo0, hu0, hvr⟩ := id hi
  have hc2 := hc.2; have hs2 := hs.2; have hp2 := hp.2; have hd := hd0.2; have hm2 := hm.2
  refine wa_aload_n F dX6_event_0 (i := 0) rfl 0 rfl ?_
  refine wa_aload_n F dX6_event_1 (i := 0) rfl 0 rfl ?_
  refine wa_iload_n F dX6_event_2 (i := 1) rfl 1 rfl ?_
  refine wa_callV F [.ref 2] (c_X6_isBatch hst D TC H0 ad X S o v) mw_X6_isBatch ml_X6_197 hm_m rfl rfl (Nat.le_of_ble_eq_true rfl) ⟨Nat.le_of_ble_eq_true rfl, Nat.le_of_ble_eq_true rfl⟩ ⟨Nat.le_of_ble_eq_true rfl, Nat.le_of_ble_eq_true rfl⟩ dX6_event_3 PR_ag (fun _ z => z.elim) ?_
  rintro _ _ _ ⟨rfl, rfl, rfl⟩
  refine wa_if_ne (tgt := 13) F dX6_event_6 (by decide) (fun c6 => ?_) (fun c6 => ?_)
  · skip
    replace c6 : (sIn v 0 (S 28 0 - 1)) = true := bI_t c6
    obtain ⟨jv, lv, rfl⟩ := sIn_nat hm.1 (by omega) c6
    have ev : tn (nI jv) = jv := tn_nI (by omega)
    have hu := ne0_of_toInt (hu0 jv lv).1
    refine wa_iload_n F dX6_event_13 (i := 2) rfl 2 rfl ?_
    refine wa_iconst (v := 0) F dX6_event_14 (by decide) ?_
    refine wa_iconst (v := 3) F dX6_event_15 (by decide) ?_
    refine wa_callS F [.ref 2] (c_X6_in hst D (tysOf TC) H0 ad (hall TC X S o) g 0 3) mw_X6_in ml_X6_111 rfl (Nat.le_of_ble_eq_true rfl) ⟨Nat.le_of_ble_eq_true rfl, Nat.le_of_ble_eq_true rfl⟩ ⟨Nat.le_of_ble_eq_true rfl, Nat.le_of_ble_eq_true rfl⟩ dX6_event_16 PR_ag (fun _ z => z.elim) ?_
    rintro _ _ _ ⟨rfl, rfl, rfl⟩
    refine wa_if_eq (tgt := 33) F dX6_event_19 (by decide) (fun c19 => ?_) (fun c19 => ?_)
    · skip
      replace c19 : (sIn g 0 3) = false := bI_f c19
      refine wa_iconst (v := 2) F dX6_event_33 (by decide) ?_
      refine wa_goto (tgt := 38) F dX6_event_34 (by decide) ?_
      refine wa_callV F [] (c_X6_refused hst D TC H0 ad X S o 2) mw_X6_refused ml_X6_127 hm_m rfl rfl (Nat.le_of_ble_eq_true rfl) ⟨Nat.le_of_ble_eq_true rfl, Nat.le_of_ble_eq_true rfl⟩ ⟨Nat.le_of_ble_eq_true rfl, Nat.le_of_ble_eq_true rfl⟩ dX6_event_38 PR_ag (fun _ z => z.elim) ?_
      rintro _ _ _ ⟨rfl, rfl, rfl⟩
      rw [show (bI (decide (¬ (2 : Int32) = 0))) = 1 from rfl]
      refine wa_if_eq (tgt := 46) F dX6_event_41 (by decide) (fun z => absurd z (by decide)) (fun _ => ?_)
      refine wa_iconst (v := 0) F dX6_event_44 (by decide) ?_
      refine wa_iret F rfl (Nat.le_of_ble_eq_true rfl) (Nat.le_of_ble_eq_true rfl) dX6_event_45 ?_
      have ek : kEv S (nI jv) g b = 2 := by simp [kEv, c6, c19, ev]
      exact ⟨by rw [ek, mR_n (by decide)], rfl, by rw [ek, mS_n (by decide)]⟩
    · skip
      replace c19 : (sIn g 0 3) = true := bI_t c19
      refine wa_iload_n F dX6_event_22 (i := 3) rfl 3 rfl ?_
      refine wa_iconst (v := 1) F dX6_event_23 (by decide) ?_
      refine wa_sipush (v := 1000) F dX6_event_24 (by decide) ?_
      refine wa_callS F [.ref 2] (c_X6_in hst D (tysOf TC) H0 ad (hall TC X S o) b 1 1000) mw_X6_in ml_X6_111 rfl (Nat.le_of_ble_eq_true rfl) ⟨Nat.le_of_ble_eq_true rfl, Nat.le_of_ble_eq_true rfl⟩ ⟨Nat.le_of_ble_eq_true rfl, Nat.le_of_ble_eq_true rfl⟩ dX6_event_27 PR_ag (fun _ z => z.elim) ?_
      rintro _ _ _ ⟨rfl, rfl, rfl⟩
      refine wa_if_ne (tgt := 37) F dX6_event_30 (by decide) (fun c30 => ?_) (fun c30 => ?_)
      · skip
        replace c30 : (sIn b 1 1000) = true := bI_t c30
        refine wa_iconst (v := 0) F dX6_event_37 (by decide) ?_
        refine wa_callV F [] (c_X6_refused hst D TC H0 ad X S o 0) mw_X6_refused ml_X6_127 hm_m rfl rfl (Nat.le_of_ble_eq_true rfl) ⟨Nat.le_of_ble_eq_true rfl, Nat.le_of_ble_eq_true rfl⟩ ⟨Nat.le_of_ble_eq_true rfl, Nat.le_of_ble_eq_true rfl⟩ dX6_event_38 PR_ag (fun _ z => z.elim) ?_
        rintro _ _ _ ⟨rfl, rfl, rfl⟩
        rw [show (bI (decide (¬ (0 : Int32) = 0))) = 0 from rfl]
        refine wa_if_eq (tgt := 46) F dX6_event_41 (by decide) (fun _ => ?_) (fun z => absurd (by decide) z)
        refine wa_aload_n F dX6_event_46 (i := 0) rfl 0 rfl ?_
        refine wa_getf (v := .ref 136) F LY_X6 (hm_m (S := (sU S 0 0 0))) 36 (by decide) fl_X6_98 rfl dX6_event_47 ?_
        refine wa_iload_n F dX6_event_50 (i := 1) rfl 1 rfl ?_
        refine wa_iload_n F dX6_event_51 (i := 2) rfl 2 rfl ?_
        refine wa_aload_n F dX6_event_52 (i := 0) rfl 0 rfl ?_
        refine wa_getf (v := .ref 136) F LY_X6 (hm_m (S := (sU S 0 0 0))) 36 (by decide) fl_X6_98 rfl dX6_event_53 ?_
        refine wa_iload_n F dX6_event_56 (i := 1) rfl 1 rfl ?_
        refine wa_iald (f := S 36) F 0 rfl (hm_36 (S := (sU S 0 0 0))) jv rfl (by omega) (by decide) dX6_event_57 ?_
        refine wa_icmp_le (tgt := 65) F dX6_event_58 (by decide) (fun c58 => ?_) (fun c58 => ?_)
        · skip
          refine wa_aload_n F dX6_event_65 (i := 0) rfl 0 rfl ?_
          refine wa_getf (v := .ref 136) F LY_X6 (hm_m (S := (sU S 0 0 0))) 36 (by decide) fl_X6_98 rfl dX6_event_66 ?_
          refine wa_iload_n F dX6_event_69 (i := 1) rfl 1 rfl ?_
          refine wa_iald (f := S 36) F 0 rfl (hm_36 (S := (sU S 0 0 0))) jv rfl (by omega) (by decide) dX6_event_70 ?_
          refine wa_iast F 0 rfl (hm_36 (S := (sU S 0 0 0))) jv rfl (by omega) (by decide) dX6_event_71 (hu_36 jv (S 36 jv)) ?_
          refine wa_aload_n F dX6_event_72 (i := 0) rfl 0 rfl ?_
          refine wa_getf (v := .ref 137) F LY_X6 (hm_m (S := (sU (sU S 0 0 0) 36 jv (S 36 jv)))) 37 (by decide) fl_X6_101 rfl dX6_event_73 ?_
          refine wa_iload_n F dX6_event_76 (i := 1) rfl 1 rfl ?_
          refine wa_dup2 F dX6_event_77 rfl rfl ?_
          refine wa_iald (f := S 37) F 0 rfl (hm_37 (S := (sU (sU S 0 0 0) 36 jv (S 36 jv)))) jv rfl (by omega) (by decide) dX6_event_78 ?_
          refine wa_iload_n F dX6_event_79 (i := 3) rfl 3 rfl ?_
          refine wa_iadd F dX6_event_80 ?_
          refine wa_iast F 0 rfl (hm_37 (S := (sU (sU S 0 0 0) 36 jv (S 36 jv)))) jv rfl (by omega) (by decide) dX6_event_81 (hu_37 jv ((S 37 jv) + b)) ?_
          refine wa_aload_n F dX6_event_82 (i := 0) rfl 0 rfl ?_
          refine wa_iload_n F dX6_event_83 (i := 1) rfl 1 rfl ?_
          refine wa_callV F [] (c_X6_levelOf hst D TC H0 ad X (sU (sU (sU S 0 0 0) 36 jv (S 36 jv)) 37 jv ((S 37 jv) + b)) o jv (by omega) hu) mw_X6_levelOf ml_X6_200 hm_m rfl rfl (Nat.le_of_ble_eq_true rfl) ⟨Nat.le_of_ble_eq_true rfl, Nat.le_of_ble_eq_true rfl⟩ ⟨Nat.le_of_ble_eq_true rfl, Nat.le_of_ble_eq_true rfl⟩ dX6_event_84 PR_ag (fun _ z => z.elim) ?_
          rintro _ _ _ ⟨rfl, rfl, rfl⟩
          refine wa_iret F rfl (Nat.le_of_ble_eq_true rfl) (Nat.le_of_ble_eq_true rfl) dX6_event_87 ?_
          have ek : kEv S (nI jv) g b = 0 := by simp [kEv, c6, c19, c30, c58, ev]
          refine ⟨?_, rfl, ?_⟩
          · rw [ek, mR_0]
            refine congrArg (fun z => some (Value.int z)) ?_
            unfold rEv uEv; rw [ev]; simp [c58]; rfl
          · rw [ek, mS_0]
            unfold uEv; rw [ev, show (if g ≤ (sU S 0 0 0) 36 jv then (sU S 0 0 0) 36 jv else g) = (S 36 jv) from by rw [show (sU S 0 0 0) 36 = S 36 from rfl]; simp [c58]]; rfl
        · skip
          refine wa_iload_n F dX6_event_61 (i := 2) rfl 2 rfl ?_
          refine wa_goto (tgt := 71) F dX6_event_62 (by decide) ?_
          refine wa_iast F 0 rfl (hm_36 (S := (sU S 0 0 0))) jv rfl (by omega) (by decide) dX6_event_71 (hu_36 jv g) ?_
          refine wa_aload_n F dX6_event_72 (i := 0) rfl 0 rfl ?_
          refine wa_getf (v := .ref 137) F LY_X6 (hm_m (S := (sU (sU S 0 0 0) 36 jv g))) 37 (by decide) fl_X6_101 rfl dX6_event_73 ?_
          refine wa_iload_n F dX6_event_76 (i := 1) rfl 1 rfl ?_
          refine wa_dup2 F dX6_event_77 rfl rfl ?_
          refine wa_iald (f := S 37) F 0 rfl (hm_37 (S := (sU (sU S 0 0 0) 36 jv g))) jv rfl (by omega) (by decide) dX6_event_78 ?_
          refine wa_iload_n F dX6_event_79 (i := 3) rfl 3 rfl ?_
          refine wa_iadd F dX6_event_80 ?_
          refine wa_iast F 0 rfl (hm_37 (S := (sU (sU S 0 0 0) 36 jv g))) jv rfl (by omega) (by decide) dX6_event_81 (hu_37 jv ((S 37 jv) + b)) ?_
          refine wa_aload_n F dX6_event_82 (i := 0) rfl 0 rfl ?_
          refine wa_iload_n F dX6_event_83 (i := 1) rfl 1 rfl ?_
          refine wa_callV F [] (c_X6_levelOf hst D TC H0 ad X (sU (sU (sU S 0 0 0) 36 jv g) 37 jv ((S 37 jv) + b)) o jv (by omega) hu) mw_X6_levelOf ml_X6_200 hm_m rfl rfl (Nat.le_of_ble_eq_true rfl) ⟨Nat.le_of_ble_eq_true rfl, Nat.le_of_ble_eq_true rfl⟩ ⟨Nat.le_of_ble_eq_true rfl, Nat.le_of_ble_eq_true rfl⟩ dX6_event_84 PR_ag (fun _ z => z.elim) ?_
          rintro _ _ _ ⟨rfl, rfl, rfl⟩
          refine wa_iret F rfl (Nat.le_of_ble_eq_true rfl) (Nat.le_of_ble_eq_true rfl) dX6_event_87 ?_
          have ek : kEv S (nI jv) g b = 0 := by simp [kEv, c6, c19, c30, c58, ev]
          refine ⟨?_, rfl, ?_⟩
          · rw [ek, mR_0]
            refine congrArg (fun z => some (Value.int z)) ?_
            unfold rEv uEv; rw [ev]; simp [c58]; rfl
          · rw [ek, mS_0]
            unfold uEv; rw [ev, show (if g ≤ (sU S 0 0 0) 36 jv then (sU S 0 0 0) 36 jv else g) = g from by rw [show (sU S 0 0 0) 36 = S 36 from rfl]; simp [c58]]; rfl
      · skip
        replace c30 : (sIn b 1 1000) = false := bI_f c30
        refine wa_iconst (v := 2) F dX6_event_33 (by decide) ?_
        refine wa_goto (tgt := 38) F dX6_event_34 (by decide) ?_
        refine wa_callV F [] (c_X6_refused hst D TC H0 ad X S o 2) mw_X6_refused ml_X6_127 hm_m rfl rfl (Nat.le_of_ble_eq_true rfl) ⟨Nat.le_of_ble_eq_true rfl, Nat.le_of_ble_eq_true rfl⟩ ⟨Nat.le_of_ble_eq_true rfl, Nat.le_of_ble_eq_true rfl⟩ dX6_event_38 PR_ag (fun _ z => z.elim) ?_
        rintro _ _ _ ⟨rfl, rfl, rfl⟩
        rw [show (bI (decide (¬ (2 : Int32) = 0))) = 1 from rfl]
        refine wa_if_eq (tgt := 46) F dX6_event_41 (by decide) (fun z => absurd z (by decide)) (fun _ => ?_)
        refine wa_iconst (v := 0) F dX6_event_44 (by decide) ?_
        refine wa_iret F rfl (Nat.le_of_ble_eq_true rfl) (Nat.le_of_ble_eq_true rfl) dX6_event_45 ?_
        have ek : kEv S (nI jv) g b = 2 := by simp [kEv, c6, c19, c30, ev]
        exact ⟨by rw [ek, mR_n (by decide)], rfl, by rw [ek, mS_n (by decide)]⟩
  · skip
    replace c6 : (sIn v 0 (S 28 0 - 1)) = false := bI_f c6
    refine wa_iconst (v := 1) F dX6_event_9 (by decide) ?_
    refine wa_goto (tgt := 38) F dX6_event_10 (by decide) ?_
    refine wa_callV F [] (c_X6_refused hst D TC H0 ad X S o 1) mw_X6_refused ml_X6_127 hm_m rfl rfl (Nat.le_of_ble_eq_true rfl) ⟨Nat.le_of_ble_eq_true rfl, Nat.le_of_ble_eq_true rfl⟩ ⟨Nat.le_of_ble_eq_true rfl, Nat.le_of_ble_eq_true rfl⟩ dX6_event_38 PR_ag (fun _ z => z.elim) ?_
    rintro _ _ _ ⟨rfl, rfl, rfl⟩
    rw [show (bI (decide (¬ (1 : Int32) = 0))) = 1 from rfl]
    refine wa_if_eq (tgt := 46) F dX6_event_41 (by decide) (fun z => absurd z (by decide)) (fun _ => ?_)
    refine wa_iconst (v := 0) F dX6_event_44 (by decide) ?_
    refine wa_iret F rfl (Nat.le_of_ble_eq_true rfl) (Nat.le_of_ble_eq_true rfl) dX6_event_45 ?_
    have ek : kEv S v g b = 1 := by simp [kEv, c6]
    exact ⟨by rw [ek, mR_n (by decide)], rfl, by rw [ek, mS_n (by decide)]⟩
set_option maxHeartbeats 2000000 in
set_option maxRecDepth 20000 in
theorem c_X6_ban {l : Launch} (hst : l.stackTraces = false) (D : va_G) (TC : Nat → ClassId) (H0 : Heap) (ad : Nat → Nat) (X S : St) (o : Nat → Int64) (w : Int32) (v : Int32) (q : Bool) (n : Nat) (hi : INV n S) : CC l D (tysOf TC) H0 yX6_ban cX6_ban 5 (some .int) 6 0 0 [.ref 2, .int w, .int v, .int (bI q)] ad (hall TC X S o) (PR ad (some (.int (mR (kBa S w v) (rBa S w v q)))) (hall TC X (mS (kBa S w v) (S) (uBa w v q)) o)) (fun _ => False) := by
  refine cc_intro hst (by decide +kernel) (Nat.le_of_ble_eq_true rfl) ?_
  intro p e s m args below meth c F
  rw [show lv_args 0 [.ref 2, .int w, .int v, .int (bI q)] = [(0, .ref 2), (1, .int w), (2, .int v), (3, .int (bI q))] from rfl]
  obtain ⟨hc, hs, hp, hd0, hm, h7, h8, hbo0, hu0, hvr⟩ := id hi
  have hc2 := hc.2; have hs2 := hs.2; have hp2 := hp.2; have hd := hd0.2; have hm2 := hm.2
  refine wa_iload_n F dX6_ban_0 (i := 1) rfl 1 rfl ?_
  refine wa_iconst (v := 0) F dX6_ban_1 (by decide) ?_
  refine wa_iconst (v := 4) F dX6_ban_2 (by decide) ?_
  refine wa_callS F [] (c_X6_in hst D (tysOf TC) H0 ad (hall TC X S o) w 0 4) mw_X6_in ml_X6_111 rfl (Nat.le_of_ble_eq_true rfl) ⟨Nat.le_of_ble_eq_true rfl, Nat.le_of_ble_eq_true rfl⟩ ⟨Nat.le_of_ble_eq_true rfl, Nat.le_of_ble_eq_true rfl⟩ dX6_ban_3 PR_ag (fun _ z => z.elim) ?_
  rintro _ _ _ ⟨rfl, rfl, rfl⟩
  refine wa_if_eq (tgt := 21) F dX6_ban_6 (by decide) (fun c6 => ?_) (fun c6 => ?_)
  · skip
    replace c6 : (sIn w 0 4) = false := bI_f c6
    refine wa_iconst (v := 0) F dX6_ban_21 (by decide) ?_
    refine wa_istore (lv' := [(4, .int 0), (0, .ref 2), (1, .int w), (2, .int v), (3, .int (bI q))]) F dX6_ban_22 (by decide) rfl ?_
    refine wa_aload_n F dX6_ban_24 (i := 0) rfl 1 rfl ?_
    refine wa_iload F dX6_ban_25 0 rfl ?_
    refine wa_if_eq (tgt := 34) F dX6_ban_27 (by decide) (fun _ => ?_) (fun z => absurd (by decide) z)
    refine wa_iconst (v := 1) F dX6_ban_34 (by decide) ?_
    refine wa_callV F [] (c_X6_refused hst D TC H0 ad X S o 1) mw_X6_refused ml_X6_127 hm_m rfl rfl (Nat.le_of_ble_eq_true rfl) ⟨Nat.le_of_ble_eq_true rfl, Nat.le_of_ble_eq_true rfl⟩ ⟨Nat.le_of_ble_eq_true rfl, Nat.le_of_ble_eq_true rfl⟩ dX6_ban_35 PR_ag (fun _ z => z.elim) ?_
    rintro _ _ _ ⟨rfl, rfl, rfl⟩
    rw [show (bI (decide (¬ (1 : Int32) = 0))) = 1 from rfl]
    refine wa_if_eq (tgt := 43) F dX6_ban_38 (by decide) (fun z => absurd z (by decide)) (fun _ => ?_)
    refine wa_iconst (v := 0) F dX6_ban_41 (by decide) ?_
    refine wa_iret F rfl (Nat.le_of_ble_eq_true rfl) (Nat.le_of_ble_eq_true rfl) dX6_ban_42 ?_
    have ek : kBa S w v = 1 := by simp [kBa, c6]
    exact ⟨by rw [ek, mR_n (by decide)], rfl, by rw [ek, mS_n (by decide)]⟩
  · skip
    replace c6 : (sIn w 0 4) = true := bI_t c6
    obtain ⟨jw, lw, rfl⟩ := sIn_lit (n := 4) (by decide) c6
    have ew : tn (nI jw) = jw := tn_nI (by omega)
    refine wa_aload_n F dX6_ban_9 (i := 0) rfl 0 rfl ?_
    refine wa_iload_n F dX6_ban_10 (i := 2) rfl 2 rfl ?_
    refine wa_callV F [] (c_X6_isProduct hst D TC H0 ad X S o v) mw_X6_isProduct ml_X6_145 hm_m rfl rfl (Nat.le_of_ble_eq_true rfl) ⟨Nat.le_of_ble_eq_true rfl, Nat.le_of_ble_eq_true rfl⟩ ⟨Nat.le_of_ble_eq_true rfl, Nat.le_of_ble_eq_true rfl⟩ dX6_ban_11 PR_ag (fun _ z => z.elim) ?_
    rintro _ _ _ ⟨rfl, rfl, rfl⟩
    refine wa_if_eq (tgt := 21) F dX6_ban_14 (by decide) (fun c14 => ?_) (fun c14 => ?_)
    · skip
      replace c14 : (sIn v 0 (S 13 0 - 1)) = false := bI_f c14
      refine wa_iconst (v := 0) F dX6_ban_21 (by decide) ?_
      refine wa_istore (lv' := [(4, .int 0), (0, .ref 2), (1, .int (nI jw)), (2, .int v), (3, .int (bI q))]) F dX6_ban_22 (by decide) rfl ?_
      refine wa_aload_n F dX6_ban_24 (i := 0) rfl 1 rfl ?_
      refine wa_iload F dX6_ban_25 0 rfl ?_
      refine wa_if_eq (tgt := 34) F dX6_ban_27 (by decide) (fun _ => ?_) (fun z => absurd (by decide) z)
      refine wa_iconst (v := 1) F dX6_ban_34 (by decide) ?_
      refine wa_callV F [] (c_X6_refused hst D TC H0 ad X S o 1) mw_X6_refused ml_X6_127 hm_m rfl rfl (Nat.le_of_ble_eq_true rfl) ⟨Nat.le_of_ble_eq_true rfl, Nat.le_of_ble_eq_true rfl⟩ ⟨Nat.le_of_ble_eq_true rfl, Nat.le_of_ble_eq_true rfl⟩ dX6_ban_35 PR_ag (fun _ z => z.elim) ?_
      rintro _ _ _ ⟨rfl, rfl, rfl⟩
      rw [show (bI (decide (¬ (1 : Int32) = 0))) = 1 from rfl]
      refine wa_if_eq (tgt := 43) F dX6_ban_38 (by decide) (fun z => absurd z (by decide)) (fun _ => ?_)
      refine wa_iconst (v := 0) F dX6_ban_41 (by decide) ?_
      refine wa_iret F rfl (Nat.le_of_ble_eq_true rfl) (Nat.le_of_ble_eq_true rfl) dX6_ban_42 ?_
      have ek : kBa S (nI jw) v = 1 := by simp [kBa, c6, c14, ew]
      exact ⟨by rw [ek, mR_n (by decide)], rfl, by rw [ek, mS_n (by decide)]⟩
    · skip
      replace c14 : (sIn v 0 (S 13 0 - 1)) = true := bI_t c14
      obtain ⟨jv, lv, rfl⟩ := sIn_nat hp.1 (by omega) c14
      have ev : tn (nI jv) = jv := tn_nI (by omega)
      refine wa_iconst (v := 1) F dX6_ban_17 (by decide) ?_
      refine wa_goto (tgt := 22) F dX6_ban_18 (by decide) ?_
      refine wa_istore (lv' := [(4, .int 1), (0, .ref 2), (1, .int (nI jw)), (2, .int (nI jv)), (3, .int (bI q))]) F dX6_ban_22 (by decide) rfl ?_
      refine wa_aload_n F dX6_ban_24 (i := 0) rfl 1 rfl ?_
      refine wa_iload F dX6_ban_25 0 rfl ?_
      refine wa_if_eq (tgt := 34) F dX6_ban_27 (by decide) (fun z => absurd z (by decide)) (fun _ => ?_)
      refine wa_iconst (v := 0) F dX6_ban_30 (by decide) ?_
      refine wa_goto (tgt := 35) F dX6_ban_31 (by decide) ?_
      refine wa_callV F [] (c_X6_refused hst D TC H0 ad X S o 0) mw_X6_refused ml_X6_127 hm_m rfl rfl (Nat.le_of_ble_eq_true rfl) ⟨Nat.le_of_ble_eq_true rfl, Nat.le_of_ble_eq_true rfl⟩ ⟨Nat.le_of_ble_eq_true rfl, Nat.le_of_ble_eq_true rfl⟩ dX6_ban_35 PR_ag (fun _ z => z.elim) ?_
      rintro _ _ _ ⟨rfl, rfl, rfl⟩
      rw [show (bI (decide (¬ (0 : Int32) = 0))) = 0 from rfl]
      refine wa_if_eq (tgt := 43) F dX6_ban_38 (by decide) (fun _ => ?_) (fun z => absurd (by decide) z)
      refine wa_aload_n F dX6_ban_43 (i := 0) rfl 1 rfl ?_
      refine wa_getf (v := .ref 124) F LY_X6 (hm_m (S := (sU S 0 0 0))) 24 (by decide) fl_X6_68 rfl dX6_ban_44 ?_
      refine wa_iload_n F dX6_ban_47 (i := 2) rfl 3 rfl ?_
      refine wa_iload_n F dX6_ban_48 (i := 3) rfl 4 rfl ?_
      refine wa_if_eq (tgt := 65) F dX6_ban_49 (by decide) (fun c49 => ?_) (fun c49 => ?_)
      · skip
        replace c49 : q = false := bI_f c49
        refine wa_aload_n F dX6_ban_65 (i := 0) rfl 1 rfl ?_
        refine wa_getf (v := .ref 124) F LY_X6 (hm_m (S := (sU S 0 0 0))) 24 (by decide) fl_X6_68 rfl dX6_ban_66 ?_
        refine wa_iload_n F dX6_ban_69 (i := 2) rfl 3 rfl ?_
        refine wa_iald (f := S 24) F 0 rfl (hm_24 (S := (sU S 0 0 0))) jv rfl (by omega) (by decide) dX6_ban_70 ?_
        refine wa_iconst (v := 1) F dX6_ban_71 (by decide) ?_
        refine wa_iload_n F dX6_ban_72 (i := 1) rfl 2 rfl ?_
        refine wa_ishl F dX6_ban_73 ?_
        refine wa_iconst (v := (-1)) F dX6_ban_74 (by decide) ?_
        refine wa_ixor F dX6_ban_75 ?_
        refine wa_iand F dX6_ban_76 ?_
        refine wa_iast F 0 rfl (hm_24 (S := (sU S 0 0 0))) jv rfl (by omega) (by decide) dX6_ban_77 (hu_24 jv ((S 24 jv) &&& ((1 <<< ((nI jw) &&& 31)) ^^^ (-1)))) ?_
        refine wa_aload_n F dX6_ban_78 (i := 0) rfl 1 rfl ?_
        refine wa_getf (v := .ref 124) F LY_X6 (hm_m (S := (sU (sU S 0 0 0) 24 jv ((S 24 jv) &&& ((1 <<< ((nI jw) &&& 31)) ^^^ (-1)))))) 24 (by decide) fl_X6_68 rfl dX6_ban_79 ?_
        refine wa_iload_n F dX6_ban_82 (i := 2) rfl 3 rfl ?_
        refine wa_iald (f := (sU (sU S 0 0 0) 24 jv ((S 24 jv) &&& ((1 <<< ((nI jw) &&& 31)) ^^^ (-1)))) 24) F 0 rfl (hm_24 (S := (sU (sU S 0 0 0) 24 jv ((S 24 jv) &&& ((1 <<< ((nI jw) &&& 31)) ^^^ (-1)))))) jv rfl (by omega) (by decide) dX6_ban_83 ?_
        refine wa_callS F [] (c_X6_bits hst D (tysOf TC) H0 ad (hall TC X (sU (sU S 0 0 0) 24 jv ((S 24 jv) &&& ((1 <<< ((nI jw) &&& 31)) ^^^ (-1)))) o) ((sU (sU S 0 0 0) 24 jv ((S 24 jv) &&& ((1 <<< ((nI jw) &&& 31)) ^^^ (-1)))) 24 jv)) mw_X6_bits ml_X6_174 rfl (Nat.le_of_ble_eq_true rfl) ⟨Nat.le_of_ble_eq_true rfl, Nat.le_of_ble_eq_true rfl⟩ ⟨Nat.le_of_ble_eq_true rfl, Nat.le_of_ble_eq_true rfl⟩ dX6_ban_84 PR_ag (fun _ z => z.elim) ?_
        rintro _ _ _ ⟨rfl, rfl, rfl⟩
        refine wa_iret F rfl (Nat.le_of_ble_eq_true rfl) (Nat.le_of_ble_eq_true rfl) dX6_ban_87 ?_
        have ek : kBa S (nI jw) (nI jv) = 0 := by simp [kBa, c6, c14, c49, ew, ev]
        refine ⟨?_, rfl, ?_⟩
        · rw [ek, mR_0]
          refine congrArg (fun z => some (Value.int z)) ?_
          unfold rBa nBa; rw [ev]; simp [sU, upd, c49]
        · rw [ek, mS_0]
          unfold uBa; rw [ev, show nBa (sU S 0 0 0) (nI jw) (nI jv) q = ((S 24 jv) &&& ((1 <<< ((nI jw) &&& 31)) ^^^ (-1))) from by unfold nBa; rw [ev, c49]; rfl]
      · skip
        replace c49 : q = true := bI_t c49
        refine wa_aload_n F dX6_ban_52 (i := 0) rfl 1 rfl ?_
        refine wa_getf (v := .ref 124) F LY_X6 (hm_m (S := (sU S 0 0 0))) 24 (by decide) fl_X6_68 rfl dX6_ban_53 ?_
        refine wa_iload_n F dX6_ban_56 (i := 2) rfl 3 rfl ?_
        refine wa_iald (f := S 24) F 0 rfl (hm_24 (S := (sU S 0 0 0))) jv rfl (by omega) (by decide) dX6_ban_57 ?_
        refine wa_iconst (v := 1) F dX6_ban_58 (by decide) ?_
        refine wa_iload_n F dX6_ban_59 (i := 1) rfl 2 rfl ?_
        refine wa_ishl F dX6_ban_60 ?_
        refine wa_ior F dX6_ban_61 ?_
        refine wa_goto (tgt := 77) F dX6_ban_62 (by decide) ?_
        refine wa_iast F 0 rfl (hm_24 (S := (sU S 0 0 0))) jv rfl (by omega) (by decide) dX6_ban_77 (hu_24 jv ((S 24 jv) ||| (1 <<< ((nI jw) &&& 31)))) ?_
        refine wa_aload_n F dX6_ban_78 (i := 0) rfl 1 rfl ?_
        refine wa_getf (v := .ref 124) F LY_X6 (hm_m (S := (sU (sU S 0 0 0) 24 jv ((S 24 jv) ||| (1 <<< ((nI jw) &&& 31)))))) 24 (by decide) fl_X6_68 rfl dX6_ban_79 ?_
        refine wa_iload_n F dX6_ban_82 (i := 2) rfl 3 rfl ?_
        refine wa_iald (f := (sU (sU S 0 0 0) 24 jv ((S 24 jv) ||| (1 <<< ((nI jw) &&& 31)))) 24) F 0 rfl (hm_24 (S := (sU (sU S 0 0 0) 24 jv ((S 24 jv) ||| (1 <<< ((nI jw) &&& 31)))))) jv rfl (by omega) (by decide) dX6_ban_83 ?_
        refine wa_callS F [] (c_X6_bits hst D (tysOf TC) H0 ad (hall TC X (sU (sU S 0 0 0) 24 jv ((S 24 jv) ||| (1 <<< ((nI jw) &&& 31)))) o) ((sU (sU S 0 0 0) 24 jv ((S 24 jv) ||| (1 <<< ((nI jw) &&& 31)))) 24 jv)) mw_X6_bits ml_X6_174 rfl (Nat.le_of_ble_eq_true rfl) ⟨Nat.le_of_ble_eq_true rfl, Nat.le_of_ble_eq_true rfl⟩ ⟨Nat.le_of_ble_eq_true rfl, Nat.le_of_ble_eq_true rfl⟩ dX6_ban_84 PR_ag (fun _ z => z.elim) ?_
        rintro _ _ _ ⟨rfl, rfl, rfl⟩
        refine wa_iret F rfl (Nat.le_of_ble_eq_true rfl) (Nat.le_of_ble_eq_true rfl) dX6_ban_87 ?_
        have ek : kBa S (nI jw) (nI jv) = 0 := by simp [kBa, c6, c14, c49, ew, ev]
        refine ⟨?_, rfl, ?_⟩
        · rw [ek, mR_0]
          refine congrArg (fun z => some (Value.int z)) ?_
          unfold rBa nBa; rw [ev]; simp [sU, upd, c49]
        · rw [ek, mS_0]
          unfold uBa; rw [ev, show nBa (sU S 0 0 0) (nI jw) (nI jv) q = ((S 24 jv) ||| (1 <<< ((nI jw) &&& 31))) from by unfold nBa; rw [ev, c49]; rfl]
set_option maxHeartbeats 2000000 in
set_option maxRecDepth 20000 in
theorem c_X6_pass {l : Launch} (hst : l.stackTraces = false) (D : va_G) (TC : Nat → ClassId) (H0 : Heap) (ad : Nat → Nat) (X S : St) (o : Nat → Int64) (d : Int32) (n : Nat) (hi : INV n S) : CC l D (tysOf TC) H0 yX6_pass cX6_pass 2 (some .int) 6 0 0 [.ref 2, .int d] ad (hall TC X S o) (PR ad (some (.int (mR (kPa S d) (rPa S d)))) (hall TC X (mS (kPa S d) (S) (uPa d)) o)) (fun _ => False) := by
  refine cc_intro hst (by decide +kernel) (Nat.le_of_ble_eq_true rfl) ?_
  intro p e s m args below meth c F
  rw [show lv_args 0 [.ref 2, .int d] = [(0, .ref 2), (1, .int d)] from rfl]
  obtain ⟨hc, hs, hp, hd0, hm, h7, h8, hbo0, hu0, hvr⟩ := id hi
  have hc2 := hc.2; have hs2 := hs.2; have hp2 := hp.2; have hd := hd0.2; have hm2 := hm.2
  refine wa_aload_n F dX6_pass_0 (i := 0) rfl 0 rfl ?_
  refine wa_iload_n F dX6_pass_1 (i := 1) rfl 1 rfl ?_
  refine wa_iconst (v := 1) F dX6_pass_2 (by decide) ?_
  refine wa_sipush (v := 500) F dX6_pass_3 (by decide) ?_
  refine wa_callS F [.ref 2] (c_X6_in hst D (tysOf TC) H0 ad (hall TC X S o) d 1 500) mw_X6_in ml_X6_111 rfl (Nat.le_of_ble_eq_true rfl) ⟨Nat.le_of_ble_eq_true rfl, Nat.le_of_ble_eq_true rfl⟩ ⟨Nat.le_of_ble_eq_true rfl, Nat.le_of_ble_eq_true rfl⟩ dX6_pass_6 PR_ag (fun _ z => z.elim) ?_
  rintro _ _ _ ⟨rfl, rfl, rfl⟩
  refine wa_if_ne (tgt := 16) F dX6_pass_9 (by decide) (fun c9 => ?_) (fun c9 => ?_)
  · skip
    replace c9 : (sIn d 1 500) = true := bI_t c9
    refine wa_aload_n F dX6_pass_16 (i := 0) rfl 0 rfl ?_
    refine wa_getf (v := .int (S 1 0)) F LY_X6 (hm_m (S := S)) 1 (by decide) fl_X6_142 rfl dX6_pass_17 ?_
    refine wa_iload_n F dX6_pass_20 (i := 1) rfl 1 rfl ?_
    refine wa_iadd F dX6_pass_21 ?_
    refine wa_sipush (v := 5000) F dX6_pass_22 (by decide) ?_
    refine wa_icmp_le (tgt := 32) F dX6_pass_25 (by decide) (fun c25 => ?_) (fun c25 => ?_)
    · skip
      refine wa_iconst (v := 0) F dX6_pass_32 (by decide) ?_
      refine wa_callV F [] (c_X6_refused hst D TC H0 ad X S o 0) mw_X6_refused ml_X6_127 hm_m rfl rfl (Nat.le_of_ble_eq_true rfl) ⟨Nat.le_of_ble_eq_true rfl, Nat.le_of_ble_eq_true rfl⟩ ⟨Nat.le_of_ble_eq_true rfl, Nat.le_of_ble_eq_true rfl⟩ dX6_pass_33 PR_ag (fun _ z => z.elim) ?_
      rintro _ _ _ ⟨rfl, rfl, rfl⟩
      rw [show (bI (decide (¬ (0 : Int32) = 0))) = 0 from rfl]
      refine wa_if_eq (tgt := 41) F dX6_pass_36 (by decide) (fun _ => ?_) (fun z => absurd (by decide) z)
      refine wa_aload_n F dX6_pass_41 (i := 0) rfl 0 rfl ?_
      refine wa_dup F dX6_pass_42 rfl ?_
      refine wa_getf (v := .int (S 1 0)) F LY_X6 (hm_m (S := (sU S 0 0 0))) 1 (by decide) fl_X6_142 rfl dX6_pass_43 ?_
      refine wa_iload_n F dX6_pass_46 (i := 1) rfl 1 rfl ?_
      refine wa_iadd F dX6_pass_47 ?_
      refine wa_putf F LY_X6 (hm_m (S := (sU S 0 0 0))) 1 (by decide) fl_X6_142 rfl rfl rfl (Nat.le_of_ble_eq_true rfl) dX6_pass_48 (hs_1 ((S 1 0) + d)) ?_
      refine wa_aload_n F dX6_pass_51 (i := 0) rfl 0 rfl ?_
      refine wa_getf (v := .int ((sU (sU S 0 0 0) 1 0 ((S 1 0) + d)) 1 0)) F LY_X6 (hm_m (S := (sU (sU S 0 0 0) 1 0 ((S 1 0) + d)))) 1 (by decide) fl_X6_142 rfl dX6_pass_52 ?_
      refine wa_iret F rfl (Nat.le_of_ble_eq_true rfl) (Nat.le_of_ble_eq_true rfl) dX6_pass_55 ?_
      have ek : kPa S d = 0 := by simp [kPa, c9, c25]
      refine ⟨?_, rfl, ?_⟩
      · rw [ek, mR_0]
        refine congrArg (fun z => some (Value.int z)) ?_
        unfold rPa; simp [sU, upd]
      · rw [ek, mS_0]
        rfl
    · skip
      refine wa_iconst (v := 2) F dX6_pass_28 (by decide) ?_
      refine wa_goto (tgt := 33) F dX6_pass_29 (by decide) ?_
      refine wa_callV F [] (c_X6_refused hst D TC H0 ad X S o 2) mw_X6_refused ml_X6_127 hm_m rfl rfl (Nat.le_of_ble_eq_true rfl) ⟨Nat.le_of_ble_eq_true rfl, Nat.le_of_ble_eq_true rfl⟩ ⟨Nat.le_of_ble_eq_true rfl, Nat.le_of_ble_eq_true rfl⟩ dX6_pass_33 PR_ag (fun _ z => z.elim) ?_
      rintro _ _ _ ⟨rfl, rfl, rfl⟩
      rw [show (bI (decide (¬ (2 : Int32) = 0))) = 1 from rfl]
      refine wa_if_eq (tgt := 41) F dX6_pass_36 (by decide) (fun z => absurd z (by decide)) (fun _ => ?_)
      refine wa_iconst (v := 0) F dX6_pass_39 (by decide) ?_
      refine wa_iret F rfl (Nat.le_of_ble_eq_true rfl) (Nat.le_of_ble_eq_true rfl) dX6_pass_40 ?_
      have ek : kPa S d = 2 := by simp [kPa, c9, c25]
      exact ⟨by rw [ek, mR_n (by decide)], rfl, by rw [ek, mS_n (by decide)]⟩
  · skip
    replace c9 : (sIn d 1 500) = false := bI_f c9
    refine wa_iconst (v := 1) F dX6_pass_12 (by decide) ?_
    refine wa_goto (tgt := 33) F dX6_pass_13 (by decide) ?_
    refine wa_callV F [] (c_X6_refused hst D TC H0 ad X S o 1) mw_X6_refused ml_X6_127 hm_m rfl rfl (Nat.le_of_ble_eq_true rfl) ⟨Nat.le_of_ble_eq_true rfl, Nat.le_of_ble_eq_true rfl⟩ ⟨Nat.le_of_ble_eq_true rfl, Nat.le_of_ble_eq_true rfl⟩ dX6_pass_33 PR_ag (fun _ z => z.elim) ?_
    rintro _ _ _ ⟨rfl, rfl, rfl⟩
    rw [show (bI (decide (¬ (1 : Int32) = 0))) = 1 from rfl]
    refine wa_if_eq (tgt := 41) F dX6_pass_36 (by decide) (fun z => absurd z (by decide)) (fun _ => ?_)
    refine wa_iconst (v := 0) F dX6_pass_39 (by decide) ?_
    refine wa_iret F rfl (Nat.le_of_ble_eq_true rfl) (Nat.le_of_ble_eq_true rfl) dX6_pass_40 ?_
    have ek : kPa S d = 1 := by simp [kPa, c9]
    exact ⟨by rw [ek, mR_n (by decide)], rfl, by rw [ek, mS_n (by decide)]⟩
set_option maxHeartbeats 2000000 in
set_option maxRecDepth 20000 in
theorem c_X6_applies {l : Launch} (hst : l.stackTraces = false) (D : va_G) (TC : Nat → ClassId) (H0 : Heap) (ad : Nat → Nat) (X S : St) (o : Nat → Int64) (a : Int32) (v : Int32) (n : Nat) (hi : INV n S) : CC l D (tysOf TC) H0 yX6_applies cX6_applies 3 (some .boolean) 6 0 0 [.ref 2, .int a, .int v] ad (hall TC X S o) (PR ad (some (.int (mR (kAp S a v) (rAp S a v)))) (hall TC X (mS (kAp S a v) (S) (id)) o)) (fun _ => False) := by
  refine cc_intro hst (by decide +kernel) (Nat.le_of_ble_eq_true rfl) ?_
  intro p e s m args below meth c F
  rw [show lv_args 0 [.ref 2, .int a, .int v] = [(0, .ref 2), (1, .int a), (2, .int v)] from rfl]
  obtain ⟨hc, hs, hp, hd0, hm, h7, h8, hbo0, hu0, hvr⟩ := id hi
  have hc2 := hc.2; have hs2 := hs.2; have hp2 := hp.2; have hd := hd0.2; have hm2 := hm.2
  refine wa_aload_n F dX6_applies_0 (i := 0) rfl 0 rfl ?_
  refine wa_aload_n F dX6_applies_1 (i := 0) rfl 0 rfl ?_
  refine wa_iload_n F dX6_applies_2 (i := 1) rfl 1 rfl ?_
  refine wa_callV F [.ref 2] (c_X6_isAct hst D TC H0 ad X S o a) mw_X6_isAct ml_X6_131 hm_m rfl rfl (Nat.le_of_ble_eq_true rfl) ⟨Nat.le_of_ble_eq_true rfl, Nat.le_of_ble_eq_true rfl⟩ ⟨Nat.le_of_ble_eq_true rfl, Nat.le_of_ble_eq_true rfl⟩ dX6_applies_3 PR_ag (fun _ z => z.elim) ?_
  rintro _ _ _ ⟨rfl, rfl, rfl⟩
  refine wa_if_eq (tgt := 21) F dX6_applies_6 (by decide) (fun c6 => ?_) (fun c6 => ?_)
  · skip
    replace c6 : (sIn a 0 (S 2 0 - 1)) = false := bI_f c6
    refine wa_iconst (v := 1) F dX6_applies_21 (by decide) ?_
    refine wa_callV F [] (c_X6_refused hst D TC H0 ad X S o 1) mw_X6_refused ml_X6_127 hm_m rfl rfl (Nat.le_of_ble_eq_true rfl) ⟨Nat.le_of_ble_eq_true rfl, Nat.le_of_ble_eq_true rfl⟩ ⟨Nat.le_of_ble_eq_true rfl, Nat.le_of_ble_eq_true rfl⟩ dX6_applies_22 PR_ag (fun _ z => z.elim) ?_
    rintro _ _ _ ⟨rfl, rfl, rfl⟩
    rw [show (bI (decide (¬ (1 : Int32) = 0))) = 1 from rfl]
    refine wa_if_ne (tgt := 41) F dX6_applies_25 (by decide) (fun _ => ?_) (fun z => absurd z (by decide))
    refine wa_iconst (v := 0) F dX6_applies_41 (by decide) ?_
    refine wa_iret F rfl (Nat.le_of_ble_eq_true rfl) (Nat.le_of_ble_eq_true rfl) dX6_applies_42 ?_
    have ek : kAp S a v = 1 := by simp [kAp, c6]
    exact ⟨by rw [ek, mR_n (by decide)], rfl, by rw [ek, mS_n (by decide)]⟩
  · skip
    replace c6 : (sIn a 0 (S 2 0 - 1)) = true := bI_t c6
    obtain ⟨ja, la, rfl⟩ := sIn_nat hc.1 (by omega) c6
    have ea : tn (nI ja) = ja := tn_nI (by omega)
    refine wa_aload_n F dX6_applies_9 (i := 0) rfl 0 rfl ?_
    refine wa_iload_n F dX6_applies_10 (i := 2) rfl 2 rfl ?_
    refine wa_callV F [.ref 2] (c_X6_isProduct hst D TC H0 ad X S o v) mw_X6_isProduct ml_X6_145 hm_m rfl rfl (Nat.le_of_ble_eq_true rfl) ⟨Nat.le_of_ble_eq_true rfl, Nat.le_of_ble_eq_true rfl⟩ ⟨Nat.le_of_ble_eq_true rfl, Nat.le_of_ble_eq_true rfl⟩ dX6_applies_11 PR_ag (fun _ z => z.elim) ?_
    rintro _ _ _ ⟨rfl, rfl, rfl⟩
    refine wa_if_eq (tgt := 21) F dX6_applies_14 (by decide) (fun c14 => ?_) (fun c14 => ?_)
    · skip
      replace c14 : (sIn v 0 (S 13 0 - 1)) = false := bI_f c14
      refine wa_iconst (v := 1) F dX6_applies_21 (by decide) ?_
      refine wa_callV F [] (c_X6_refused hst D TC H0 ad X S o 1) mw_X6_refused ml_X6_127 hm_m rfl rfl (Nat.le_of_ble_eq_true rfl) ⟨Nat.le_of_ble_eq_true rfl, Nat.le_of_ble_eq_true rfl⟩ ⟨Nat.le_of_ble_eq_true rfl, Nat.le_of_ble_eq_true rfl⟩ dX6_applies_22 PR_ag (fun _ z => z.elim) ?_
      rintro _ _ _ ⟨rfl, rfl, rfl⟩
      rw [show (bI (decide (¬ (1 : Int32) = 0))) = 1 from rfl]
      refine wa_if_ne (tgt := 41) F dX6_applies_25 (by decide) (fun _ => ?_) (fun z => absurd z (by decide))
      refine wa_iconst (v := 0) F dX6_applies_41 (by decide) ?_
      refine wa_iret F rfl (Nat.le_of_ble_eq_true rfl) (Nat.le_of_ble_eq_true rfl) dX6_applies_42 ?_
      have ek : kAp S (nI ja) v = 1 := by simp [kAp, c6, c14, ea]
      exact ⟨by rw [ek, mR_n (by decide)], rfl, by rw [ek, mS_n (by decide)]⟩
    · skip
      replace c14 : (sIn v 0 (S 13 0 - 1)) = true := bI_t c14
      obtain ⟨jv, lv, rfl⟩ := sIn_nat hp.1 (by omega) c14
      have ev : tn (nI jv) = jv := tn_nI (by omega)
      refine wa_iconst (v := 0) F dX6_applies_17 (by decide) ?_
      refine wa_goto (tgt := 22) F dX6_applies_18 (by decide) ?_
      refine wa_callV F [] (c_X6_refused hst D TC H0 ad X S o 0) mw_X6_refused ml_X6_127 hm_m rfl rfl (Nat.le_of_ble_eq_true rfl) ⟨Nat.le_of_ble_eq_true rfl, Nat.le_of_ble_eq_true rfl⟩ ⟨Nat.le_of_ble_eq_true rfl, Nat.le_of_ble_eq_true rfl⟩ dX6_applies_22 PR_ag (fun _ z => z.elim) ?_
      rintro _ _ _ ⟨rfl, rfl, rfl⟩
      rw [show (bI (decide (¬ (0 : Int32) = 0))) = 0 from rfl]
      refine wa_if_ne (tgt := 41) F dX6_applies_25 (by decide) (fun z => absurd (by decide) z) (fun _ => ?_)
      refine wa_aload_n F dX6_applies_28 (i := 0) rfl 0 rfl ?_
      refine wa_iload_n F dX6_applies_29 (i := 1) rfl 1 rfl ?_
      refine wa_iload_n F dX6_applies_30 (i := 2) rfl 2 rfl ?_
      refine wa_callV F [] (c_X6_doesApply hst D TC H0 ad X (sU S 0 0 0) o ja jv (by omega) (by omega) hc) mw_X6_doesApply ml_X6_155 hm_m rfl rfl (Nat.le_of_ble_eq_true rfl) ⟨Nat.le_of_ble_eq_true rfl, Nat.le_of_ble_eq_true rfl⟩ ⟨Nat.le_of_ble_eq_true rfl, Nat.le_of_ble_eq_true rfl⟩ dX6_applies_31 PR_ag (fun _ z => z.elim) ?_
      rintro _ _ _ ⟨rfl, rfl, rfl⟩
      refine wa_if_eq (tgt := 41) F dX6_applies_34 (by decide) (fun c34 => ?_) (fun c34 => ?_)
      · skip
        replace c34 : (sApp (sU S 0 0 0) ja jv) = false := bI_f c34
        refine wa_iconst (v := 0) F dX6_applies_41 (by decide) ?_
        refine wa_iret F rfl (Nat.le_of_ble_eq_true rfl) (Nat.le_of_ble_eq_true rfl) dX6_applies_42 ?_
        have ek : kAp S (nI ja) (nI jv) = 0 := by simp [kAp, c6, c14, c34, ea, ev]
        refine ⟨?_, rfl, ?_⟩
        · rw [ek, mR_0]
          refine congrArg (fun z => some (Value.int z)) ?_
          unfold rAp; rw [ea, ev]; rw [show sApp S ja jv = sApp (sU S 0 0 0) ja jv from (sApp_0 S 0 ja jv).symm, c34]; rfl
        · rw [ek, mS_0]
          rfl
      · skip
        replace c34 : (sApp (sU S 0 0 0) ja jv) = true := bI_t c34
        refine wa_iconst (v := 1) F dX6_applies_37 (by decide) ?_
        refine wa_goto (tgt := 42) F dX6_applies_38 (by decide) ?_
        refine wa_iret F rfl (Nat.le_of_ble_eq_true rfl) (Nat.le_of_ble_eq_true rfl) dX6_applies_42 ?_
        have ek : kAp S (nI ja) (nI jv) = 0 := by simp [kAp, c6, c14, c34, ea, ev]
        refine ⟨?_, rfl, ?_⟩
        · rw [ek, mR_0]
          refine congrArg (fun z => some (Value.int z)) ?_
          unfold rAp; rw [ea, ev]; rw [show sApp S ja jv = sApp (sU S 0 0 0) ja jv from (sApp_0 S 0 ja jv).symm, c34]; rfl
        · rw [ek, mS_0]
          rfl
set_option maxHeartbeats 2000000 in
set_option maxRecDepth 20000 in
theorem c_X6_demands {l : Launch} (hst : l.stackTraces = false) (D : va_G) (TC : Nat → ClassId) (H0 : Heap) (ad : Nat → Nat) (X S : St) (o : Nat → Int64) (v : Int32) (q : Bool) (n : Nat) (hi : INV n S) : CC l D (tysOf TC) H0 yX6_demands cX6_demands 3 (some .int) 6 0 0 [.ref 2, .int v, .int (bI q)] ad (hall TC X S o) (PR ad (some (.int (mR (kQp S v) (rDm S v q)))) (hall TC X (mS (kQp S v) (S) (id)) o)) (fun _ => False) := by
  refine cc_intro hst (by decide +kernel) (Nat.le_of_ble_eq_true rfl) ?_
  intro p e s m args below meth c F
  rw [show lv_args 0 [.ref 2, .int v, .int (bI q)] = [(0, .ref 2), (1, .int v), (2, .int (bI q))] from rfl]
  obtain ⟨hc, hs, hp, hd0, hm, h7, h8, hbo0, hu0, hvr⟩ := id hi
  have hc2 := hc.2; have hs2 := hs.2; have hp2 := hp.2; have hd := hd0.2; have hm2 := hm.2
  refine wa_aload_n F dX6_demands_0 (i := 0) rfl 0 rfl ?_
  refine wa_aload_n F dX6_demands_1 (i := 0) rfl 0 rfl ?_
  refine wa_iload_n F dX6_demands_2 (i := 1) rfl 1 rfl ?_
  refine wa_callV F [.ref 2] (c_X6_isProduct hst D TC H0 ad X S o v) mw_X6_isProduct ml_X6_145 hm_m rfl rfl (Nat.le_of_ble_eq_true rfl) ⟨Nat.le_of_ble_eq_true rfl, Nat.le_of_ble_eq_true rfl⟩ ⟨Nat.le_of_ble_eq_true rfl, Nat.le_of_ble_eq_true rfl⟩ dX6_demands_3 PR_ag (fun _ z => z.elim) ?_
  rintro _ _ _ ⟨rfl, rfl, rfl⟩
  refine wa_if_eq (tgt := 13) F dX6_demands_6 (by decide) (fun c6 => ?_) (fun c6 => ?_)
  · skip
    replace c6 : (sIn v 0 (S 13 0 - 1)) = false := bI_f c6
    refine wa_iconst (v := 1) F dX6_demands_13 (by decide) ?_
    refine wa_callV F [] (c_X6_refused hst D TC H0 ad X S o 1) mw_X6_refused ml_X6_127 hm_m rfl rfl (Nat.le_of_ble_eq_true rfl) ⟨Nat.le_of_ble_eq_true rfl, Nat.le_of_ble_eq_true rfl⟩ ⟨Nat.le_of_ble_eq_true rfl, Nat.le_of_ble_eq_true rfl⟩ dX6_demands_14 PR_ag (fun _ z => z.elim) ?_
    rintro _ _ _ ⟨rfl, rfl, rfl⟩
    rw [show (bI (decide (¬ (1 : Int32) = 0))) = 1 from rfl]
    refine wa_if_eq (tgt := 22) F dX6_demands_17 (by decide) (fun z => absurd z (by decide)) (fun _ => ?_)
    refine wa_iconst (v := 0) F dX6_demands_20 (by decide) ?_
    refine wa_iret F rfl (Nat.le_of_ble_eq_true rfl) (Nat.le_of_ble_eq_true rfl) dX6_demands_21 ?_
    have ek : kQp S v = 1 := by simp [kQp, c6]
    exact ⟨by rw [ek, mR_n (by decide)], rfl, by rw [ek, mS_n (by decide)]⟩
  · skip
    replace c6 : (sIn v 0 (S 13 0 - 1)) = true := bI_t c6
    obtain ⟨jv, lv, rfl⟩ := sIn_nat hp.1 (by omega) c6
    have ev : tn (nI jv) = jv := tn_nI (by omega)
    refine wa_iconst (v := 0) F dX6_demands_9 (by decide) ?_
    refine wa_goto (tgt := 14) F dX6_demands_10 (by decide) ?_
    refine wa_callV F [] (c_X6_refused hst D TC H0 ad X S o 0) mw_X6_refused ml_X6_127 hm_m rfl rfl (Nat.le_of_ble_eq_true rfl) ⟨Nat.le_of_ble_eq_true rfl, Nat.le_of_ble_eq_true rfl⟩ ⟨Nat.le_of_ble_eq_true rfl, Nat.le_of_ble_eq_true rfl⟩ dX6_demands_14 PR_ag (fun _ z => z.elim) ?_
    rintro _ _ _ ⟨rfl, rfl, rfl⟩
    rw [show (bI (decide (¬ (0 : Int32) = 0))) = 0 from rfl]
    refine wa_if_eq (tgt := 22) F dX6_demands_17 (by decide) (fun _ => ?_) (fun z => absurd (by decide) z)
    refine wa_iload_n F dX6_demands_22 (i := 2) rfl 2 rfl ?_
    refine wa_if_eq (tgt := 34) F dX6_demands_23 (by decide) (fun c23 => ?_) (fun c23 => ?_)
    · skip
      replace c23 : q = false := bI_f c23
      refine wa_aload_n F dX6_demands_34 (i := 0) rfl 0 rfl ?_
      refine wa_iload_n F dX6_demands_35 (i := 1) rfl 1 rfl ?_
      refine wa_callV F [] (c_X6_demandsOf hst D TC H0 ad X (sU S 0 0 0) o jv (by omega) hc) mw_X6_demandsOf ml_X6_158 hm_m rfl rfl (Nat.le_of_ble_eq_true rfl) ⟨Nat.le_of_ble_eq_true rfl, Nat.le_of_ble_eq_true rfl⟩ ⟨Nat.le_of_ble_eq_true rfl, Nat.le_of_ble_eq_true rfl⟩ dX6_demands_36 PR_ag (fun _ z => z.elim) ?_
      rintro _ _ _ ⟨rfl, rfl, rfl⟩
      refine wa_iret F rfl (Nat.le_of_ble_eq_true rfl) (Nat.le_of_ble_eq_true rfl) dX6_demands_39 ?_
      have ek : kQp S (nI jv) = 0 := by simp [kQp, c6, c23, ev]
      refine ⟨?_, rfl, ?_⟩
      · rw [ek, mR_0]
        refine congrArg (fun z => some (Value.int z)) ?_
        unfold rDm; rw [ev, c23]; first | exact (sKept_0 S 0 jv).symm | exact (sDem_0 S 0 jv).symm
      · rw [ek, mS_0]
        rfl
    · skip
      replace c23 : q = true := bI_t c23
      refine wa_aload_n F dX6_demands_26 (i := 0) rfl 0 rfl ?_
      refine wa_iload_n F dX6_demands_27 (i := 1) rfl 1 rfl ?_
      refine wa_callV F [] (c_X6_keptOf hst D TC H0 ad X (sU S 0 0 0) o jv (by omega) hc hs) mw_X6_keptOf ml_X6_177 hm_m rfl rfl (Nat.le_of_ble_eq_true rfl) ⟨Nat.le_of_ble_eq_true rfl, Nat.le_of_ble_eq_true rfl⟩ ⟨Nat.le_of_ble_eq_true rfl, Nat.le_of_ble_eq_true rfl⟩ dX6_demands_28 PR_ag (fun _ z => z.elim) ?_
      rintro _ _ _ ⟨rfl, rfl, rfl⟩
      refine wa_goto (tgt := 39) F dX6_demands_31 (by decide) ?_
      refine wa_iret F rfl (Nat.le_of_ble_eq_true rfl) (Nat.le_of_ble_eq_true rfl) dX6_demands_39 ?_
      have ek : kQp S (nI jv) = 0 := by simp [kQp, c6, c23, ev]
      refine ⟨?_, rfl, ?_⟩
      · rw [ek, mR_0]
        refine congrArg (fun z => some (Value.int z)) ?_
        unfold rDm; rw [ev, c23]; first | exact (sKept_0 S 0 jv).symm | exact (sDem_0 S 0 jv).symm
      · rw [ek, mS_0]
        rfl
set_option maxHeartbeats 2000000 in
set_option maxRecDepth 20000 in
theorem c_X6_way {l : Launch} (hst : l.stackTraces = false) (D : va_G) (TC : Nat → ClassId) (H0 : Heap) (ad : Nat → Nat) (X S : St) (o : Nat → Int64) (v : Int32) (n : Nat) (hi : INV n S) : CC l D (tysOf TC) H0 yX6_way cX6_way 2 (some .int) 6 0 0 [.ref 2, .int v] ad (hall TC X S o) (PR ad (some (.int (mR (kQp S v) (rWy S v)))) (hall TC X (mS (kQp S v) (S) (id)) o)) (fun _ => False) := by
  refine cc_intro hst (by decide +kernel) (Nat.le_of_ble_eq_true rfl) ?_
  intro p e s m args below meth c F
  rw [show lv_args 0 [.ref 2, .int v] = [(0, .ref 2), (1, .int v)] from rfl]
  obtain ⟨hc, hs, hp, hd0, hm, h7, h8, hbo0, hu0, hvr⟩ := id hi
  have hc2 := hc.2; have hs2 := hs.2; have hp2 := hp.2; have hd := hd0.2; have hm2 := hm.2
  refine wa_aload_n F dX6_way_0 (i := 0) rfl 0 rfl ?_
  refine wa_aload_n F dX6_way_1 (i := 0) rfl 0 rfl ?_
  refine wa_iload_n F dX6_way_2 (i := 1) rfl 1 rfl ?_
  refine wa_callV F [.ref 2] (c_X6_isProduct hst D TC H0 ad X S o v) mw_X6_isProduct ml_X6_145 hm_m rfl rfl (Nat.le_of_ble_eq_true rfl) ⟨Nat.le_of_ble_eq_true rfl, Nat.le_of_ble_eq_true rfl⟩ ⟨Nat.le_of_ble_eq_true rfl, Nat.le_of_ble_eq_true rfl⟩ dX6_way_3 PR_ag (fun _ z => z.elim) ?_
  rintro _ _ _ ⟨rfl, rfl, rfl⟩
  refine wa_if_eq (tgt := 13) F dX6_way_6 (by decide) (fun c6 => ?_) (fun c6 => ?_)
  · skip
    replace c6 : (sIn v 0 (S 13 0 - 1)) = false := bI_f c6
    refine wa_iconst (v := 1) F dX6_way_13 (by decide) ?_
    refine wa_callV F [] (c_X6_refused hst D TC H0 ad X S o 1) mw_X6_refused ml_X6_127 hm_m rfl rfl (Nat.le_of_ble_eq_true rfl) ⟨Nat.le_of_ble_eq_true rfl, Nat.le_of_ble_eq_true rfl⟩ ⟨Nat.le_of_ble_eq_true rfl, Nat.le_of_ble_eq_true rfl⟩ dX6_way_14 PR_ag (fun _ z => z.elim) ?_
    rintro _ _ _ ⟨rfl, rfl, rfl⟩
    rw [show (bI (decide (¬ (1 : Int32) = 0))) = 1 from rfl]
    refine wa_if_eq (tgt := 24) F dX6_way_17 (by decide) (fun z => absurd z (by decide)) (fun _ => ?_)
    refine wa_iconst (v := 0) F dX6_way_20 (by decide) ?_
    refine wa_goto (tgt := 29) F dX6_way_21 (by decide) ?_
    refine wa_iret F rfl (Nat.le_of_ble_eq_true rfl) (Nat.le_of_ble_eq_true rfl) dX6_way_29 ?_
    have ek : kQp S v = 1 := by simp [kQp, c6]
    exact ⟨by rw [ek, mR_n (by decide)], rfl, by rw [ek, mS_n (by decide)]⟩
  · skip
    replace c6 : (sIn v 0 (S 13 0 - 1)) = true := bI_t c6
    obtain ⟨jv, lv, rfl⟩ := sIn_nat hp.1 (by omega) c6
    have ev : tn (nI jv) = jv := tn_nI (by omega)
    refine wa_iconst (v := 0) F dX6_way_9 (by decide) ?_
    refine wa_goto (tgt := 14) F dX6_way_10 (by decide) ?_
    refine wa_callV F [] (c_X6_refused hst D TC H0 ad X S o 0) mw_X6_refused ml_X6_127 hm_m rfl rfl (Nat.le_of_ble_eq_true rfl) ⟨Nat.le_of_ble_eq_true rfl, Nat.le_of_ble_eq_true rfl⟩ ⟨Nat.le_of_ble_eq_true rfl, Nat.le_of_ble_eq_true rfl⟩ dX6_way_14 PR_ag (fun _ z => z.elim) ?_
    rintro _ _ _ ⟨rfl, rfl, rfl⟩
    rw [show (bI (decide (¬ (0 : Int32) = 0))) = 0 from rfl]
    refine wa_if_eq (tgt := 24) F dX6_way_17 (by decide) (fun _ => ?_) (fun z => absurd (by decide) z)
    refine wa_aload_n F dX6_way_24 (i := 0) rfl 0 rfl ?_
    refine wa_iload_n F dX6_way_25 (i := 1) rfl 1 rfl ?_
    refine wa_callV F [] (c_X6_wayOf hst D TC H0 ad X (sU S 0 0 0) o jv (by omega) hc) mw_X6_wayOf ml_X6_180 hm_m rfl rfl (Nat.le_of_ble_eq_true rfl) ⟨Nat.le_of_ble_eq_true rfl, Nat.le_of_ble_eq_true rfl⟩ ⟨Nat.le_of_ble_eq_true rfl, Nat.le_of_ble_eq_true rfl⟩ dX6_way_26 PR_ag (fun _ z => z.elim) ?_
    rintro _ _ _ ⟨rfl, rfl, rfl⟩
    refine wa_iret F rfl (Nat.le_of_ble_eq_true rfl) (Nat.le_of_ble_eq_true rfl) dX6_way_29 ?_
    have ek : kQp S (nI jv) = 0 := by simp [kQp, c6, ev]
    refine ⟨?_, rfl, ?_⟩
    · rw [ek, mR_0]
      refine congrArg (fun z => some (Value.int z)) ?_
      unfold rWy; rw [ev]; exact (sWay_0 S 0 jv).symm
    · rw [ek, mS_0]
      rfl
set_option maxHeartbeats 2000000 in
set_option maxRecDepth 20000 in
theorem c_X6_wanting {l : Launch} (hst : l.stackTraces = false) (D : va_G) (TC : Nat → ClassId) (H0 : Heap) (ad : Nat → Nat) (X S : St) (o : Nat → Int64) (v : Int32) (n : Nat) (hi : INV n S) : CC l D (tysOf TC) H0 yX6_wanting cX6_wanting 2 (some .int) 6 0 0 [.ref 2, .int v] ad (hall TC X S o) (PR ad (some (.int (mR (kQp S v) (rWt S v)))) (hall TC X (mS (kQp S v) (S) (id)) o)) (fun _ => False) := by
  refine cc_intro hst (by decide +kernel) (Nat.le_of_ble_eq_true rfl) ?_
  intro p e s m args below meth c F
  rw [show lv_args 0 [.ref 2, .int v] = [(0, .ref 2), (1, .int v)] from rfl]
  obtain ⟨hc, hs, hp, hd0, hm, h7, h8, hbo0, hu0, hvr⟩ := id hi
  have hc2 := hc.2; have hs2 := hs.2; have hp2 := hp.2; have hd := hd0.2; have hm2 := hm.2
  refine wa_aload_n F dX6_wanting_0 (i := 0) rfl 0 rfl ?_
  refine wa_aload_n F dX6_wanting_1 (i := 0) rfl 0 rfl ?_
  refine wa_iload_n F dX6_wanting_2 (i := 1) rfl 1 rfl ?_
  refine wa_callV F [.ref 2] (c_X6_isProduct hst D TC H0 ad X S o v) mw_X6_isProduct ml_X6_145 hm_m rfl rfl (Nat.le_of_ble_eq_true rfl) ⟨Nat.le_of_ble_eq_true rfl, Nat.le_of_ble_eq_true rfl⟩ ⟨Nat.le_of_ble_eq_true rfl, Nat.le_of_ble_eq_true rfl⟩ dX6_wanting_3 PR_ag (fun _ z => z.elim) ?_
  rintro _ _ _ ⟨rfl, rfl, rfl⟩
  refine wa_if_eq (tgt := 13) F dX6_wanting_6 (by decide) (fun c6 => ?_) (fun c6 => ?_)
  · skip
    replace c6 : (sIn v 0 (S 13 0 - 1)) = false := bI_f c6
    refine wa_iconst (v := 1) F dX6_wanting_13 (by decide) ?_
    refine wa_callV F [] (c_X6_refused hst D TC H0 ad X S o 1) mw_X6_refused ml_X6_127 hm_m rfl rfl (Nat.le_of_ble_eq_true rfl) ⟨Nat.le_of_ble_eq_true rfl, Nat.le_of_ble_eq_true rfl⟩ ⟨Nat.le_of_ble_eq_true rfl, Nat.le_of_ble_eq_true rfl⟩ dX6_wanting_14 PR_ag (fun _ z => z.elim) ?_
    rintro _ _ _ ⟨rfl, rfl, rfl⟩
    rw [show (bI (decide (¬ (1 : Int32) = 0))) = 1 from rfl]
    refine wa_if_eq (tgt := 24) F dX6_wanting_17 (by decide) (fun z => absurd z (by decide)) (fun _ => ?_)
    refine wa_iconst (v := 0) F dX6_wanting_20 (by decide) ?_
    refine wa_goto (tgt := 29) F dX6_wanting_21 (by decide) ?_
    refine wa_iret F rfl (Nat.le_of_ble_eq_true rfl) (Nat.le_of_ble_eq_true rfl) dX6_wanting_29 ?_
    have ek : kQp S v = 1 := by simp [kQp, c6]
    exact ⟨by rw [ek, mR_n (by decide)], rfl, by rw [ek, mS_n (by decide)]⟩
  · skip
    replace c6 : (sIn v 0 (S 13 0 - 1)) = true := bI_t c6
    obtain ⟨jv, lv, rfl⟩ := sIn_nat hp.1 (by omega) c6
    have ev : tn (nI jv) = jv := tn_nI (by omega)
    have hbo := hbo0 jv lv
    refine wa_iconst (v := 0) F dX6_wanting_9 (by decide) ?_
    refine wa_goto (tgt := 14) F dX6_wanting_10 (by decide) ?_
    refine wa_callV F [] (c_X6_refused hst D TC H0 ad X S o 0) mw_X6_refused ml_X6_127 hm_m rfl rfl (Nat.le_of_ble_eq_true rfl) ⟨Nat.le_of_ble_eq_true rfl, Nat.le_of_ble_eq_true rfl⟩ ⟨Nat.le_of_ble_eq_true rfl, Nat.le_of_ble_eq_true rfl⟩ dX6_wanting_14 PR_ag (fun _ z => z.elim) ?_
    rintro _ _ _ ⟨rfl, rfl, rfl⟩
    rw [show (bI (decide (¬ (0 : Int32) = 0))) = 0 from rfl]
    refine wa_if_eq (tgt := 24) F dX6_wanting_17 (by decide) (fun _ => ?_) (fun z => absurd (by decide) z)
    refine wa_aload_n F dX6_wanting_24 (i := 0) rfl 0 rfl ?_
    refine wa_iload_n F dX6_wanting_25 (i := 1) rfl 1 rfl ?_
    refine wa_callV F [] (c_X6_wantingOf hst D TC H0 ad X (sU S 0 0 0) o jv (by omega) hc hs hd hbo) mw_X6_wantingOf ml_X6_186 hm_m rfl rfl (Nat.le_of_ble_eq_true rfl) ⟨Nat.le_of_ble_eq_true rfl, Nat.le_of_ble_eq_true rfl⟩ ⟨Nat.le_of_ble_eq_true rfl, Nat.le_of_ble_eq_true rfl⟩ dX6_wanting_26 PR_ag (fun _ z => z.elim) ?_
    rintro _ _ _ ⟨rfl, rfl, rfl⟩
    refine wa_iret F rfl (Nat.le_of_ble_eq_true rfl) (Nat.le_of_ble_eq_true rfl) dX6_wanting_29 ?_
    have ek : kQp S (nI jv) = 0 := by simp [kQp, c6, ev]
    refine ⟨?_, rfl, ?_⟩
    · rw [ek, mR_0]
      refine congrArg (fun z => some (Value.int z)) ?_
      unfold rWt; rw [ev]; exact (sWant_0 S 0 jv).symm
    · rw [ek, mS_0]
      rfl
set_option maxHeartbeats 2000000 in
set_option maxRecDepth 20000 in
theorem c_X6_riskOf {l : Launch} (hst : l.stackTraces = false) (D : va_G) (TC : Nat → ClassId) (H0 : Heap) (ad : Nat → Nat) (X S : St) (o : Nat → Int64) (v : Int32) (z : Int32) (q : Bool) (n : Nat) (hi : INV n S) : CC l D (tysOf TC) H0 yX6_riskOf cX6_riskOf 4 (some .int) 6 0 0 [.ref 2, .int v, .int z, .int (bI q)] ad (hall TC X S o) (PR ad (some (.int (mR (kRO S v z) (rRO S v z q)))) (hall TC X (mS (kRO S v z) (S) (id)) o)) (fun _ => False) := by
  refine cc_intro hst (by decide +kernel) (Nat.le_of_ble_eq_true rfl) ?_
  intro p e s m args below meth c F
  rw [show lv_args 0 [.ref 2, .int v, .int z, .int (bI q)] = [(0, .ref 2), (1, .int v), (2, .int z), (3, .int (bI q))] from rfl]
  obtain ⟨hc, hs, hp, hd0, hm, h7, h8, hbo0, hu0, hvr⟩ := id hi
  have hc2 := hc.2; have hs2 := hs.2; have hp2 := hp.2; have hd := hd0.2; have hm2 := hm.2
  refine wa_aload_n F dX6_riskOf_0 (i := 0) rfl 0 rfl ?_
  refine wa_aload_n F dX6_riskOf_1 (i := 0) rfl 0 rfl ?_
  refine wa_iload_n F dX6_riskOf_2 (i := 1) rfl 1 rfl ?_
  refine wa_callV F [.ref 2] (c_X6_isProduct hst D TC H0 ad X S o v) mw_X6_isProduct ml_X6_145 hm_m rfl rfl (Nat.le_of_ble_eq_true rfl) ⟨Nat.le_of_ble_eq_true rfl, Nat.le_of_ble_eq_true rfl⟩ ⟨Nat.le_of_ble_eq_true rfl, Nat.le_of_ble_eq_true rfl⟩ dX6_riskOf_3 PR_ag (fun _ z => z.elim) ?_
  rintro _ _ _ ⟨rfl, rfl, rfl⟩
  refine wa_if_eq (tgt := 23) F dX6_riskOf_6 (by decide) (fun c6 => ?_) (fun c6 => ?_)
  · skip
    replace c6 : (sIn v 0 (S 13 0 - 1)) = false := bI_f c6
    refine wa_iconst (v := 1) F dX6_riskOf_23 (by decide) ?_
    refine wa_callV F [] (c_X6_refused hst D TC H0 ad X S o 1) mw_X6_refused ml_X6_127 hm_m rfl rfl (Nat.le_of_ble_eq_true rfl) ⟨Nat.le_of_ble_eq_true rfl, Nat.le_of_ble_eq_true rfl⟩ ⟨Nat.le_of_ble_eq_true rfl, Nat.le_of_ble_eq_true rfl⟩ dX6_riskOf_24 PR_ag (fun _ z => z.elim) ?_
    rintro _ _ _ ⟨rfl, rfl, rfl⟩
    rw [show (bI (decide (¬ (1 : Int32) = 0))) = 1 from rfl]
    refine wa_if_eq (tgt := 32) F dX6_riskOf_27 (by decide) (fun z => absurd z (by decide)) (fun _ => ?_)
    refine wa_iconst (v := 0) F dX6_riskOf_30 (by decide) ?_
    refine wa_iret F rfl (Nat.le_of_ble_eq_true rfl) (Nat.le_of_ble_eq_true rfl) dX6_riskOf_31 ?_
    have ek : kRO S v z = 1 := by simp [kRO, c6]
    exact ⟨by rw [ek, mR_n (by decide)], rfl, by rw [ek, mS_n (by decide)]⟩
  · skip
    replace c6 : (sIn v 0 (S 13 0 - 1)) = true := bI_t c6
    obtain ⟨jv, lv, rfl⟩ := sIn_nat hp.1 (by omega) c6
    have ev : tn (nI jv) = jv := tn_nI (by omega)
    refine wa_iload_n F dX6_riskOf_9 (i := 2) rfl 2 rfl ?_
    refine wa_iconst (v := 0) F dX6_riskOf_10 (by decide) ?_
    refine wa_bipush (v := 7) F dX6_riskOf_11 (by decide) ?_
    refine wa_callS F [.ref 2] (c_X6_in hst D (tysOf TC) H0 ad (hall TC X S o) z 0 7) mw_X6_in ml_X6_111 rfl (Nat.le_of_ble_eq_true rfl) ⟨Nat.le_of_ble_eq_true rfl, Nat.le_of_ble_eq_true rfl⟩ ⟨Nat.le_of_ble_eq_true rfl, Nat.le_of_ble_eq_true rfl⟩ dX6_riskOf_13 PR_ag (fun _ z => z.elim) ?_
    rintro _ _ _ ⟨rfl, rfl, rfl⟩
    refine wa_if_eq (tgt := 23) F dX6_riskOf_16 (by decide) (fun c16 => ?_) (fun c16 => ?_)
    · skip
      replace c16 : (sIn z 0 7) = false := bI_f c16
      refine wa_iconst (v := 1) F dX6_riskOf_23 (by decide) ?_
      refine wa_callV F [] (c_X6_refused hst D TC H0 ad X S o 1) mw_X6_refused ml_X6_127 hm_m rfl rfl (Nat.le_of_ble_eq_true rfl) ⟨Nat.le_of_ble_eq_true rfl, Nat.le_of_ble_eq_true rfl⟩ ⟨Nat.le_of_ble_eq_true rfl, Nat.le_of_ble_eq_true rfl⟩ dX6_riskOf_24 PR_ag (fun _ z => z.elim) ?_
      rintro _ _ _ ⟨rfl, rfl, rfl⟩
      rw [show (bI (decide (¬ (1 : Int32) = 0))) = 1 from rfl]
      refine wa_if_eq (tgt := 32) F dX6_riskOf_27 (by decide) (fun z => absurd z (by decide)) (fun _ => ?_)
      refine wa_iconst (v := 0) F dX6_riskOf_30 (by decide) ?_
      refine wa_iret F rfl (Nat.le_of_ble_eq_true rfl) (Nat.le_of_ble_eq_true rfl) dX6_riskOf_31 ?_
      have ek : kRO S (nI jv) z = 1 := by simp [kRO, c6, c16, ev]
      exact ⟨by rw [ek, mR_n (by decide)], rfl, by rw [ek, mS_n (by decide)]⟩
    · skip
      replace c16 : (sIn z 0 7) = true := bI_t c16
      obtain ⟨jz, lz, rfl⟩ := sIn_lit (n := 7) (by decide) c16
      have ez : tn (nI jz) = jz := tn_nI (by omega)
      refine wa_iconst (v := 0) F dX6_riskOf_19 (by decide) ?_
      refine wa_goto (tgt := 24) F dX6_riskOf_20 (by decide) ?_
      refine wa_callV F [] (c_X6_refused hst D TC H0 ad X S o 0) mw_X6_refused ml_X6_127 hm_m rfl rfl (Nat.le_of_ble_eq_true rfl) ⟨Nat.le_of_ble_eq_true rfl, Nat.le_of_ble_eq_true rfl⟩ ⟨Nat.le_of_ble_eq_true rfl, Nat.le_of_ble_eq_true rfl⟩ dX6_riskOf_24 PR_ag (fun _ z => z.elim) ?_
      rintro _ _ _ ⟨rfl, rfl, rfl⟩
      rw [show (bI (decide (¬ (0 : Int32) = 0))) = 0 from rfl]
      refine wa_if_eq (tgt := 32) F dX6_riskOf_27 (by decide) (fun _ => ?_) (fun z => absurd (by decide) z)
      refine wa_iload_n F dX6_riskOf_32 (i := 3) rfl 3 rfl ?_
      refine wa_if_eq (tgt := 50) F dX6_riskOf_33 (by decide) (fun c33 => ?_) (fun c33 => ?_)
      · skip
        replace c33 : q = false := bI_f c33
        refine wa_aload_n F dX6_riskOf_50 (i := 0) rfl 0 rfl ?_
        refine wa_getf (v := .ref 116) F LY_X6 (hm_m (S := (sU S 0 0 0))) 16 (by decide) fl_X6_44 rfl dX6_riskOf_51 ?_
        refine wa_bipush (v := 8) F dX6_riskOf_54 (by decide) ?_
        refine wa_iload_n F dX6_riskOf_56 (i := 1) rfl 1 rfl ?_
        refine wa_imulN F dX6_riskOf_57 (a := 8) (b := jv) rfl rfl ?_
        refine wa_iload_n F dX6_riskOf_58 (i := 2) rfl 2 rfl ?_
        refine wa_iaddN F dX6_riskOf_59 (a := 8 * jv) (b := jz) rfl rfl ?_
        refine wa_iald (f := S 16) F 0 rfl (hm_16 (S := (sU S 0 0 0))) ((8 * jv) + jz) rfl (by omega) (by decide) dX6_riskOf_60 ?_
        refine wa_iret F rfl (Nat.le_of_ble_eq_true rfl) (Nat.le_of_ble_eq_true rfl) dX6_riskOf_61 ?_
        have ek : kRO S (nI jv) (nI jz) = 0 := by simp [kRO, c6, c16, c33, ev, ez]
        refine ⟨?_, rfl, ?_⟩
        · rw [ek, mR_0]
          refine congrArg (fun z => some (Value.int z)) ?_
          unfold rRO; rw [ev, ez]; simp [c33]
        · rw [ek, mS_0]
          rfl
      · skip
        replace c33 : q = true := bI_t c33
        refine wa_aload_n F dX6_riskOf_36 (i := 0) rfl 0 rfl ?_
        refine wa_getf (v := .ref 117) F LY_X6 (hm_m (S := (sU S 0 0 0))) 17 (by decide) fl_X6_47 rfl dX6_riskOf_37 ?_
        refine wa_bipush (v := 8) F dX6_riskOf_40 (by decide) ?_
        refine wa_iload_n F dX6_riskOf_42 (i := 1) rfl 1 rfl ?_
        refine wa_imulN F dX6_riskOf_43 (a := 8) (b := jv) rfl rfl ?_
        refine wa_iload_n F dX6_riskOf_44 (i := 2) rfl 2 rfl ?_
        refine wa_iaddN F dX6_riskOf_45 (a := 8 * jv) (b := jz) rfl rfl ?_
        refine wa_iald (f := S 17) F 0 rfl (hm_17 (S := (sU S 0 0 0))) ((8 * jv) + jz) rfl (by omega) (by decide) dX6_riskOf_46 ?_
        refine wa_goto (tgt := 61) F dX6_riskOf_47 (by decide) ?_
        refine wa_iret F rfl (Nat.le_of_ble_eq_true rfl) (Nat.le_of_ble_eq_true rfl) dX6_riskOf_61 ?_
        have ek : kRO S (nI jv) (nI jz) = 0 := by simp [kRO, c6, c16, c33, ev, ez]
        refine ⟨?_, rfl, ?_⟩
        · rw [ek, mR_0]
          refine congrArg (fun z => some (Value.int z)) ?_
          unfold rRO; rw [ev, ez]; simp [c33]
        · rw [ek, mS_0]
          rfl
set_option maxHeartbeats 2000000 in
set_option maxRecDepth 20000 in
theorem c_X6_wantingAnew {l : Launch} (hst : l.stackTraces = false) (D : va_G) (TC : Nat → ClassId) (H0 : Heap) (ad : Nat → Nat) (X S : St) (o : Nat → Int64) (v : Int32) (n : Nat) (hi : INV n S) : CC l D (tysOf TC) H0 yX6_wantingAnew cX6_wantingAnew 2 (some .int) 6 0 0 [.ref 2, .int v] ad (hall TC X S o) (PR ad (some (.int (mR (kWn S v) (rWn S v)))) (hall TC X (mS (kWn S v) (S) (id)) o)) (fun _ => False) := by
  refine cc_intro hst (by decide +kernel) (Nat.le_of_ble_eq_true rfl) ?_
  intro p e s m args below meth c F
  rw [show lv_args 0 [.ref 2, .int v] = [(0, .ref 2), (1, .int v)] from rfl]
  obtain ⟨hc, hs, hp, hd0, hm, h7, h8, hbo0, hu0, hvr⟩ := id hi
  have hc2 := hc.2; have hs2 := hs.2; have hp2 := hp.2; have hd := hd0.2; have hm2 := hm.2
  refine wa_aload_n F dX6_wantingAnew_0 (i := 0) rfl 0 rfl ?_
  refine wa_aload_n F dX6_wantingAnew_1 (i := 0) rfl 0 rfl ?_
  refine wa_iload_n F dX6_wantingAnew_2 (i := 1) rfl 1 rfl ?_
  refine wa_callV F [.ref 2] (c_X6_isBatch hst D TC H0 ad X S o v) mw_X6_isBatch ml_X6_197 hm_m rfl rfl (Nat.le_of_ble_eq_true rfl) ⟨Nat.le_of_ble_eq_true rfl, Nat.le_of_ble_eq_true rfl⟩ ⟨Nat.le_of_ble_eq_true rfl, Nat.le_of_ble_eq_true rfl⟩ dX6_wantingAnew_3 PR_ag (fun _ z => z.elim) ?_
  rintro _ _ _ ⟨rfl, rfl, rfl⟩
  refine wa_if_eq (tgt := 13) F dX6_wantingAnew_6 (by decide) (fun c6 => ?_) (fun c6 => ?_)
  · skip
    replace c6 : (sIn v 0 (S 28 0 - 1)) = false := bI_f c6
    refine wa_iconst (v := 1) F dX6_wantingAnew_13 (by decide) ?_
    refine wa_callV F [] (c_X6_refused hst D TC H0 ad X S o 1) mw_X6_refused ml_X6_127 hm_m rfl rfl (Nat.le_of_ble_eq_true rfl) ⟨Nat.le_of_ble_eq_true rfl, Nat.le_of_ble_eq_true rfl⟩ ⟨Nat.le_of_ble_eq_true rfl, Nat.le_of_ble_eq_true rfl⟩ dX6_wantingAnew_14 PR_ag (fun _ z => z.elim) ?_
    rintro _ _ _ ⟨rfl, rfl, rfl⟩
    rw [show (bI (decide (¬ (1 : Int32) = 0))) = 1 from rfl]
    refine wa_if_eq (tgt := 24) F dX6_wantingAnew_17 (by decide) (fun z => absurd z (by decide)) (fun _ => ?_)
    refine wa_iconst (v := 0) F dX6_wantingAnew_20 (by decide) ?_
    refine wa_goto (tgt := 30) F dX6_wantingAnew_21 (by decide) ?_
    refine wa_iret F rfl (Nat.le_of_ble_eq_true rfl) (Nat.le_of_ble_eq_true rfl) dX6_wantingAnew_30 ?_
    have ek : kWn S v = 1 := by simp [kWn, c6]
    exact ⟨by rw [ek, mR_n (by decide)], rfl, by rw [ek, mS_n (by decide)]⟩
  · skip
    replace c6 : (sIn v 0 (S 28 0 - 1)) = true := bI_t c6
    obtain ⟨jv, lv, rfl⟩ := sIn_nat hm.1 (by omega) c6
    have ev : tn (nI jv) = jv := tn_nI (by omega)
    have hu := ne0_of_toInt (hu0 jv lv).1
    refine wa_iconst (v := 0) F dX6_wantingAnew_9 (by decide) ?_
    refine wa_goto (tgt := 14) F dX6_wantingAnew_10 (by decide) ?_
    refine wa_callV F [] (c_X6_refused hst D TC H0 ad X S o 0) mw_X6_refused ml_X6_127 hm_m rfl rfl (Nat.le_of_ble_eq_true rfl) ⟨Nat.le_of_ble_eq_true rfl, Nat.le_of_ble_eq_true rfl⟩ ⟨Nat.le_of_ble_eq_true rfl, Nat.le_of_ble_eq_true rfl⟩ dX6_wantingAnew_14 PR_ag (fun _ z => z.elim) ?_
    rintro _ _ _ ⟨rfl, rfl, rfl⟩
    rw [show (bI (decide (¬ (0 : Int32) = 0))) = 0 from rfl]
    refine wa_if_eq (tgt := 24) F dX6_wantingAnew_17 (by decide) (fun _ => ?_) (fun z => absurd (by decide) z)
    refine wa_aload_n F dX6_wantingAnew_24 (i := 0) rfl 0 rfl ?_
    refine wa_getf (v := .ref 133) F LY_X6 (hm_m (S := (sU S 0 0 0))) 33 (by decide) fl_X6_89 rfl dX6_wantingAnew_25 ?_
    refine wa_iload_n F dX6_wantingAnew_28 (i := 1) rfl 1 rfl ?_
    refine wa_iald (f := S 33) F 0 rfl (hm_33 (S := (sU S 0 0 0))) jv rfl (by omega) (by decide) dX6_wantingAnew_29 ?_
    refine wa_iret F rfl (Nat.le_of_ble_eq_true rfl) (Nat.le_of_ble_eq_true rfl) dX6_wantingAnew_30 ?_
    have ek : kWn S (nI jv) = 0 := by simp [kWn, c6, ev]
    refine ⟨?_, rfl, ?_⟩
    · rw [ek, mR_0]
      refine congrArg (fun z => some (Value.int z)) ?_
      unfold rWn; simp only [ev]
    · rw [ek, mS_0]
      rfl
set_option maxHeartbeats 2000000 in
set_option maxRecDepth 20000 in
theorem c_X6_productOf {l : Launch} (hst : l.stackTraces = false) (D : va_G) (TC : Nat → ClassId) (H0 : Heap) (ad : Nat → Nat) (X S : St) (o : Nat → Int64) (v : Int32) (w : Int32) (n : Nat) (hi : INV n S) : CC l D (tysOf TC) H0 yX6_productOf cX6_productOf 3 (some .int) 6 0 0 [.ref 2, .int v, .int w] ad (hall TC X S o) (PR ad (some (.int (mR (kPO S v w) (rPO S v w)))) (hall TC X (mS (kPO S v w) (S) (id)) o)) (fun _ => False) := by
  refine cc_intro hst (by decide +kernel) (Nat.le_of_ble_eq_true rfl) ?_
  intro p e s m args below meth c F
  rw [show lv_args 0 [.ref 2, .int v, .int w] = [(0, .ref 2), (1, .int v), (2, .int w)] from rfl]
  obtain ⟨hc, hs, hp, hd0, hm, h7, h8, hbo0, hu0, hvr⟩ := id hi
  have hc2 := hc.2; have hs2 := hs.2; have hp2 := hp.2; have hd := hd0.2; have hm2 := hm.2
  refine wa_aload_n F dX6_productOf_0 (i := 0) rfl 0 rfl ?_
  refine wa_aload_n F dX6_productOf_1 (i := 0) rfl 0 rfl ?_
  refine wa_iload_n F dX6_productOf_2 (i := 1) rfl 1 rfl ?_
  refine wa_callV F [.ref 2] (c_X6_isProduct hst D TC H0 ad X S o v) mw_X6_isProduct ml_X6_145 hm_m rfl rfl (Nat.le_of_ble_eq_true rfl) ⟨Nat.le_of_ble_eq_true rfl, Nat.le_of_ble_eq_true rfl⟩ ⟨Nat.le_of_ble_eq_true rfl, Nat.le_of_ble_eq_true rfl⟩ dX6_productOf_3 PR_ag (fun _ z => z.elim) ?_
  rintro _ _ _ ⟨rfl, rfl, rfl⟩
  refine wa_if_ne (tgt := 13) F dX6_productOf_6 (by decide) (fun c6 => ?_) (fun c6 => ?_)
  · skip
    replace c6 : (sIn v 0 (S 13 0 - 1)) = true := bI_t c6
    obtain ⟨jv, lv, rfl⟩ := sIn_nat hp.1 (by omega) c6
    have ev : tn (nI jv) = jv := tn_nI (by omega)
    refine wa_iload_n F dX6_productOf_13 (i := 2) rfl 2 rfl ?_
    refine wa_iconst (v := 0) F dX6_productOf_14 (by decide) ?_
    refine wa_bipush (v := 6) F dX6_productOf_15 (by decide) ?_
    refine wa_callS F [.ref 2] (c_X6_in hst D (tysOf TC) H0 ad (hall TC X S o) w 0 6) mw_X6_in ml_X6_111 rfl (Nat.le_of_ble_eq_true rfl) ⟨Nat.le_of_ble_eq_true rfl, Nat.le_of_ble_eq_true rfl⟩ ⟨Nat.le_of_ble_eq_true rfl, Nat.le_of_ble_eq_true rfl⟩ dX6_productOf_17 PR_ag (fun _ z => z.elim) ?_
    rintro _ _ _ ⟨rfl, rfl, rfl⟩
    refine wa_if_ne (tgt := 27) F dX6_productOf_20 (by decide) (fun c20 => ?_) (fun c20 => ?_)
    · skip
      replace c20 : (sIn w 0 6) = true := bI_t c20
      obtain ⟨jw, lw, rfl⟩ := sIn_lit (n := 6) (by decide) c20
      have ew : tn (nI jw) = jw := tn_nI (by omega)
      refine wa_iconst (v := 0) F dX6_productOf_27 (by decide) ?_
      refine wa_callV F [] (c_X6_refused hst D TC H0 ad X S o 0) mw_X6_refused ml_X6_127 hm_m rfl rfl (Nat.le_of_ble_eq_true rfl) ⟨Nat.le_of_ble_eq_true rfl, Nat.le_of_ble_eq_true rfl⟩ ⟨Nat.le_of_ble_eq_true rfl, Nat.le_of_ble_eq_true rfl⟩ dX6_productOf_28 PR_ag (fun _ z => z.elim) ?_
      rintro _ _ _ ⟨rfl, rfl, rfl⟩
      rw [show (bI (decide (¬ (0 : Int32) = 0))) = 0 from rfl]
      refine wa_if_eq (tgt := 36) F dX6_productOf_31 (by decide) (fun _ => ?_) (fun z => absurd (by decide) z)
      refine wa_iload_n F dX6_productOf_36 (i := 2) rfl 2 rfl ?_
      have hsw : jw = 0 ∨ jw = 1 ∨ jw = 2 ∨ jw = 3 ∨ jw = 4 ∨ jw = 5 ∨ jw = 6 := by omega
      rcases hsw with rfl | rfl | rfl | rfl | rfl | rfl | rfl
      · skip
        refine wa_tableIn (off := 39) (tgt := 76) F dX6_productOf_37 (by decide) (by decide) rfl (by decide) ?_
        refine wa_aload_n F dX6_productOf_76 (i := 0) rfl 0 rfl ?_
        refine wa_getf (v := .ref 114) F LY_X6 (hm_m (S := (sU S 0 0 0))) 14 (by decide) fl_X6_38 rfl dX6_productOf_77 ?_
        refine wa_iload_n F dX6_productOf_80 (i := 1) rfl 1 rfl ?_
        refine wa_iald (f := S 14) F 0 rfl (hm_14 (S := (sU S 0 0 0))) jv rfl (by omega) (by decide) dX6_productOf_81 ?_
        refine wa_iret F rfl (Nat.le_of_ble_eq_true rfl) (Nat.le_of_ble_eq_true rfl) dX6_productOf_82 ?_
        have ek : kPO S (nI jv) (nI 0) = 0 := by simp [kPO, c6, c20, ev]
        refine ⟨?_, rfl, ?_⟩
        · rw [ek, mR_0]
          refine congrArg (fun z => some (Value.int z)) ?_
          unfold rPO; rw [ev]; first | rfl | exact (sMk_0 S 0 jv).symm
        · rw [ek, mS_0]
          rfl
      · skip
        refine wa_tableIn (off := 46) (tgt := 83) F dX6_productOf_37 (by decide) (by decide) rfl (by decide) ?_
        refine wa_aload_n F dX6_productOf_83 (i := 0) rfl 0 rfl ?_
        refine wa_getf (v := .ref 115) F LY_X6 (hm_m (S := (sU S 0 0 0))) 15 (by decide) fl_X6_41 rfl dX6_productOf_84 ?_
        refine wa_iload_n F dX6_productOf_87 (i := 1) rfl 1 rfl ?_
        refine wa_iald (f := S 15) F 0 rfl (hm_15 (S := (sU S 0 0 0))) jv rfl (by omega) (by decide) dX6_productOf_88 ?_
        refine wa_iret F rfl (Nat.le_of_ble_eq_true rfl) (Nat.le_of_ble_eq_true rfl) dX6_productOf_89 ?_
        have ek : kPO S (nI jv) (nI 1) = 0 := by simp [kPO, c6, c20, ev]
        refine ⟨?_, rfl, ?_⟩
        · rw [ek, mR_0]
          refine congrArg (fun z => some (Value.int z)) ?_
          unfold rPO; rw [ev]; first | rfl | exact (sMk_0 S 0 jv).symm
        · rw [ek, mS_0]
          rfl
      · skip
        refine wa_tableIn (off := 53) (tgt := 90) F dX6_productOf_37 (by decide) (by decide) rfl (by decide) ?_
        refine wa_aload_n F dX6_productOf_90 (i := 0) rfl 0 rfl ?_
        refine wa_getf (v := .ref 120) F LY_X6 (hm_m (S := (sU S 0 0 0))) 20 (by decide) fl_X6_56 rfl dX6_productOf_91 ?_
        refine wa_iload_n F dX6_productOf_94 (i := 1) rfl 1 rfl ?_
        refine wa_iald (f := S 20) F 0 rfl (hm_20 (S := (sU S 0 0 0))) jv rfl (by omega) (by decide) dX6_productOf_95 ?_
        refine wa_iret F rfl (Nat.le_of_ble_eq_true rfl) (Nat.le_of_ble_eq_true rfl) dX6_productOf_96 ?_
        have ek : kPO S (nI jv) (nI 2) = 0 := by simp [kPO, c6, c20, ev]
        refine ⟨?_, rfl, ?_⟩
        · rw [ek, mR_0]
          refine congrArg (fun z => some (Value.int z)) ?_
          unfold rPO; rw [ev]; first | rfl | exact (sMk_0 S 0 jv).symm
        · rw [ek, mS_0]
          rfl
      · skip
        refine wa_tableIn (off := 60) (tgt := 97) F dX6_productOf_37 (by decide) (by decide) rfl (by decide) ?_
        refine wa_aload_n F dX6_productOf_97 (i := 0) rfl 0 rfl ?_
        refine wa_getf (v := .ref 121) F LY_X6 (hm_m (S := (sU S 0 0 0))) 21 (by decide) fl_X6_59 rfl dX6_productOf_98 ?_
        refine wa_iload_n F dX6_productOf_101 (i := 1) rfl 1 rfl ?_
        refine wa_iald (f := S 21) F 0 rfl (hm_21 (S := (sU S 0 0 0))) jv rfl (by omega) (by decide) dX6_productOf_102 ?_
        refine wa_iret F rfl (Nat.le_of_ble_eq_true rfl) (Nat.le_of_ble_eq_true rfl) dX6_productOf_103 ?_
        have ek : kPO S (nI jv) (nI 3) = 0 := by simp [kPO, c6, c20, ev]
        refine ⟨?_, rfl, ?_⟩
        · rw [ek, mR_0]
          refine congrArg (fun z => some (Value.int z)) ?_
          unfold rPO; rw [ev]; first | rfl | exact (sMk_0 S 0 jv).symm
        · rw [ek, mS_0]
          rfl
      · skip
        refine wa_tableIn (off := 67) (tgt := 104) F dX6_productOf_37 (by decide) (by decide) rfl (by decide) ?_
        refine wa_aload_n F dX6_productOf_104 (i := 0) rfl 0 rfl ?_
        refine wa_getf (v := .ref 122) F LY_X6 (hm_m (S := (sU S 0 0 0))) 22 (by decide) fl_X6_62 rfl dX6_productOf_105 ?_
        refine wa_iload_n F dX6_productOf_108 (i := 1) rfl 1 rfl ?_
        refine wa_iald (f := S 22) F 0 rfl (hm_22 (S := (sU S 0 0 0))) jv rfl (by omega) (by decide) dX6_productOf_109 ?_
        refine wa_iret F rfl (Nat.le_of_ble_eq_true rfl) (Nat.le_of_ble_eq_true rfl) dX6_productOf_110 ?_
        have ek : kPO S (nI jv) (nI 4) = 0 := by simp [kPO, c6, c20, ev]
        refine ⟨?_, rfl, ?_⟩
        · rw [ek, mR_0]
          refine congrArg (fun z => some (Value.int z)) ?_
          unfold rPO; rw [ev]; first | rfl | exact (sMk_0 S 0 jv).symm
        · rw [ek, mS_0]
          rfl
      · skip
        refine wa_tableIn (off := 74) (tgt := 111) F dX6_productOf_37 (by decide) (by decide) rfl (by decide) ?_
        refine wa_aload_n F dX6_productOf_111 (i := 0) rfl 0 rfl ?_
        refine wa_getf (v := .ref 123) F LY_X6 (hm_m (S := (sU S 0 0 0))) 23 (by decide) fl_X6_65 rfl dX6_productOf_112 ?_
        refine wa_iload_n F dX6_productOf_115 (i := 1) rfl 1 rfl ?_
        refine wa_iald (f := S 23) F 0 rfl (hm_23 (S := (sU S 0 0 0))) jv rfl (by omega) (by decide) dX6_productOf_116 ?_
        refine wa_iret F rfl (Nat.le_of_ble_eq_true rfl) (Nat.le_of_ble_eq_true rfl) dX6_productOf_117 ?_
        have ek : kPO S (nI jv) (nI 5) = 0 := by simp [kPO, c6, c20, ev]
        refine ⟨?_, rfl, ?_⟩
        · rw [ek, mR_0]
          refine congrArg (fun z => some (Value.int z)) ?_
          unfold rPO; rw [ev]; first | rfl | exact (sMk_0 S 0 jv).symm
        · rw [ek, mS_0]
          rfl
      · skip
        refine wa_tableOut (tgt := 118) F dX6_productOf_37 (Or.inr (by decide)) (by decide) ?_
        refine wa_aload_n F dX6_productOf_118 (i := 0) rfl 0 rfl ?_
        refine wa_iload_n F dX6_productOf_119 (i := 1) rfl 1 rfl ?_
        refine wa_callV F [] (c_X6_onMarket hst D TC H0 ad X (sU S 0 0 0) o jv (by omega) hm) mw_X6_onMarket ml_X6_203 hm_m rfl rfl (Nat.le_of_ble_eq_true rfl) ⟨Nat.le_of_ble_eq_true rfl, Nat.le_of_ble_eq_true rfl⟩ ⟨Nat.le_of_ble_eq_true rfl, Nat.le_of_ble_eq_true rfl⟩ dX6_productOf_120 PR_ag (fun _ z => z.elim) ?_
        rintro _ _ _ ⟨rfl, rfl, rfl⟩
        refine wa_iret F rfl (Nat.le_of_ble_eq_true rfl) (Nat.le_of_ble_eq_true rfl) dX6_productOf_123 ?_
        have ek : kPO S (nI jv) (nI 6) = 0 := by simp [kPO, c6, c20, ev]
        refine ⟨?_, rfl, ?_⟩
        · rw [ek, mR_0]
          refine congrArg (fun z => some (Value.int z)) ?_
          unfold rPO; rw [ev]; first | rfl | exact (sMk_0 S 0 jv).symm
        · rw [ek, mS_0]
          rfl
    · skip
      replace c20 : (sIn w 0 6) = false := bI_f c20
      refine wa_iconst (v := 2) F dX6_productOf_23 (by decide) ?_
      refine wa_goto (tgt := 28) F dX6_productOf_24 (by decide) ?_
      refine wa_callV F [] (c_X6_refused hst D TC H0 ad X S o 2) mw_X6_refused ml_X6_127 hm_m rfl rfl (Nat.le_of_ble_eq_true rfl) ⟨Nat.le_of_ble_eq_true rfl, Nat.le_of_ble_eq_true rfl⟩ ⟨Nat.le_of_ble_eq_true rfl, Nat.le_of_ble_eq_true rfl⟩ dX6_productOf_28 PR_ag (fun _ z => z.elim) ?_
      rintro _ _ _ ⟨rfl, rfl, rfl⟩
      rw [show (bI (decide (¬ (2 : Int32) = 0))) = 1 from rfl]
      refine wa_if_eq (tgt := 36) F dX6_productOf_31 (by decide) (fun z => absurd z (by decide)) (fun _ => ?_)
      refine wa_iconst (v := 0) F dX6_productOf_34 (by decide) ?_
      refine wa_iret F rfl (Nat.le_of_ble_eq_true rfl) (Nat.le_of_ble_eq_true rfl) dX6_productOf_35 ?_
      have ek : kPO S (nI jv) w = 2 := by simp [kPO, c6, c20, ev]
      exact ⟨by rw [ek, mR_n (by decide)], rfl, by rw [ek, mS_n (by decide)]⟩
  · skip
    replace c6 : (sIn v 0 (S 13 0 - 1)) = false := bI_f c6
    refine wa_iconst (v := 1) F dX6_productOf_9 (by decide) ?_
    refine wa_goto (tgt := 28) F dX6_productOf_10 (by decide) ?_
    refine wa_callV F [] (c_X6_refused hst D TC H0 ad X S o 1) mw_X6_refused ml_X6_127 hm_m rfl rfl (Nat.le_of_ble_eq_true rfl) ⟨Nat.le_of_ble_eq_true rfl, Nat.le_of_ble_eq_true rfl⟩ ⟨Nat.le_of_ble_eq_true rfl, Nat.le_of_ble_eq_true rfl⟩ dX6_productOf_28 PR_ag (fun _ z => z.elim) ?_
    rintro _ _ _ ⟨rfl, rfl, rfl⟩
    rw [show (bI (decide (¬ (1 : Int32) = 0))) = 1 from rfl]
    refine wa_if_eq (tgt := 36) F dX6_productOf_31 (by decide) (fun z => absurd z (by decide)) (fun _ => ?_)
    refine wa_iconst (v := 0) F dX6_productOf_34 (by decide) ?_
    refine wa_iret F rfl (Nat.le_of_ble_eq_true rfl) (Nat.le_of_ble_eq_true rfl) dX6_productOf_35 ?_
    have ek : kPO S v w = 1 := by simp [kPO, c6]
    exact ⟨by rw [ek, mR_n (by decide)], rfl, by rw [ek, mS_n (by decide)]⟩
set_option maxHeartbeats 2000000 in
set_option maxRecDepth 20000 in
theorem c_X6_batchOf {l : Launch} (hst : l.stackTraces = false) (D : va_G) (TC : Nat → ClassId) (H0 : Heap) (ad : Nat → Nat) (X S : St) (o : Nat → Int64) (v : Int32) (w : Int32) (n : Nat) (hi : INV n S) : CC l D (tysOf TC) H0 yX6_batchOf cX6_batchOf 3 (some .int) 6 0 0 [.ref 2, .int v, .int w] ad (hall TC X S o) (PR ad (some (.int (mR (kBO S v w) (rBO S v w)))) (hall TC X (mS (kBO S v w) (S) (id)) o)) (fun _ => False) := by
  refine cc_intro hst (by decide +kernel) (Nat.le_of_ble_eq_true rfl) ?_
  intro p e s m args below meth c F
  rw [show lv_args 0 [.ref 2, .int v, .int w] = [(0, .ref 2), (1, .int v), (2, .int w)] from rfl]
  obtain ⟨hc, hs, hp, hd0, hm, h7, h8, hbo0, hu0, hvr⟩ := id hi
  have hc2 := hc.2; have hs2 := hs.2; have hp2 := hp.2; have hd := hd0.2; have hm2 := hm.2
  refine wa_aload_n F dX6_batchOf_0 (i := 0) rfl 0 rfl ?_
  refine wa_aload_n F dX6_batchOf_1 (i := 0) rfl 0 rfl ?_
  refine wa_iload_n F dX6_batchOf_2 (i := 1) rfl 1 rfl ?_
  refine wa_callV F [.ref 2] (c_X6_isBatch hst D TC H0 ad X S o v) mw_X6_isBatch ml_X6_197 hm_m rfl rfl (Nat.le_of_ble_eq_true rfl) ⟨Nat.le_of_ble_eq_true rfl, Nat.le_of_ble_eq_true rfl⟩ ⟨Nat.le_of_ble_eq_true rfl, Nat.le_of_ble_eq_true rfl⟩ dX6_batchOf_3 PR_ag (fun _ z => z.elim) ?_
  rintro _ _ _ ⟨rfl, rfl, rfl⟩
  refine wa_if_ne (tgt := 13) F dX6_batchOf_6 (by decide) (fun c6 => ?_) (fun c6 => ?_)
  · skip
    replace c6 : (sIn v 0 (S 28 0 - 1)) = true := bI_t c6
    obtain ⟨jv, lv, rfl⟩ := sIn_nat hm.1 (by omega) c6
    have ev : tn (nI jv) = jv := tn_nI (by omega)
    have hu := ne0_of_toInt (hu0 jv lv).1
    refine wa_iload_n F dX6_batchOf_13 (i := 2) rfl 2 rfl ?_
    refine wa_iconst (v := 0) F dX6_batchOf_14 (by decide) ?_
    refine wa_bipush (v := 8) F dX6_batchOf_15 (by decide) ?_
    refine wa_callS F [.ref 2] (c_X6_in hst D (tysOf TC) H0 ad (hall TC X S o) w 0 8) mw_X6_in ml_X6_111 rfl (Nat.le_of_ble_eq_true rfl) ⟨Nat.le_of_ble_eq_true rfl, Nat.le_of_ble_eq_true rfl⟩ ⟨Nat.le_of_ble_eq_true rfl, Nat.le_of_ble_eq_true rfl⟩ dX6_batchOf_17 PR_ag (fun _ z => z.elim) ?_
    rintro _ _ _ ⟨rfl, rfl, rfl⟩
    refine wa_if_ne (tgt := 27) F dX6_batchOf_20 (by decide) (fun c20 => ?_) (fun c20 => ?_)
    · skip
      replace c20 : (sIn w 0 8) = true := bI_t c20
      obtain ⟨jw, lw, rfl⟩ := sIn_lit (n := 8) (by decide) c20
      have ew : tn (nI jw) = jw := tn_nI (by omega)
      refine wa_iconst (v := 0) F dX6_batchOf_27 (by decide) ?_
      refine wa_callV F [] (c_X6_refused hst D TC H0 ad X S o 0) mw_X6_refused ml_X6_127 hm_m rfl rfl (Nat.le_of_ble_eq_true rfl) ⟨Nat.le_of_ble_eq_true rfl, Nat.le_of_ble_eq_true rfl⟩ ⟨Nat.le_of_ble_eq_true rfl, Nat.le_of_ble_eq_true rfl⟩ dX6_batchOf_28 PR_ag (fun _ z => z.elim) ?_
      rintro _ _ _ ⟨rfl, rfl, rfl⟩
      rw [show (bI (decide (¬ (0 : Int32) = 0))) = 0 from rfl]
      refine wa_if_eq (tgt := 36) F dX6_batchOf_31 (by decide) (fun _ => ?_) (fun z => absurd (by decide) z)
      refine wa_iload_n F dX6_batchOf_36 (i := 2) rfl 2 rfl ?_
      have hsw : jw = 0 ∨ jw = 1 ∨ jw = 2 ∨ jw = 3 ∨ jw = 4 ∨ jw = 5 ∨ jw = 6 ∨ jw = 7 ∨ jw = 8 := by omega
      rcases hsw with rfl | rfl | rfl | rfl | rfl | rfl | rfl | rfl | rfl
      · skip
        refine wa_tableIn (off := 47) (tgt := 84) F dX6_batchOf_37 (by decide) (by decide) rfl (by decide) ?_
        refine wa_aload_n F dX6_batchOf_84 (i := 0) rfl 0 rfl ?_
        refine wa_getf (v := .ref 129) F LY_X6 (hm_m (S := (sU S 0 0 0))) 29 (by decide) fl_X6_77 rfl dX6_batchOf_85 ?_
        refine wa_iload_n F dX6_batchOf_88 (i := 1) rfl 1 rfl ?_
        refine wa_iald (f := S 29) F 0 rfl (hm_29 (S := (sU S 0 0 0))) jv rfl (by omega) (by decide) dX6_batchOf_89 ?_
        refine wa_iret F rfl (Nat.le_of_ble_eq_true rfl) (Nat.le_of_ble_eq_true rfl) dX6_batchOf_90 ?_
        have ek : kBO S (nI jv) (nI 0) = 0 := by simp [kBO, c6, c20, ev]
        refine ⟨?_, rfl, ?_⟩
        · rw [ek, mR_0]
          refine congrArg (fun z => some (Value.int z)) ?_
          unfold rBO; rw [ev]; rfl
        · rw [ek, mS_0]
          rfl
      · skip
        refine wa_tableIn (off := 54) (tgt := 91) F dX6_batchOf_37 (by decide) (by decide) rfl (by decide) ?_
        refine wa_aload_n F dX6_batchOf_91 (i := 0) rfl 0 rfl ?_
        refine wa_getf (v := .ref 130) F LY_X6 (hm_m (S := (sU S 0 0 0))) 30 (by decide) fl_X6_80 rfl dX6_batchOf_92 ?_
        refine wa_iload_n F dX6_batchOf_95 (i := 1) rfl 1 rfl ?_
        refine wa_iald (f := S 30) F 0 rfl (hm_30 (S := (sU S 0 0 0))) jv rfl (by omega) (by decide) dX6_batchOf_96 ?_
        refine wa_iret F rfl (Nat.le_of_ble_eq_true rfl) (Nat.le_of_ble_eq_true rfl) dX6_batchOf_97 ?_
        have ek : kBO S (nI jv) (nI 1) = 0 := by simp [kBO, c6, c20, ev]
        refine ⟨?_, rfl, ?_⟩
        · rw [ek, mR_0]
          refine congrArg (fun z => some (Value.int z)) ?_
          unfold rBO; rw [ev]; rfl
        · rw [ek, mS_0]
          rfl
      · skip
        refine wa_tableIn (off := 61) (tgt := 98) F dX6_batchOf_37 (by decide) (by decide) rfl (by decide) ?_
        refine wa_aload_n F dX6_batchOf_98 (i := 0) rfl 0 rfl ?_
        refine wa_getf (v := .ref 131) F LY_X6 (hm_m (S := (sU S 0 0 0))) 31 (by decide) fl_X6_83 rfl dX6_batchOf_99 ?_
        refine wa_iload_n F dX6_batchOf_102 (i := 1) rfl 1 rfl ?_
        refine wa_iald (f := S 31) F 0 rfl (hm_31 (S := (sU S 0 0 0))) jv rfl (by omega) (by decide) dX6_batchOf_103 ?_
        refine wa_iret F rfl (Nat.le_of_ble_eq_true rfl) (Nat.le_of_ble_eq_true rfl) dX6_batchOf_104 ?_
        have ek : kBO S (nI jv) (nI 2) = 0 := by simp [kBO, c6, c20, ev]
        refine ⟨?_, rfl, ?_⟩
        · rw [ek, mR_0]
          refine congrArg (fun z => some (Value.int z)) ?_
          unfold rBO; rw [ev]; rfl
        · rw [ek, mS_0]
          rfl
      · skip
        refine wa_tableIn (off := 68) (tgt := 105) F dX6_batchOf_37 (by decide) (by decide) rfl (by decide) ?_
        refine wa_aload_n F dX6_batchOf_105 (i := 0) rfl 0 rfl ?_
        refine wa_getf (v := .ref 132) F LY_X6 (hm_m (S := (sU S 0 0 0))) 32 (by decide) fl_X6_86 rfl dX6_batchOf_106 ?_
        refine wa_iload_n F dX6_batchOf_109 (i := 1) rfl 1 rfl ?_
        refine wa_iald (f := S 32) F 0 rfl (hm_32 (S := (sU S 0 0 0))) jv rfl (by omega) (by decide) dX6_batchOf_110 ?_
        refine wa_iret F rfl (Nat.le_of_ble_eq_true rfl) (Nat.le_of_ble_eq_true rfl) dX6_batchOf_111 ?_
        have ek : kBO S (nI jv) (nI 3) = 0 := by simp [kBO, c6, c20, ev]
        refine ⟨?_, rfl, ?_⟩
        · rw [ek, mR_0]
          refine congrArg (fun z => some (Value.int z)) ?_
          unfold rBO; rw [ev]; rfl
        · rw [ek, mS_0]
          rfl
      · skip
        refine wa_tableIn (off := 75) (tgt := 112) F dX6_batchOf_37 (by decide) (by decide) rfl (by decide) ?_
        refine wa_aload_n F dX6_batchOf_112 (i := 0) rfl 0 rfl ?_
        refine wa_getf (v := .ref 133) F LY_X6 (hm_m (S := (sU S 0 0 0))) 33 (by decide) fl_X6_89 rfl dX6_batchOf_113 ?_
        refine wa_iload_n F dX6_batchOf_116 (i := 1) rfl 1 rfl ?_
        refine wa_iald (f := S 33) F 0 rfl (hm_33 (S := (sU S 0 0 0))) jv rfl (by omega) (by decide) dX6_batchOf_117 ?_
        refine wa_iret F rfl (Nat.le_of_ble_eq_true rfl) (Nat.le_of_ble_eq_true rfl) dX6_batchOf_118 ?_
        have ek : kBO S (nI jv) (nI 4) = 0 := by simp [kBO, c6, c20, ev]
        refine ⟨?_, rfl, ?_⟩
        · rw [ek, mR_0]
          refine congrArg (fun z => some (Value.int z)) ?_
          unfold rBO; rw [ev]; rfl
        · rw [ek, mS_0]
          rfl
      · skip
        refine wa_tableIn (off := 82) (tgt := 119) F dX6_batchOf_37 (by decide) (by decide) rfl (by decide) ?_
        refine wa_aload_n F dX6_batchOf_119 (i := 0) rfl 0 rfl ?_
        refine wa_getf (v := .ref 134) F LY_X6 (hm_m (S := (sU S 0 0 0))) 34 (by decide) fl_X6_92 rfl dX6_batchOf_120 ?_
        refine wa_iload_n F dX6_batchOf_123 (i := 1) rfl 1 rfl ?_
        refine wa_iald (f := S 34) F 0 rfl (hm_34 (S := (sU S 0 0 0))) jv rfl (by omega) (by decide) dX6_batchOf_124 ?_
        refine wa_iret F rfl (Nat.le_of_ble_eq_true rfl) (Nat.le_of_ble_eq_true rfl) dX6_batchOf_125 ?_
        have ek : kBO S (nI jv) (nI 5) = 0 := by simp [kBO, c6, c20, ev]
        refine ⟨?_, rfl, ?_⟩
        · rw [ek, mR_0]
          refine congrArg (fun z => some (Value.int z)) ?_
          unfold rBO; rw [ev]; rfl
        · rw [ek, mS_0]
          rfl
      · skip
        refine wa_tableIn (off := 89) (tgt := 126) F dX6_batchOf_37 (by decide) (by decide) rfl (by decide) ?_
        refine wa_aload_n F dX6_batchOf_126 (i := 0) rfl 0 rfl ?_
        refine wa_getf (v := .ref 135) F LY_X6 (hm_m (S := (sU S 0 0 0))) 35 (by decide) fl_X6_95 rfl dX6_batchOf_127 ?_
        refine wa_iload_n F dX6_batchOf_130 (i := 1) rfl 1 rfl ?_
        refine wa_iald (f := S 35) F 0 rfl (hm_35 (S := (sU S 0 0 0))) jv rfl (by omega) (by decide) dX6_batchOf_131 ?_
        refine wa_iret F rfl (Nat.le_of_ble_eq_true rfl) (Nat.le_of_ble_eq_true rfl) dX6_batchOf_132 ?_
        have ek : kBO S (nI jv) (nI 6) = 0 := by simp [kBO, c6, c20, ev]
        refine ⟨?_, rfl, ?_⟩
        · rw [ek, mR_0]
          refine congrArg (fun z => some (Value.int z)) ?_
          unfold rBO; rw [ev]; rfl
        · rw [ek, mS_0]
          rfl
      · skip
        refine wa_tableIn (off := 96) (tgt := 133) F dX6_batchOf_37 (by decide) (by decide) rfl (by decide) ?_
        refine wa_aload_n F dX6_batchOf_133 (i := 0) rfl 0 rfl ?_
        refine wa_iload_n F dX6_batchOf_134 (i := 1) rfl 1 rfl ?_
        refine wa_callV F [] (c_X6_levelOf hst D TC H0 ad X (sU S 0 0 0) o jv (by omega) hu) mw_X6_levelOf ml_X6_200 hm_m rfl rfl (Nat.le_of_ble_eq_true rfl) ⟨Nat.le_of_ble_eq_true rfl, Nat.le_of_ble_eq_true rfl⟩ ⟨Nat.le_of_ble_eq_true rfl, Nat.le_of_ble_eq_true rfl⟩ dX6_batchOf_135 PR_ag (fun _ z => z.elim) ?_
        rintro _ _ _ ⟨rfl, rfl, rfl⟩
        refine wa_iret F rfl (Nat.le_of_ble_eq_true rfl) (Nat.le_of_ble_eq_true rfl) dX6_batchOf_138 ?_
        have ek : kBO S (nI jv) (nI 7) = 0 := by simp [kBO, c6, c20, ev]
        refine ⟨?_, rfl, ?_⟩
        · rw [ek, mR_0]
          refine congrArg (fun z => some (Value.int z)) ?_
          unfold rBO; rw [ev]; rfl
        · rw [ek, mS_0]
          rfl
      · skip
        refine wa_tableOut (tgt := 139) F dX6_batchOf_37 (Or.inr (by decide)) (by decide) ?_
        refine wa_aload_n F dX6_batchOf_139 (i := 0) rfl 0 rfl ?_
        refine wa_getf (v := .ref 137) F LY_X6 (hm_m (S := (sU S 0 0 0))) 37 (by decide) fl_X6_101 rfl dX6_batchOf_140 ?_
        refine wa_iload_n F dX6_batchOf_143 (i := 1) rfl 1 rfl ?_
        refine wa_iald (f := S 37) F 0 rfl (hm_37 (S := (sU S 0 0 0))) jv rfl (by omega) (by decide) dX6_batchOf_144 ?_
        refine wa_iret F rfl (Nat.le_of_ble_eq_true rfl) (Nat.le_of_ble_eq_true rfl) dX6_batchOf_145 ?_
        have ek : kBO S (nI jv) (nI 8) = 0 := by simp [kBO, c6, c20, ev]
        refine ⟨?_, rfl, ?_⟩
        · rw [ek, mR_0]
          refine congrArg (fun z => some (Value.int z)) ?_
          unfold rBO; rw [ev]; rfl
        · rw [ek, mS_0]
          rfl
    · skip
      replace c20 : (sIn w 0 8) = false := bI_f c20
      refine wa_iconst (v := 2) F dX6_batchOf_23 (by decide) ?_
      refine wa_goto (tgt := 28) F dX6_batchOf_24 (by decide) ?_
      refine wa_callV F [] (c_X6_refused hst D TC H0 ad X S o 2) mw_X6_refused ml_X6_127 hm_m rfl rfl (Nat.le_of_ble_eq_true rfl) ⟨Nat.le_of_ble_eq_true rfl, Nat.le_of_ble_eq_true rfl⟩ ⟨Nat.le_of_ble_eq_true rfl, Nat.le_of_ble_eq_true rfl⟩ dX6_batchOf_28 PR_ag (fun _ z => z.elim) ?_
      rintro _ _ _ ⟨rfl, rfl, rfl⟩
      rw [show (bI (decide (¬ (2 : Int32) = 0))) = 1 from rfl]
      refine wa_if_eq (tgt := 36) F dX6_batchOf_31 (by decide) (fun z => absurd z (by decide)) (fun _ => ?_)
      refine wa_iconst (v := 0) F dX6_batchOf_34 (by decide) ?_
      refine wa_iret F rfl (Nat.le_of_ble_eq_true rfl) (Nat.le_of_ble_eq_true rfl) dX6_batchOf_35 ?_
      have ek : kBO S (nI jv) w = 2 := by simp [kBO, c6, c20, ev]
      exact ⟨by rw [ek, mR_n (by decide)], rfl, by rw [ek, mS_n (by decide)]⟩
  · skip
    replace c6 : (sIn v 0 (S 28 0 - 1)) = false := bI_f c6
    refine wa_iconst (v := 1) F dX6_batchOf_9 (by decide) ?_
    refine wa_goto (tgt := 28) F dX6_batchOf_10 (by decide) ?_
    refine wa_callV F [] (c_X6_refused hst D TC H0 ad X S o 1) mw_X6_refused ml_X6_127 hm_m rfl rfl (Nat.le_of_ble_eq_true rfl) ⟨Nat.le_of_ble_eq_true rfl, Nat.le_of_ble_eq_true rfl⟩ ⟨Nat.le_of_ble_eq_true rfl, Nat.le_of_ble_eq_true rfl⟩ dX6_batchOf_28 PR_ag (fun _ z => z.elim) ?_
    rintro _ _ _ ⟨rfl, rfl, rfl⟩
    rw [show (bI (decide (¬ (1 : Int32) = 0))) = 1 from rfl]
    refine wa_if_eq (tgt := 36) F dX6_batchOf_31 (by decide) (fun z => absurd z (by decide)) (fun _ => ?_)
    refine wa_iconst (v := 0) F dX6_batchOf_34 (by decide) ?_
    refine wa_iret F rfl (Nat.le_of_ble_eq_true rfl) (Nat.le_of_ble_eq_true rfl) dX6_batchOf_35 ?_
    have ek : kBO S v w = 1 := by simp [kBO, c6]
    exact ⟨by rw [ek, mR_n (by decide)], rfl, by rw [ek, mS_n (by decide)]⟩
