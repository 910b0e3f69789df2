theorem share_iff {X : St} {i : Nat} (hu : 1 ≤ (X 30 i).toInt ∧ (X 30 i).toInt ≤ 10000) (hh : 0 ≤ (X 37 i).toInt ∧ (X 37 i).toInt ≤ 512000) {w : Int32} {w6 : Int64} {k : Int} (hw : w.toInt = k) (hw6 : w6.toInt = k) (hk : 0 ≤ k ∧ k ≤ 50) :
    (0 ≤ lg_cmp ((X 37 i).toInt64 * 1000) (w6 * (X 30 i).toInt64)) ↔ w ≤ sShare X i := by
  have t : (1000 : Int64).toInt = 1000 := rfl
  have t2 : (1000 : Int32).toInt = 1000 := rfl
  have b1 : k * (X 30 i).toInt ≤ 50 * 10000 := Int.mul_le_mul hk.2 hu.2 (by omega) (by decide)
  have b0 : 0 ≤ k * (X 30 i).toInt := Int.mul_nonneg hk.1 (by omega)
  have m1 : ((X 37 i).toInt64 * 1000).toInt = (X 37 i).toInt * 1000 := by rw [Kit.i64_mul (by rw [Kit.i64_of_i32, t]; omega) (by rw [Kit.i64_of_i32, t]; omega), Kit.i64_of_i32, t]
  have m2 : (w6 * (X 30 i).toInt64).toInt = k * (X 30 i).toInt := by rw [Kit.i64_mul (by rw [Kit.i64_of_i32, hw6]; omega) (by rw [Kit.i64_of_i32, hw6]; omega), Kit.i64_of_i32, hw6]
  have m3 : (X 37 i * 1000).toInt = (X 37 i).toInt * 1000 := by rw [Kit.i32_mul (by rw [t2]; omega) (by rw [t2]; omega), t2]
  rw [lg_cmp_ge, Int64.le_iff_toInt_le, m1, m2, le_toInt, hw]
  unfold sShare
  rw [Kit.i32_div (by rw [m3]; omega), m3, Int.tdiv_eq_ediv_of_nonneg (by omega), Int.le_ediv_iff_mul_le (by omega)]
def sHarm (X : St) (b : Nat) : Int32 := if 50 ≤ sShare X b then 2 else if 10 ≤ sShare X b then 1 else 0
theorem c_BC2 {l : Launch} (hst : l.stackTraces = false) (D : va_G) (tys : List (ClassId × FieldType)) (H0 : Heap) (ad : Nat → Nat) (h : Hp) (v : Int32) (h0 : 0 ≤ v.toInt) (h31 : v.toInt ≤ 31) : CC l D tys H0 yBC cBC 1 (some .int) 0 0 0 [.int v] ad h (PR ad (some (.int (sBits v))) h) (fun _ => False) := by
  obtain ⟨j, hj, rfl⟩ := nI_of (x := v) (fun z => by rw [Int32.lt_iff_toInt_lt, Int32.toInt_zero] at z; omega)
  rw [nI_toInt hj] at h31
  exact c_BC hst D tys H0 ad h j (by omega)
set_option maxHeartbeats 2000000 in
set_option maxRecDepth 20000 in
theorem c_X1_alarmByHarm {l : Launch} (hst : l.stackTraces = false) (D : va_G) (TC : Nat → ClassId) (H0 : Heap) (ad : Nat → Nat) (X S : St) (o : Nat → Int64) (i : Nat) (hi28 : i < cnt X 28) (hb28 : cnt X 28 ≤ 40) (hu : 1 ≤ (X 30 i).toInt ∧ (X 30 i).toInt ≤ 10000) (hh : 0 ≤ (X 37 i).toInt ∧ (X 37 i).toInt ≤ 512000) (h : Hp) (HX : ∀ n e, hall TC X S o n = some e → h n = some e) : CC l D (tysOf TC) H0 yX1_alarmByHarm cX1_alarmByHarm 3 (some .int) 0 0 0 [.ref (1400 + i)] ad h (PR ad (some (.int (sHarm X i))) h) (fun _ => False) := by
  refine cc_intro hst (by decide +kernel) (Nat.le_of_ble_eq_true rfl) ?_
  intro p e s m args below meth c F
  rw [show lv_args 0 [.ref (1400 + i)] = [(0, .ref (1400 + i))] from rfl]
  refine wa_aload_n F dX1_alarmByHarm_0 (i := 0) rfl 0 rfl ?_
  refine wa_getf (v := .int (X 37 i)) F LY_X1 (HX _ _ (hm_bat (TC := TC) (X := X) (S := S) (o := o) hi28 hb28)) 8 (by decide) fl_X1_40 rfl dX1_alarmByHarm_1 ?_
  refine wa_i2l F dX1_alarmByHarm_4 rfl ?_
  refine wa_ldc2 F kl_X1_43 dX1_alarmByHarm_5 ?_
  refine wa_lmul F dX1_alarmByHarm_8 ?_
  refine wa_lstore_n (lv' := [(1, .long (((X 37 i).toInt64) * 1000)), (0, .ref (1400 + i))]) F dX1_alarmByHarm_9 (i := 1) rfl (by decide) rfl ?_
  refine wa_lload_n F dX1_alarmByHarm_10 (i := 1) rfl 0 rfl ?_
  refine wa_ldc2 F kl_X1_45 dX1_alarmByHarm_11 ?_
  refine wa_aload_n F dX1_alarmByHarm_14 (i := 0) rfl 1 rfl ?_
  refine wa_getf (v := .int (X 30 i)) F LY_X1 (HX _ _ (hm_bat (TC := TC) (X := X) (S := S) (o := o) hi28 hb28)) 1 (by decide) fl_X1_15 rfl dX1_alarmByHarm_15 ?_
  refine wa_i2l F dX1_alarmByHarm_18 rfl ?_
  refine wa_lmul F dX1_alarmByHarm_19 ?_
  refine wa_lcmp F dX1_alarmByHarm_20 ?_
  refine wa_if_lt (tgt := 26) F dX1_alarmByHarm_21 (by decide) (fun c21 => ?_) (fun c21 => ?_)
  · skip
    replace c21 := lt_nle c21
    refine wa_lload_n F dX1_alarmByHarm_26 (i := 1) rfl 0 rfl ?_
    refine wa_ldc2 F kl_X1_47 dX1_alarmByHarm_27 ?_
    refine wa_aload_n F dX1_alarmByHarm_30 (i := 0) rfl 1 rfl ?_
    refine wa_getf (v := .int (X 30 i)) F LY_X1 (HX _ _ (hm_bat (TC := TC) (X := X) (S := S) (o := o) hi28 hb28)) 1 (by decide) fl_X1_15 rfl dX1_alarmByHarm_31 ?_
    refine wa_i2l F dX1_alarmByHarm_34 rfl ?_
    refine wa_lmul F dX1_alarmByHarm_35 ?_
    refine wa_lcmp F dX1_alarmByHarm_36 ?_
    refine wa_if_lt (tgt := 44) F dX1_alarmByHarm_37 (by decide) (fun c37 => ?_) (fun c37 => ?_)
    · skip
      replace c37 := lt_nle c37
      refine wa_iconst (v := 0) F dX1_alarmByHarm_44 (by decide) ?_
      refine wa_iret F rfl (Nat.le_of_ble_eq_true rfl) (Nat.le_of_ble_eq_true rfl) dX1_alarmByHarm_45 ?_
      exact ⟨congrArg (fun z => some (Value.int z)) (by unfold sHarm; rw [if_neg (fun z => c21 ((share_iff hu hh (w := 50) (w6 := 50) (k := 50) rfl rfl (by decide)).mpr z)), if_neg (fun z => c37 ((share_iff hu hh (w := 10) (w6 := 10) (k := 10) rfl rfl (by decide)).mpr z))]), rfl, rfl⟩
    · skip
      replace c37 := nlt_le c37
      refine wa_iconst (v := 1) F dX1_alarmByHarm_40 (by decide) ?_
      refine wa_goto (tgt := 45) F dX1_alarmByHarm_41 (by decide) ?_
      refine wa_iret F rfl (Nat.le_of_ble_eq_true rfl) (Nat.le_of_ble_eq_true rfl) dX1_alarmByHarm_45 ?_
      exact ⟨congrArg (fun z => some (Value.int z)) (by unfold sHarm; rw [if_neg (fun z => c21 ((share_iff hu hh (w := 50) (w6 := 50) (k := 50) rfl rfl (by decide)).mpr z)), if_pos ((share_iff hu hh (w := 10) (w6 := 10) (k := 10) rfl rfl (by decide)).mp c37)]), rfl, rfl⟩
  · skip
    replace c21 := nlt_le c21
    refine wa_iconst (v := 2) F dX1_alarmByHarm_24 (by decide) ?_
    refine wa_iret F rfl (Nat.le_of_ble_eq_true rfl) (Nat.le_of_ble_eq_true rfl) dX1_alarmByHarm_25 ?_
    exact ⟨congrArg (fun z => some (Value.int z)) (by unfold sHarm; rw [if_pos ((share_iff hu hh (w := 50) (w6 := 50) (k := 50) rfl rfl (by decide)).mp c21)]), rfl, rfl⟩
set_option maxHeartbeats 2000000 in
set_option maxRecDepth 20000 in
theorem c_X1_alarmLevel {l : Launch} (hst : l.stackTraces = false) (D : va_G) (TC : Nat → ClassId) (H0 : Heap) (ad : Nat → Nat) (X S : St) (o : Nat → Int64) (i : Nat) (hi28 : i < cnt X 28) (hb28 : cnt X 28 ≤ 40) (hu : 1 ≤ (X 30 i).toInt ∧ (X 30 i).toInt ≤ 10000) (hh : 0 ≤ (X 37 i).toInt ∧ (X 37 i).toInt ≤ 512000) (h : Hp) (HX : ∀ n e, hall TC X S o n = some e → h n = some e) : CC l D (tysOf TC) H0 yX1_alarmLevel cX1_alarmLevel 1 (some .int) 1 0 0 [.ref (1400 + i)] ad h (PR ad (some (.int (sLevel X i))) h) (fun _ => False) := by
  refine cc_intro hst (by decide +kernel) (Nat.le_of_ble_eq_true rfl) ?_
  intro p e s m args below meth c F
  rw [show lv_args 0 [.ref (1400 + i)] = [(0, .ref (1400 + i))] from rfl]
  refine wa_aload_n F dX1_alarmLevel_0 (i := 0) rfl 0 rfl ?_
  refine wa_getf (v := .int (X 36 i)) F LY_X1 (HX _ _ (hm_bat (TC := TC) (X := X) (S := S) (o := o) hi28 hb28)) 7 (by decide) fl_X1_33 rfl dX1_alarmLevel_1 ?_
  refine wa_aload_n F dX1_alarmLevel_4 (i := 0) rfl 0 rfl ?_
  refine wa_callV F [.int (X 36 i)] (c_X1_alarmByHarm hst D TC H0 ad X S o i hi28 hb28 hu hh h HX) mw_X1_alarmByHarm ml_X1_36 (HX _ _ (hm_bat (TC := TC) (X := X) (S := S) (o := o) hi28 hb28)) rfl rfl (Nat.le_of_ble_eq_true rfl) ⟨Nat.le_of_ble_eq_true rfl, Nat.le_of_ble_eq_true rfl⟩ ⟨Nat.le_of_ble_eq_true rfl, Nat.le_of_ble_eq_true rfl⟩ dX1_alarmLevel_5 PR_ag (fun _ z => z.elim) ?_
  rintro _ _ _ ⟨rfl, rfl, rfl⟩
  refine wa_iadd F dX1_alarmLevel_8 ?_
  refine wa_aload_n F dX1_alarmLevel_9 (i := 0) rfl 0 rfl ?_
  refine wa_getf (v := .int (X 35 i)) F LY_X1 (HX _ _ (hm_bat (TC := TC) (X := X) (S := S) (o := o) hi28 hb28)) 6 (by decide) fl_X1_30 rfl dX1_alarmLevel_10 ?_
  refine wa_iconst (v := 2) F dX1_alarmLevel_13 (by decide) ?_
  refine wa_icmp_ne (tgt := 21) F dX1_alarmLevel_14 (by decide) (fun c14 => ?_) (fun c14 => ?_)
  · skip
    refine wa_iconst (v := 0) F dX1_alarmLevel_21 (by decide) ?_
    refine wa_iadd F dX1_alarmLevel_22 ?_
    refine wa_iret F rfl (Nat.le_of_ble_eq_true rfl) (Nat.le_of_ble_eq_true rfl) dX1_alarmLevel_23 ?_
    exact ⟨congrArg (fun z => some (Value.int z)) (by unfold sLevel sHarm; simp only [c14, if_true, if_false]), rfl, rfl⟩
  · skip
    refine wa_iconst (v := 1) F dX1_alarmLevel_17 (by decide) ?_
    refine wa_goto (tgt := 22) F dX1_alarmLevel_18 (by decide) ?_
    refine wa_iadd F dX1_alarmLevel_22 ?_
    refine wa_iret F rfl (Nat.le_of_ble_eq_true rfl) (Nat.le_of_ble_eq_true rfl) dX1_alarmLevel_23 ?_
    exact ⟨congrArg (fun z => some (Value.int z)) (by unfold sLevel sHarm; simp only [c14, if_true, if_false]), rfl, rfl⟩
set_option maxHeartbeats 2000000 in
set_option maxRecDepth 20000 in
theorem c_X5_firstLack {l : Launch} (hst : l.stackTraces = false) (D : va_G) (TC : Nat → ClassId) (H0 : Heap) (ad : Nat → Nat) (X S : St) (o : Nat → Int64) (q : Nat) (hq : q < cnt X 13) (n : Nat) (hi : INV n X) (h : Hp) (HX : ∀ n e, hall TC X S o n = some e → h n = some e) : CC l D (tysOf TC) H0 yX5_firstLack cX5_firstLack 4 (some .int) 4 0 0 [.ref 0, .ref (1200 + q)] ad h (PR ad (some (.int (sWant X q))) h) (fun _ => False) := by
  refine cc_intro hst (by decide +kernel) (Nat.le_of_ble_eq_true rfl) ?_
  intro p e s m args below meth c F
  rw [show lv_args 0 [.ref 0, .ref (1200 + q)] = [(0, .ref 0), (1, .ref (1200 + q))] from rfl]
  obtain ⟨hc, hs, hpp, hd0, hmm, h7, h8, hbo, hu0, hvr⟩ := id hi
  obtain ⟨hvh, hday, hclo, h5, h12, h21, hze, h24, hrk, hbz⟩ := hvr
  have hb2 := hc.2; have hb9 := hs.2; have hb13 := hpp.2; have hb25 := hd0.2; have hb28 := hmm.2
  refine wa_aload_n F dX5_firstLack_0 (i := 0) rfl 0 rfl ?_
  refine wa_aload_n F dX5_firstLack_1 (i := 1) rfl 1 rfl ?_
  refine wa_callV F [] (c_X5_hazardsDemanded hst D TC H0 ad X S o q hq _ hi h HX) mw_X5_hazardsDemanded ml_X5_248 (HX _ _ (hm_c (TC := TC) (X := X) (S := S) (o := o))) rfl rfl (Nat.le_of_ble_eq_true rfl) ⟨Nat.le_of_ble_eq_true rfl, Nat.le_of_ble_eq_true rfl⟩ ⟨Nat.le_of_ble_eq_true rfl, Nat.le_of_ble_eq_true rfl⟩ dX5_firstLack_2 PR_ag (fun _ z => z.elim) ?_
  rintro _ _ _ ⟨rfl, rfl, rfl⟩
  refine wa_istore_n (lv' := [(2, .int (sDem X q)), (0, .ref 0), (1, .ref (1200 + q))]) F dX5_firstLack_5 (i := 2) rfl (by decide) rfl ?_
  refine wa_aload_n F dX5_firstLack_6 (i := 0) rfl 1 rfl ?_
  refine wa_aload_n F dX5_firstLack_7 (i := 1) rfl 2 rfl ?_
  refine wa_iload_n F dX5_firstLack_8 (i := 2) rfl 0 rfl ?_
  refine wa_callV F [] (c_X5_wayOf hst D TC H0 ad X S o q hq _ hi h HX) mw_X5_wayOf ml_X5_255 (HX _ _ (hm_c (TC := TC) (X := X) (S := S) (o := o))) rfl rfl (Nat.le_of_ble_eq_true rfl) ⟨Nat.le_of_ble_eq_true rfl, Nat.le_of_ble_eq_true rfl⟩ ⟨Nat.le_of_ble_eq_true rfl, Nat.le_of_ble_eq_true rfl⟩ dX5_firstLack_9 PR_ag (fun _ z => z.elim) ?_
  rintro _ _ _ ⟨rfl, rfl, rfl⟩
  refine wa_istore_n (lv' := [(3, .int (sWay X q)), (2, .int (sDem X q)), (0, .ref 0), (1, .ref (1200 + q))]) F dX5_firstLack_12 (i := 3) rfl (by decide) rfl ?_
  refine wa_aload_n F dX5_firstLack_13 (i := 1) rfl 3 rfl ?_
  refine wa_getN (v := .int (X 24 q)) F LY_X3 (HX _ _ (hm_prd (TC := TC) (X := X) (S := S) (o := o) hq hb13)) 10 (by decide) fn_X5_234 rfl dX5_firstLack_14 ?_
  refine wa_callS F [] (c_BC2 hst D (tysOf TC) H0 ad h (X 24 q) (h24 q hq).1 (h24 q hq).2) mw_BC ml_X5_237 rfl (Nat.le_of_ble_eq_true rfl) ⟨Nat.le_of_ble_eq_true rfl, Nat.le_of_ble_eq_true rfl⟩ ⟨Nat.le_of_ble_eq_true rfl, Nat.le_of_ble_eq_true rfl⟩ dX5_firstLack_17 PR_ag (fun _ z => z.elim) ?_
  rintro _ _ _ ⟨rfl, rfl, rfl⟩
  refine wa_iconst (v := 3) F dX5_firstLack_20 (by decide) ?_
  refine wa_icmp_lt (tgt := 26) F dX5_firstLack_21 (by decide) (fun c21 => ?_) (fun c21 => ?_)
  · skip
    replace c21 := lt_nle c21
    refine wa_iload_n F dX5_firstLack_26 (i := 2) rfl 1 rfl ?_
    refine wa_aload_n F dX5_firstLack_27 (i := 1) rfl 3 rfl ?_
    refine wa_iconst (v := 4) F dX5_firstLack_28 (by decide) ?_
    refine wa_callV F [.int (sDem X q)] (c_X3_hazardsAfterAbove hst D TC H0 ad X S o q hq hb13 4 h HX) mw_X3_hazardsAfterAbove ml_X5_307 (HX _ _ (hm_prd (TC := TC) (X := X) (S := S) (o := o) hq hb13)) rfl rfl (Nat.le_of_ble_eq_true rfl) ⟨Nat.le_of_ble_eq_true rfl, Nat.le_of_ble_eq_true rfl⟩ ⟨Nat.le_of_ble_eq_true rfl, Nat.le_of_ble_eq_true rfl⟩ dX5_firstLack_29 PR_ag (fun _ z => z.elim) ?_
    rintro _ _ _ ⟨rfl, rfl, rfl⟩
    refine wa_iand F dX5_firstLack_32 ?_
    refine wa_if_eq (tgt := 38) F dX5_firstLack_33 (by decide) (fun c33 => ?_) (fun c33 => ?_)
    · skip
      replace c33 : sLow X q = sDem X q := (low_iff h5 q).mp c33
      refine wa_aload_n F dX5_firstLack_38 (i := 0) rfl 2 rfl ?_
      refine wa_aload_n F dX5_firstLack_39 (i := 1) rfl 3 rfl ?_
      refine wa_iload_n F dX5_firstLack_40 (i := 2) rfl 1 rfl ?_
      refine wa_callV F [] (c_X5_hazardsKept hst D TC H0 ad X S o q hq _ hi h HX) mw_X5_hazardsKept ml_X5_251 (HX _ _ (hm_c (TC := TC) (X := X) (S := S) (o := o))) rfl rfl (Nat.le_of_ble_eq_true rfl) ⟨Nat.le_of_ble_eq_true rfl, Nat.le_of_ble_eq_true rfl⟩ ⟨Nat.le_of_ble_eq_true rfl, Nat.le_of_ble_eq_true rfl⟩ dX5_firstLack_41 PR_ag (fun _ z => z.elim) ?_
      rintro _ _ _ ⟨rfl, rfl, rfl⟩
      refine wa_iload_n F dX5_firstLack_44 (i := 2) rfl 1 rfl ?_
      refine wa_icmp_eq (tgt := 50) F dX5_firstLack_45 (by decide) (fun c45 => ?_) (fun c45 => ?_)
      · skip
        refine wa_iload_n F dX5_firstLack_50 (i := 3) rfl 0 rfl ?_
        refine wa_if_eq (tgt := 64) F dX5_firstLack_51 (by decide) (fun c51 => ?_) (fun c51 => ?_)
        · skip
          refine wa_iload_n F dX5_firstLack_64 (i := 3) rfl 0 rfl ?_
          refine wa_iconst (v := 2) F dX5_firstLack_65 (by decide) ?_
          refine wa_icmp_ne (tgt := 82) F dX5_firstLack_66 (by decide) (fun c66 => ?_) (fun c66 => ?_)
          · skip
            refine wa_iload_n F dX5_firstLack_82 (i := 2) rfl 1 rfl ?_
            refine wa_if_eq (tgt := 99) F dX5_firstLack_83 (by decide) (fun c83 => ?_) (fun c83 => ?_)
            · skip
              refine wa_iconst (v := 0) F dX5_firstLack_99 (by decide) ?_
              refine wa_iret F rfl (Nat.le_of_ble_eq_true rfl) (Nat.le_of_ble_eq_true rfl) dX5_firstLack_100 ?_
              exact ⟨congrArg (fun z => some (Value.int z)) (by simp [sWant, c21, c33, c45, c51, c66, c83]), rfl, rfl⟩
            · skip
              refine wa_aload_n F dX5_firstLack_86 (i := 1) rfl 3 rfl ?_
              refine wa_getN (v := .int (X 23 q)) F LY_X3 (HX _ _ (hm_prd (TC := TC) (X := X) (S := S) (o := o) hq hb13)) 6 (by decide) fn_X5_143 rfl dX5_firstLack_87 ?_
              refine wa_iconst (v := (-1)) F dX5_firstLack_90 (by decide) ?_
              refine wa_icmp_ne (tgt := 99) F dX5_firstLack_91 (by decide) (fun c91 => ?_) (fun c91 => ?_)
              · skip
                refine wa_iconst (v := 0) F dX5_firstLack_99 (by decide) ?_
                refine wa_iret F rfl (Nat.le_of_ble_eq_true rfl) (Nat.le_of_ble_eq_true rfl) dX5_firstLack_100 ?_
                exact ⟨congrArg (fun z => some (Value.int z)) (by simp [sWant, c21, c33, c45, c51, c66, c83, c91]), rfl, rfl⟩
              · skip
                refine wa_bipush (v := 6) F dX5_firstLack_94 (by decide) ?_
                refine wa_goto (tgt := 100) F dX5_firstLack_96 (by decide) ?_
                refine wa_iret F rfl (Nat.le_of_ble_eq_true rfl) (Nat.le_of_ble_eq_true rfl) dX5_firstLack_100 ?_
                exact ⟨congrArg (fun z => some (Value.int z)) (by simp [sWant, c21, c33, c45, c51, c66, c83, c91]), rfl, rfl⟩
          · skip
            rw [c51] at c66; exact absurd c66 (by decide)
        · skip
          refine wa_aload_n F dX5_firstLack_54 (i := 0) rfl 2 rfl ?_
          refine wa_aload_n F dX5_firstLack_55 (i := 1) rfl 3 rfl ?_
          refine wa_callV F [] (c_X5_holdsCertificate hst D TC H0 ad X S o q hq _ hi h HX) mw_X5_holdsCertificate ml_X5_310 (HX _ _ (hm_c (TC := TC) (X := X) (S := S) (o := o))) rfl rfl (Nat.le_of_ble_eq_true rfl) ⟨Nat.le_of_ble_eq_true rfl, Nat.le_of_ble_eq_true rfl⟩ ⟨Nat.le_of_ble_eq_true rfl, Nat.le_of_ble_eq_true rfl⟩ dX5_firstLack_56 PR_ag (fun _ z => z.elim) ?_
          rintro _ _ _ ⟨rfl, rfl, rfl⟩
          refine wa_if_ne (tgt := 64) F dX5_firstLack_59 (by decide) (fun c59 => ?_) (fun c59 => ?_)
          · skip
            replace c59 : (sHolds X q) = true := bI_t c59
            refine wa_iload_n F dX5_firstLack_64 (i := 3) rfl 0 rfl ?_
            refine wa_iconst (v := 2) F dX5_firstLack_65 (by decide) ?_
            refine wa_icmp_ne (tgt := 82) F dX5_firstLack_66 (by decide) (fun c66 => ?_) (fun c66 => ?_)
            · skip
              refine wa_iload_n F dX5_firstLack_82 (i := 2) rfl 1 rfl ?_
              refine wa_if_eq (tgt := 99) F dX5_firstLack_83 (by decide) (fun c83 => ?_) (fun c83 => ?_)
              · skip
                refine wa_iconst (v := 0) F dX5_firstLack_99 (by decide) ?_
                refine wa_iret F rfl (Nat.le_of_ble_eq_true rfl) (Nat.le_of_ble_eq_true rfl) dX5_firstLack_100 ?_
                exact ⟨congrArg (fun z => some (Value.int z)) (by simp [sWant, c21, c33, c45, c51, c59, c66, c83]), rfl, rfl⟩
              · skip
                refine wa_aload_n F dX5_firstLack_86 (i := 1) rfl 3 rfl ?_
                refine wa_getN (v := .int (X 23 q)) F LY_X3 (HX _ _ (hm_prd (TC := TC) (X := X) (S := S) (o := o) hq hb13)) 6 (by decide) fn_X5_143 rfl dX5_firstLack_87 ?_
                refine wa_iconst (v := (-1)) F dX5_firstLack_90 (by decide) ?_
                refine wa_icmp_ne (tgt := 99) F dX5_firstLack_91 (by decide) (fun c91 => ?_) (fun c91 => ?_)
                · skip
                  refine wa_iconst (v := 0) F dX5_firstLack_99 (by decide) ?_
                  refine wa_iret F rfl (Nat.le_of_ble_eq_true rfl) (Nat.le_of_ble_eq_true rfl) dX5_firstLack_100 ?_
                  exact ⟨congrArg (fun z => some (Value.int z)) (by simp [sWant, c21, c33, c45, c51, c59, c66, c83, c91]), rfl, rfl⟩
                · skip
                  refine wa_bipush (v := 6) F dX5_firstLack_94 (by decide) ?_
                  refine wa_goto (tgt := 100) F dX5_firstLack_96 (by decide) ?_
                  refine wa_iret F rfl (Nat.le_of_ble_eq_true rfl) (Nat.le_of_ble_eq_true rfl) dX5_firstLack_100 ?_
                  exact ⟨congrArg (fun z => some (Value.int z)) (by simp [sWant, c21, c33, c45, c51, c59, c66, c83, c91]), rfl, rfl⟩
            · skip
              refine wa_aload_n F dX5_firstLack_69 (i := 1) rfl 3 rfl ?_
              refine wa_aload_n F dX5_firstLack_70 (i := 0) rfl 2 rfl ?_
              refine wa_getf (v := .int (X 1 0)) F LY_X5 (HX _ _ (hm_c (TC := TC) (X := X) (S := S) (o := o))) 10 (by decide) fl_X5_91 rfl dX5_firstLack_71 ?_
              refine wa_callV F [] (c_X3_isVisitCounted hst D TC H0 ad X S o q hq hb13 (X 1 0) h HX) mw_X3_isVisitCounted ml_X5_314 (HX _ _ (hm_prd (TC := TC) (X := X) (S := S) (o := o) hq hb13)) rfl rfl (Nat.le_of_ble_eq_true rfl) ⟨Nat.le_of_ble_eq_true rfl, Nat.le_of_ble_eq_true rfl⟩ ⟨Nat.le_of_ble_eq_true rfl, Nat.le_of_ble_eq_true rfl⟩ dX5_firstLack_74 PR_ag (fun _ z => z.elim) ?_
              rintro _ _ _ ⟨rfl, rfl, rfl⟩
              refine wa_if_ne (tgt := 82) F dX5_firstLack_77 (by decide) (fun c77 => ?_) (fun c77 => ?_)
              · skip
                replace c77 : (decide (¬ X 22 q = -1) && decide ((X 1 0) ≤ X 22 q + 365)) = true := bI_t c77
                simp at c77
                refine wa_iload_n F dX5_firstLack_82 (i := 2) rfl 1 rfl ?_
                refine wa_if_eq (tgt := 99) F dX5_firstLack_83 (by decide) (fun c83 => ?_) (fun c83 => ?_)
                · skip
                  refine wa_iconst (v := 0) F dX5_firstLack_99 (by decide) ?_
                  refine wa_iret F rfl (Nat.le_of_ble_eq_true rfl) (Nat.le_of_ble_eq_true rfl) dX5_firstLack_100 ?_
                  exact ⟨congrArg (fun z => some (Value.int z)) (by simp [sWant, c21, c33, c45, c51, c59, c66, c77, c83]), rfl, rfl⟩
                · skip
                  refine wa_aload_n F dX5_firstLack_86 (i := 1) rfl 3 rfl ?_
                  refine wa_getN (v := .int (X 23 q)) F LY_X3 (HX _ _ (hm_prd (TC := TC) (X := X) (S := S) (o := o) hq hb13)) 6 (by decide) fn_X5_143 rfl dX5_firstLack_87 ?_
                  refine wa_iconst (v := (-1)) F dX5_firstLack_90 (by decide) ?_
                  refine wa_icmp_ne (tgt := 99) F dX5_firstLack_91 (by decide) (fun c91 => ?_) (fun c91 => ?_)
                  · skip
                    refine wa_iconst (v := 0) F dX5_firstLack_99 (by decide) ?_
                    refine wa_iret F rfl (Nat.le_of_ble_eq_true rfl) (Nat.le_of_ble_eq_true rfl) dX5_firstLack_100 ?_
                    exact ⟨congrArg (fun z => some (Value.int z)) (by simp [sWant, c21, c33, c45, c51, c59, c66, c77, c83, c91]), rfl, rfl⟩
                  · skip
                    refine wa_bipush (v := 6) F dX5_firstLack_94 (by decide) ?_
                    refine wa_goto (tgt := 100) F dX5_firstLack_96 (by decide) ?_
                    refine wa_iret F rfl (Nat.le_of_ble_eq_true rfl) (Nat.le_of_ble_eq_true rfl) dX5_firstLack_100 ?_
                    exact ⟨congrArg (fun z => some (Value.int z)) (by simp [sWant, c21, c33, c45, c51, c59, c66, c77, c83, c91]), rfl, rfl⟩
              · skip
                replace c77 : (decide (¬ X 22 q = -1) && decide ((X 1 0) ≤ X 22 q + 365)) = false := bI_f c77
                have d77 : X 22 q = -1 ∨ ¬ X 1 0 ≤ X 22 q + 365 := by
                  rcases Bool.and_eq_false_iff.mp c77 with z | z
                  · exact Or.inl (by simpa using z)
                  · exact Or.inr (of_decide_eq_false z)
                refine wa_iconst (v := 5) F dX5_firstLack_80 (by decide) ?_
                refine wa_iret F rfl (Nat.le_of_ble_eq_true rfl) (Nat.le_of_ble_eq_true rfl) dX5_firstLack_81 ?_
                exact ⟨congrArg (fun z => some (Value.int z)) (by unfold sWant; rw [if_neg c21, if_neg (fun z => z c33), if_neg (fun z => z c45), if_neg (fun z => absurd z.2 (by rw [c59]; decide)), if_pos ⟨c66, d77⟩]), rfl, rfl⟩
          · skip
            replace c59 : (sHolds X q) = false := bI_f c59
            refine wa_iconst (v := 4) F dX5_firstLack_62 (by decide) ?_
            refine wa_iret F rfl (Nat.le_of_ble_eq_true rfl) (Nat.le_of_ble_eq_true rfl) dX5_firstLack_63 ?_
            exact ⟨congrArg (fun z => some (Value.int z)) (by simp [sWant, c21, c33, c45, c51, c59]), rfl, rfl⟩
      · skip
        refine wa_iconst (v := 3) F dX5_firstLack_48 (by decide) ?_
        refine wa_iret F rfl (Nat.le_of_ble_eq_true rfl) (Nat.le_of_ble_eq_true rfl) dX5_firstLack_49 ?_
        exact ⟨congrArg (fun z => some (Value.int z)) (by simp [sWant, c21, c33, c45]), rfl, rfl⟩
    · skip
      replace c33 : ¬ sLow X q = sDem X q := fun z => c33 ((low_iff h5 q).mpr z)
      refine wa_iconst (v := 2) F dX5_firstLack_36 (by decide) ?_
      refine wa_iret F rfl (Nat.le_of_ble_eq_true rfl) (Nat.le_of_ble_eq_true rfl) dX5_firstLack_37 ?_
      exact ⟨congrArg (fun z => some (Value.int z)) (by simp [sWant, c21, c33]), rfl, rfl⟩
  · skip
    replace c21 := nlt_le c21
    refine wa_iconst (v := 1) F dX5_firstLack_24 (by decide) ?_
    refine wa_iret F rfl (Nat.le_of_ble_eq_true rfl) (Nat.le_of_ble_eq_true rfl) dX5_firstLack_25 ?_
    exact ⟨congrArg (fun z => some (Value.int z)) (by simp [sWant, c21]), rfl, rfl⟩
set_option maxHeartbeats 2000000 in
set_option maxRecDepth 20000 in
theorem c_X5_checkMayCertify_ok {l : Launch} (hst : l.stackTraces = false) (D : va_G) (TC : Nat → ClassId) (H0 : Heap) (ad : Nat → Nat) (X S : St) (o : Nat → Int64) (b : Nat) (hb : b < cnt X 25) (q : Nat) (hq : q < cnt X 13) (n : Nat) (hi : INV n X) (hk : X 27 b = -1 ∧ sScope X b q = true) (h : Hp) (HX : ∀ n e, hall TC X S o n = some e → h n = some e) : CC l D (tysOf TC) H0 yX5_checkMayCertify cX5_checkMayCertify 3 none 3 0 0 [.ref 0, .ref (1300 + b), .ref (1200 + q)] ad h (PR ad none h) (fun _ => False) := by
  refine cc_intro hst (by decide +kernel) (Nat.le_of_ble_eq_true rfl) ?_
  intro p e s m args below meth c F
  rw [show lv_args 0 [.ref 0, .ref (1300 + b), .ref (1200 + q)] = [(0, .ref 0), (1, .ref (1300 + b)), (2, .ref (1200 + q))] from rfl]
  obtain ⟨hc, hs, hpp, hd0, hmm, h7, h8, hbo, hu0, hvr⟩ := id hi
  obtain ⟨hvh, hday, hclo, h5, h12, h21, hze, h24, hrk, hbz⟩ := hvr
  have hb2 := hc.2; have hb9 := hs.2; have hb13 := hpp.2; have hb25 := hd0.2; have hb28 := hmm.2
  refine wa_aload_n F dX5_checkMayCertify_0 (i := 1) rfl 1 rfl ?_
  refine wa_callV F [] (c_X2_isSuspended hst D TC H0 ad X S o b hb hb25 h HX) mw_X2_isSuspended ml_X5_156 (HX _ _ (hm_bod (TC := TC) (X := X) (S := S) (o := o) hb hb25)) rfl rfl (Nat.le_of_ble_eq_true rfl) ⟨Nat.le_of_ble_eq_true rfl, Nat.le_of_ble_eq_true rfl⟩ ⟨Nat.le_of_ble_eq_true rfl, Nat.le_of_ble_eq_true rfl⟩ dX5_checkMayCertify_1 PR_ag (fun _ z => z.elim) ?_
  rintro _ _ _ ⟨rfl, rfl, rfl⟩
  refine wa_if_ne (tgt := 19) F dX5_checkMayCertify_4 (by decide) (fun c4 => ?_) (fun c4 => ?_)
  · skip
    replace c4 : (decide (¬ X 27 b = -1)) = true := bI_t c4
    exact absurd hk.1 (by simpa using c4)
  · skip
    replace c4 : (decide (¬ X 27 b = -1)) = false := bI_f c4
    refine wa_aload_n F dX5_checkMayCertify_7 (i := 1) rfl 1 rfl ?_
    refine wa_aload_n F dX5_checkMayCertify_8 (i := 0) rfl 0 rfl ?_
    refine wa_aload_n F dX5_checkMayCertify_9 (i := 2) rfl 2 rfl ?_
    refine wa_callV F [.ref (1300 + b)] (c_X5_actsApplyingTo hst D TC H0 ad X S o q hq _ hi h HX) mw_X5_actsApplyingTo ml_X5_245 (HX _ _ (hm_c (TC := TC) (X := X) (S := S) (o := o))) rfl rfl (Nat.le_of_ble_eq_true rfl) ⟨Nat.le_of_ble_eq_true rfl, Nat.le_of_ble_eq_true rfl⟩ ⟨Nat.le_of_ble_eq_true rfl, Nat.le_of_ble_eq_true rfl⟩ dX5_checkMayCertify_10 PR_ag (fun _ z => z.elim) ?_
    rintro _ _ _ ⟨rfl, rfl, rfl⟩
    refine wa_callV F [] (c_X2_hasInScope hst D TC H0 ad X S o b hb hb25 (sAppl X q) h HX) mw_X2_hasInScope ml_X5_287 (HX _ _ (hm_bod (TC := TC) (X := X) (S := S) (o := o) hb hb25)) rfl rfl (Nat.le_of_ble_eq_true rfl) ⟨Nat.le_of_ble_eq_true rfl, Nat.le_of_ble_eq_true rfl⟩ ⟨Nat.le_of_ble_eq_true rfl, Nat.le_of_ble_eq_true rfl⟩ dX5_checkMayCertify_13 PR_ag (fun _ z => z.elim) ?_
    rintro _ _ _ ⟨rfl, rfl, rfl⟩
    refine wa_if_ne (tgt := 30) F dX5_checkMayCertify_16 (by decide) (fun c16 => ?_) (fun c16 => ?_)
    · skip
      replace c16 : (sScope X b q) = true := bI_t c16
      refine wa_vret F (Nat.le_of_ble_eq_true rfl) (Nat.le_of_ble_eq_true rfl) dX5_checkMayCertify_30 ?_
      exact ⟨rfl, rfl, rfl⟩
    · skip
      replace c16 : (sScope X b q) = false := bI_f c16
      exact absurd hk.2 (by rw [c16]; decide)
set_option maxHeartbeats 2000000 in
set_option maxRecDepth 20000 in
theorem c_X5_checkMayCertify_no {l : Launch} (hst : l.stackTraces = false) (D : va_G) (TC : Nat → ClassId) (H0 : Heap) (ad : Nat → Nat) (X S : St) (o : Nat → Int64) (b : Nat) (hb : b < cnt X 25) (q : Nat) (hq : q < cnt X 13) (n : Nat) (hi : INV n X) (hk : ¬ (X 27 b = -1 ∧ sScope X b q = true)) (h : Hp) (HX : ∀ n e, hall TC X S o n = some e → h n = some e) : CC l D (tysOf TC) H0 yX5_checkMayCertify cX5_checkMayCertify 3 none 6 1 6 [.ref 0, .ref (1300 + b), .ref (1200 + q)] ad h (fun _ _ _ => False) (fun E => E = "java/lang/IllegalStateException") := by
  refine cc_intro hst (by decide +kernel) (Nat.le_of_ble_eq_true rfl) ?_
  intro p e s m args below meth c F
  rw [show lv_args 0 [.ref 0, .ref (1300 + b), .ref (1200 + q)] = [(0, .ref 0), (1, .ref (1300 + b)), (2, .ref (1200 + q))] from rfl]
  obtain ⟨hc, hs, hpp, hd0, hmm, h7, h8, hbo, hu0, hvr⟩ := id hi
  obtain ⟨hvh, hday, hclo, h5, h12, h21, hze, h24, hrk, hbz⟩ := hvr
  have hb2 := hc.2; have hb9 := hs.2; have hb13 := hpp.2; have hb25 := hd0.2; have hb28 := hmm.2
  refine wa_aload_n F dX5_checkMayCertify_0 (i := 1) rfl 1 rfl ?_
  refine wa_callV F [] (c_X2_isSuspended hst D TC H0 ad X S o b hb hb25 h HX) mw_X2_isSuspended ml_X5_156 (HX _ _ (hm_bod (TC := TC) (X := X) (S := S) (o := o) hb hb25)) rfl rfl (Nat.le_of_ble_eq_true rfl) ⟨Nat.le_of_ble_eq_true rfl, Nat.le_of_ble_eq_true rfl⟩ ⟨Nat.le_of_ble_eq_true rfl, Nat.le_of_ble_eq_true rfl⟩ dX5_checkMayCertify_1 PR_ag (fun _ z => z.elim) ?_
  rintro _ _ _ ⟨rfl, rfl, rfl⟩
  refine wa_if_ne (tgt := 19) F dX5_checkMayCertify_4 (by decide) (fun c4 => ?_) (fun c4 => ?_)
  · skip
    replace c4 : (decide (¬ X 27 b = -1)) = true := bI_t c4
    exact wa_throwSW F ft_IS cl_X5_47 in_IS sr_X5_290 at_IS gd_IS dX5_checkMayCertify_19 dX5_checkMayCertify_22 dX5_checkMayCertify_23 dX5_checkMayCertify_26 dX5_checkMayCertify_29 (Nat.le_of_ble_eq_true rfl) (Nat.le_of_ble_eq_true rfl) (Nat.le_of_ble_eq_true rfl) (Nat.le_of_ble_eq_true rfl) (Nat.le_of_ble_eq_true rfl) (Nat.le_of_ble_eq_true rfl) (Nat.le_of_ble_eq_true rfl) rfl rfl rfl
  · skip
    replace c4 : (decide (¬ X 27 b = -1)) = false := bI_f c4
    refine wa_aload_n F dX5_checkMayCertify_7 (i := 1) rfl 1 rfl ?_
    refine wa_aload_n F dX5_checkMayCertify_8 (i := 0) rfl 0 rfl ?_
    refine wa_aload_n F dX5_checkMayCertify_9 (i := 2) rfl 2 rfl ?_
    refine wa_callV F [.ref (1300 + b)] (c_X5_actsApplyingTo hst D TC H0 ad X S o q hq _ hi h HX) mw_X5_actsApplyingTo ml_X5_245 (HX _ _ (hm_c (TC := TC) (X := X) (S := S) (o := o))) rfl rfl (Nat.le_of_ble_eq_true rfl) ⟨Nat.le_of_ble_eq_true rfl, Nat.le_of_ble_eq_true rfl⟩ ⟨Nat.le_of_ble_eq_true rfl, Nat.le_of_ble_eq_true rfl⟩ dX5_checkMayCertify_10 PR_ag (fun _ z => z.elim) ?_
    rintro _ _ _ ⟨rfl, rfl, rfl⟩
    refine wa_callV F [] (c_X2_hasInScope hst D TC H0 ad X S o b hb hb25 (sAppl X q) h HX) mw_X2_hasInScope ml_X5_287 (HX _ _ (hm_bod (TC := TC) (X := X) (S := S) (o := o) hb hb25)) rfl rfl (Nat.le_of_ble_eq_true rfl) ⟨Nat.le_of_ble_eq_true rfl, Nat.le_of_ble_eq_true rfl⟩ ⟨Nat.le_of_ble_eq_true rfl, Nat.le_of_ble_eq_true rfl⟩ dX5_checkMayCertify_13 PR_ag (fun _ z => z.elim) ?_
    rintro _ _ _ ⟨rfl, rfl, rfl⟩
    refine wa_if_ne (tgt := 30) F dX5_checkMayCertify_16 (by decide) (fun c16 => ?_) (fun c16 => ?_)
    · skip
      replace c16 : (sScope X b q) = true := bI_t c16
      refine wa_vret F (Nat.le_of_ble_eq_true rfl) (Nat.le_of_ble_eq_true rfl) dX5_checkMayCertify_30 ?_
      exact absurd ⟨by simpa using c4, c16⟩ hk
    · skip
      replace c16 : (sScope X b q) = false := bI_f c16
      exact wa_throwSW F ft_IS cl_X5_47 in_IS sr_X5_290 at_IS gd_IS dX5_checkMayCertify_19 dX5_checkMayCertify_22 dX5_checkMayCertify_23 dX5_checkMayCertify_26 dX5_checkMayCertify_29 (Nat.le_of_ble_eq_true rfl) (Nat.le_of_ble_eq_true rfl) (Nat.le_of_ble_eq_true rfl) (Nat.le_of_ble_eq_true rfl) (Nat.le_of_ble_eq_true rfl) (Nat.le_of_ble_eq_true rfl) (Nat.le_of_ble_eq_true rfl) rfl rfl rfl
set_option maxHeartbeats 2000000 in
set_option maxRecDepth 20000 in
theorem c_X5_actsMoreSpecialThan {l : Launch} (hst : l.stackTraces = false) (D : va_G) (TC : Nat → ClassId) (H0 : Heap) (ad : Nat → Nat) (X S : St) (o : Nat → Int64) (i : Nat) (hi2 : i < cnt X 2) (n : Nat) (hi : INV n X) (h : Hp) (HX : ∀ n e, hall TC X S o n = some e → h n = some e) : CC l D (tysOf TC) H0 yX5_actsMoreSpecialThan cX5_actsMoreSpecialThan 6 (some .int) 1 0 0 [.ref 0, .ref (1000 + i)] ad h (PR ad (some (.int (mO X (msB X i) 5))) h) (fun _ => False) := by
  refine cc_intro hst (by decide +kernel) (Nat.le_of_ble_eq_true rfl) ?_
  intro p e s m args below meth c F
  rw [show lv_args 0 [.ref 0, .ref (1000 + i)] = [(0, .ref 0), (1, .ref (1000 + i))] from rfl]
  obtain ⟨hc, hs, hpp, hd0, hmm, h7, h8, hbo, hu0, hvr⟩ := id hi
  obtain ⟨hvh, hday, hclo, h5, h12, h21, hze, h24, hrk, hbz⟩ := hvr
  have hb2 := hc.2; have hb9 := hs.2; have hb13 := hpp.2; have hb25 := hd0.2; have hb28 := hmm.2
  refine wa_aload_n F dX5_actsMoreSpecialThan_0 (i := 1) rfl 1 rfl ?_
  refine wa_getN (v := .int (msB X i)) F LY_X0 (HX _ _ (hm_act (TC := TC) (X := X) (S := S) (o := o) hi2 hb2)) 4 (by decide) fn_X5_76 rfl dX5_actsMoreSpecialThan_1 ?_
  refine wa_istore_n (lv' := [(2, .int (msB X i)), (0, .ref 0), (1, .ref (1000 + i))]) F dX5_actsMoreSpecialThan_4 (i := 2) rfl (by decide) rfl ?_
  refine wa_iconst (v := 1) F dX5_actsMoreSpecialThan_5 (by decide) ?_
  refine wa_istore_n (lv' := [(3, .int 1), (2, .int (msB X i)), (0, .ref 0), (1, .ref (1000 + i))]) F dX5_actsMoreSpecialThan_6 (i := 3) rfl (by decide) rfl ?_
  have loop7 : ∀ (n k : Nat), k ≤ 5 → 5 - k < n → WA D H0 p l e (RM 1 0 0) s m args below meth c 6 (vx_MQ below (QC0 D H0 (PR ad (some (.int (mO X (msB X i) 5))) h)) (XC0 D H0 (fun _ => False) ad h) args s 0 0 (hA0 H0)) ad h 0 0 7 [(3, .int (nI (k + 1))), (2, .int (mO X (msB X i) k)), (0, .ref 0), (1, .ref (1000 + i))] [] := by
    intro n
    induction n with
    | zero => intro k h1 h2; omega
    | succ n ih_k =>
      intro k hk_k hn_k
      refine wa_iload_n F dX5_actsMoreSpecialThan_7 (i := 3) rfl 0 rfl ?_
      refine wa_aload_n F dX5_actsMoreSpecialThan_8 (i := 0) rfl 2 rfl ?_
      refine wa_getf (v := .ref 10) F LY_X5 (HX _ _ (hm_c (TC := TC) (X := X) (S := S) (o := o))) 0 (by decide) fl_X5_11 rfl dX5_actsMoreSpecialThan_9 ?_
      refine wa_alen F 3 rfl (HX _ _ (hm_a0 (TC := TC) (X := X) (S := S) (o := o))) dX5_actsMoreSpecialThan_12 ?_
      refine wa_icmp_ge (tgt := 72) F dX5_actsMoreSpecialThan_13 (by decide) (fun c13 => ?_) (fun c13 => ?_)
      · skip
        have he_k : k = 5 := by have := nle_k (N := 6) (k := k + 1) rfl (by omega) (by omega) c13; omega
        subst he_k
        refine wa_iload_n F dX5_actsMoreSpecialThan_72 (i := 2) rfl 1 rfl ?_
        refine wa_iret F rfl (Nat.le_of_ble_eq_true rfl) (Nat.le_of_ble_eq_true rfl) dX5_actsMoreSpecialThan_73 ?_
        exact ⟨rfl, rfl, rfl⟩
      · skip
        have hl_k : k < 5 := by have := knle (N := 6) (k := k + 1) rfl (by omega) (by omega) c13; omega
        refine wa_iconst (v := 0) F dX5_actsMoreSpecialThan_16 (by decide) ?_
        refine wa_istore (lv' := [(4, .int 0), (3, .int (nI (k + 1))), (2, .int (mO X (msB X i) k)), (0, .ref 0), (1, .ref (1000 + i))]) F dX5_actsMoreSpecialThan_17 (by decide) rfl ?_
        have loop19 : ∀ (n j : Nat), j ≤ 6 → 6 - j < n → WA D H0 p l e (RM 1 0 0) s m args below meth c 6 (vx_MQ below (QC0 D H0 (PR ad (some (.int (mO X (msB X i) 5))) h)) (XC0 D H0 (fun _ => False) ad h) args s 0 0 (hA0 H0)) ad h 0 0 19 [(4, .int (nI j)), (3, .int (nI (k + 1))), (2, .int (mI X (mO X (msB X i) k) j)), (0, .ref 0), (1, .ref (1000 + i))] [] := by
          intro n
          induction n with
          | zero => intro j h1 h2; omega
          | succ n ih_j =>
            intro j hk_j hn_j
            refine wa_iload F dX5_actsMoreSpecialThan_19 0 rfl ?_
            refine wa_aload_n F dX5_actsMoreSpecialThan_21 (i := 0) rfl 3 rfl ?_
            refine wa_getf (v := .ref 10) F LY_X5 (HX _ _ (hm_c (TC := TC) (X := X) (S := S) (o := o))) 0 (by decide) fl_X5_11 rfl dX5_actsMoreSpecialThan_22 ?_
            refine wa_alen F 3 rfl (HX _ _ (hm_a0 (TC := TC) (X := X) (S := S) (o := o))) dX5_actsMoreSpecialThan_25 ?_
            refine wa_icmp_ge (tgt := 66) F dX5_actsMoreSpecialThan_26 (by decide) (fun c26 => ?_) (fun c26 => ?_)
            · skip
              have he_j : j = 6 := Nat.le_antisymm hk_j (nle_k rfl (by omega) (by omega) c26)
              subst he_j
              refine wa_iinc (v := (nI ((k + 1) + 1))) (j := 1) (lv' := [(3, .int (nI ((k + 1) + 1))), (4, .int (nI 6)), (2, .int (mI X (mO X (msB X i) k) 6)), (0, .ref 0), (1, .ref (1000 + i))]) F dX5_actsMoreSpecialThan_66 rfl ((nI_succ (k + 1)).symm) (by decide) rfl ?_
              refine wa_goto (tgt := 7) F dX5_actsMoreSpecialThan_69 (by decide) ?_
              have ea1 : (mI X (mO X (msB X i) k) 6) = (mO X (msB X i) (k + 1)) := rfl
              refine wa_lv (lv' := [(3, .int (nI ((k + 1) + 1))), (2, .int (mO X (msB X i) (k + 1))), (0, .ref 0), (1, .ref (1000 + i))]) [0, 2, 3, 4] (by rw [← ea1]; rfl) ?_
              exact ih_k (k + 1) (by omega) (by omega)
            · skip
              have hl_j : j < 6 := knle rfl (by omega) (by omega) c26
              refine wa_aload_n F dX5_actsMoreSpecialThan_29 (i := 0) rfl 3 rfl ?_
              refine wa_getf (v := .ref 10) F LY_X5 (HX _ _ (hm_c (TC := TC) (X := X) (S := S) (o := o))) 0 (by decide) fl_X5_11 rfl dX5_actsMoreSpecialThan_30 ?_
              refine wa_iload F dX5_actsMoreSpecialThan_33 0 rfl ?_
              by_cases c35 : j < cnt X 2
              · skip
                refine wa_aald F 3 rfl (HX _ _ (hm_a0 (TC := TC) (X := X) (S := S) (o := o))) j rfl (by omega) (by decide) (rarr_t c35) dX5_actsMoreSpecialThan_35 ?_
                refine wa_astore (lv' := [(5, .ref (1000 + j)), (4, .int (nI j)), (3, .int (nI (k + 1))), (2, .int (mI X (mO X (msB X i) k) j)), (0, .ref 0), (1, .ref (1000 + i))]) F dX5_actsMoreSpecialThan_36 (by decide) rfl ?_
                refine wa_aload F dX5_actsMoreSpecialThan_38 0 rfl ?_
                refine wa_ifnull F dX5_actsMoreSpecialThan_40 ?_
                refine wa_iload_n F dX5_actsMoreSpecialThan_43 (i := 2) rfl 3 rfl ?_
                refine wa_iload F dX5_actsMoreSpecialThan_44 1 rfl ?_
                refine wa_callS F [] (c_X5_hasBit hst D (tysOf TC) H0 ad h (mI X (mO X (msB X i) k) j) (nI j)) mw_X5_hasBit ml_X5_70 rfl (Nat.le_of_ble_eq_true rfl) ⟨Nat.le_of_ble_eq_true rfl, Nat.le_of_ble_eq_true rfl⟩ ⟨Nat.le_of_ble_eq_true rfl, Nat.le_of_ble_eq_true rfl⟩ dX5_actsMoreSpecialThan_46 PR_ag (fun _ z => z.elim) ?_
                rintro _ _ _ ⟨rfl, rfl, rfl⟩
                refine wa_if_eq (tgt := 60) F dX5_actsMoreSpecialThan_49 (by decide) (fun c49 => ?_) (fun c49 => ?_)
                · skip
                  replace c49 : (hB (mI X (mO X (msB X i) k) j) (nI j)) = false := bI_f c49
                  refine wa_iinc (v := (nI (j + 1))) (j := 1) (lv' := [(4, .int (nI (j + 1))), (5, .ref (1000 + j)), (3, .int (nI (k + 1))), (2, .int (mI X (mO X (msB X i) k) j)), (0, .ref 0), (1, .ref (1000 + i))]) F dX5_actsMoreSpecialThan_60 rfl ((nI_succ j).symm) (by decide) rfl ?_
                  refine wa_goto (tgt := 19) F dX5_actsMoreSpecialThan_63 (by decide) ?_
                  have ea2 : (mI X (mO X (msB X i) k) j) = (mI X (mO X (msB X i) k) (j + 1)) := by simp [mI, c35, c49]
                  refine wa_lv (lv' := [(4, .int (nI (j + 1))), (3, .int (nI (k + 1))), (2, .int (mI X (mO X (msB X i) k) (j + 1))), (0, .ref 0), (1, .ref (1000 + i))]) [0, 2, 3, 4, 5] (by rw [← ea2]; rfl) ?_
                  exact ih_j (j + 1) (by omega) (by omega)
                · skip
                  replace c49 : (hB (mI X (mO X (msB X i) k) j) (nI j)) = true := bI_t c49
                  refine wa_iload_n F dX5_actsMoreSpecialThan_52 (i := 2) rfl 3 rfl ?_
                  refine wa_aload F dX5_actsMoreSpecialThan_53 0 rfl ?_
                  refine wa_getN (v := .int (msB X j)) F LY_X0 (HX _ _ (hm_act (TC := TC) (X := X) (S := S) (o := o) c35 hb2)) 4 (by decide) fn_X5_76 rfl dX5_actsMoreSpecialThan_55 ?_
                  refine wa_ior F dX5_actsMoreSpecialThan_58 ?_
                  refine wa_istore_n (lv' := [(2, .int ((mI X (mO X (msB X i) k) j) ||| (msB X j))), (5, .ref (1000 + j)), (4, .int (nI j)), (3, .int (nI (k + 1))), (0, .ref 0), (1, .ref (1000 + i))]) F dX5_actsMoreSpecialThan_59 (i := 2) rfl (by decide) rfl ?_
                  refine wa_iinc (v := (nI (j + 1))) (j := 2) (lv' := [(4, .int (nI (j + 1))), (2, .int ((mI X (mO X (msB X i) k) j) ||| (msB X j))), (5, .ref (1000 + j)), (3, .int (nI (k + 1))), (0, .ref 0), (1, .ref (1000 + i))]) F dX5_actsMoreSpecialThan_60 rfl ((nI_succ j).symm) (by decide) rfl ?_
                  refine wa_goto (tgt := 19) F dX5_actsMoreSpecialThan_63 (by decide) ?_
                  have ea3 : ((mI X (mO X (msB X i) k) j) ||| (msB X j)) = (mI X (mO X (msB X i) k) (j + 1)) := by simp [mI, c35, c49]
                  refine wa_lv (lv' := [(4, .int (nI (j + 1))), (3, .int (nI (k + 1))), (2, .int (mI X (mO X (msB X i) k) (j + 1))), (0, .ref 0), (1, .ref (1000 + i))]) [0, 3, 1, 4, 5] (by rw [← ea3]; rfl) ?_
                  exact ih_j (j + 1) (by omega) (by omega)
              · skip
                refine wa_aald F 3 rfl (HX _ _ (hm_a0 (TC := TC) (X := X) (S := S) (o := o))) j rfl (by omega) (by decide) (rarr_f c35) dX5_actsMoreSpecialThan_35 ?_
                refine wa_astoreN (lv' := [(5, .null), (4, .int (nI j)), (3, .int (nI (k + 1))), (2, .int (mI X (mO X (msB X i) k) j)), (0, .ref 0), (1, .ref (1000 + i))]) F dX5_actsMoreSpecialThan_36 (by decide) rfl ?_
                refine wa_aloadN F dX5_actsMoreSpecialThan_38 0 rfl ?_
                refine wa_ifnullN (tgt := 60) F dX5_actsMoreSpecialThan_40 (by decide) ?_
                refine wa_iinc (v := (nI (j + 1))) (j := 1) (lv' := [(4, .int (nI (j + 1))), (5, .null), (3, .int (nI (k + 1))), (2, .int (mI X (mO X (msB X i) k) j)), (0, .ref 0), (1, .ref (1000 + i))]) F dX5_actsMoreSpecialThan_60 rfl ((nI_succ j).symm) (by decide) rfl ?_
                refine wa_goto (tgt := 19) F dX5_actsMoreSpecialThan_63 (by decide) ?_
                have ea4 : (mI X (mO X (msB X i) k) j) = (mI X (mO X (msB X i) k) (j + 1)) := by simp [mI, c35]
                refine wa_lv (lv' := [(4, .int (nI (j + 1))), (3, .int (nI (k + 1))), (2, .int (mI X (mO X (msB X i) k) (j + 1))), (0, .ref 0), (1, .ref (1000 + i))]) [0, 2, 3, 4, 5] (by rw [← ea4]; rfl) ?_
                exact ih_j (j + 1) (by omega) (by omega)
        exact loop19 (6 + 1) 0 (Nat.zero_le _) (by omega)
  exact loop7 (5 + 1) 0 (Nat.zero_le _) (by omega)
