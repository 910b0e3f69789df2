theorem haz_lt {v : Int32} (h : ¬ 0 ≤ v) : ¬ sIn v 0 7 = true := by simp [sIn, h]
theorem haz_ge {v : Int32} (h : 8 ≤ v) : ¬ sIn v 0 7 = true := by
  have : ¬ v ≤ 7 := fun z => by rw [le_toInt, show (7 : Int32).toInt = 7 from rfl] at z; rw [le_toInt, show (8 : Int32).toInt = 8 from rfl] at h; omega
  simp [sIn, this]
theorem haz_ok {v : Int32} (h : 0 ≤ v) (h2 : ¬ 8 ≤ v) : ¬ sIn v 0 7 = false := by
  have : v ≤ 7 := by
    rw [le_toInt, show (7 : Int32).toInt = 7 from rfl]
    rw [le_toInt, show (8 : Int32).toInt = 8 from rfl] at h2
    omega
  simp [sIn, this, h]
theorem nI_nneg {j : Nat} (h : j < 2 ^ 31) : ¬ ¬ (0 : Int32) ≤ nI j := fun z => z (by rw [le_toInt, nI_toInt h, Int32.toInt_zero]; omega)
theorem sIn_of {j n : Nat} (h : j < n) (hn : n ≤ 1000) : sIn (nI j) 0 (nI n - 1) = true := by
  have h1 : (0 : Int32) ≤ nI j := by rw [le_toInt, nI_toInt (by omega), Int32.toInt_zero]; omega
  have h2 : nI j ≤ nI n - 1 := by rw [le_toInt, nI_toInt (by omega), show (nI n - 1 : Int32) = nI n - nI 1 from rfl, pk_sub_toInt (by omega) (by omega)]; omega
  simp [sIn, h1, h2]
set_option maxHeartbeats 2000000 in
set_option maxRecDepth 20000 in
theorem c_X5_checkRange_ok {l : Launch} (hst : l.stackTraces = false) (D : va_G) (tys : List (ClassId × FieldType)) (H0 : Heap) (ad : Nat → Nat) (h : Hp) (v lo hi : Int32) (hk : sIn v lo hi = true) : CC l D tys H0 yX5_checkRange cX5_checkRange 3 none 0 0 0 [.int v, .int lo, .int hi] ad h (PR ad none h) (fun _ => False) := by
  refine cc_intro hst (by decide +kernel) (Nat.le_of_ble_eq_true rfl) ?_
  intro p e s m args below meth c F
  rw [show lv_args 0 [.int v, .int lo, .int hi] = [(0, .int v), (1, .int lo), (2, .int hi)] from rfl]
  refine wa_iload_n F dX5_checkRange_0 (i := 0) rfl 0 rfl ?_
  refine wa_iload_n F dX5_checkRange_1 (i := 1) rfl 1 rfl ?_
  refine wa_icmp_lt (tgt := 10) F dX5_checkRange_2 (by decide) (fun c2 => ?_) (fun c2 => ?_)
  · skip
    replace c2 := lt_nle c2
    exact absurd hk (by simp [sIn, c2])
  · skip
    replace c2 := nlt_le c2
    refine wa_iload_n F dX5_checkRange_5 (i := 0) rfl 0 rfl ?_
    refine wa_iload_n F dX5_checkRange_6 (i := 2) rfl 2 rfl ?_
    refine wa_icmp_le (tgt := 21) F dX5_checkRange_7 (by decide) (fun c7 => ?_) (fun c7 => ?_)
    · skip
      refine wa_vret F (Nat.le_of_ble_eq_true rfl) (Nat.le_of_ble_eq_true rfl) dX5_checkRange_21 ?_
      exact ⟨rfl, rfl, rfl⟩
    · skip
      exact absurd hk (by simp [sIn, c2, c7])
set_option maxHeartbeats 2000000 in
set_option maxRecDepth 20000 in
theorem c_X5_checkRange_no {l : Launch} (hst : l.stackTraces = false) (D : va_G) (tys : List (ClassId × FieldType)) (H0 : Heap) (ad : Nat → Nat) (h : Hp) (v lo hi : Int32) (hk : sIn v lo hi = false) : CC l D tys H0 yX5_checkRange cX5_checkRange 3 none 6 1 6 [.int v, .int lo, .int hi] ad h (fun _ _ _ => False) (fun E => E = "java/lang/IllegalArgumentException") := by
  refine cc_intro hst (by decide +kernel) (Nat.le_of_ble_eq_true rfl) ?_
  intro p e s m args below meth c F
  rw [show lv_args 0 [.int v, .int lo, .int hi] = [(0, .int v), (1, .int lo), (2, .int hi)] from rfl]
  refine wa_iload_n F dX5_checkRange_0 (i := 0) rfl 0 rfl ?_
  refine wa_iload_n F dX5_checkRange_1 (i := 1) rfl 1 rfl ?_
  refine wa_icmp_lt (tgt := 10) F dX5_checkRange_2 (by decide) (fun c2 => ?_) (fun c2 => ?_)
  · skip
    replace c2 := lt_nle c2
    exact wa_throwSW F ft_IA cl_X5_61 in_IA sr_X5_285 at_IA gd_IA dX5_checkRange_10 dX5_checkRange_13 dX5_checkRange_14 dX5_checkRange_17 dX5_checkRange_20 (Nat.le_of_ble_eq_true rfl) (Nat.le_of_ble_eq_true rfl) (Nat.le_of_ble_eq_true rfl) (Nat.le_of_ble_eq_true rfl) (Nat.le_of_ble_eq_true rfl) (Nat.le_of_ble_eq_true rfl) (Nat.le_of_ble_eq_true rfl) rfl rfl rfl
  · skip
    replace c2 := nlt_le c2
    refine wa_iload_n F dX5_checkRange_5 (i := 0) rfl 0 rfl ?_
    refine wa_iload_n F dX5_checkRange_6 (i := 2) rfl 2 rfl ?_
    refine wa_icmp_le (tgt := 21) F dX5_checkRange_7 (by decide) (fun c7 => ?_) (fun c7 => ?_)
    · skip
      refine wa_vret F (Nat.le_of_ble_eq_true rfl) (Nat.le_of_ble_eq_true rfl) dX5_checkRange_21 ?_
      exact absurd hk (by simp [sIn, c2, c7])
    · skip
      exact wa_throwSW F ft_IA cl_X5_61 in_IA sr_X5_285 at_IA gd_IA dX5_checkRange_10 dX5_checkRange_13 dX5_checkRange_14 dX5_checkRange_17 dX5_checkRange_20 (Nat.le_of_ble_eq_true rfl) (Nat.le_of_ble_eq_true rfl) (Nat.le_of_ble_eq_true rfl) (Nat.le_of_ble_eq_true rfl) (Nat.le_of_ble_eq_true rfl) (Nat.le_of_ble_eq_true rfl) (Nat.le_of_ble_eq_true rfl) rfl rfl rfl
set_option maxHeartbeats 2000000 in
set_option maxRecDepth 20000 in
theorem c_X5_checkHazard_ok {l : Launch} (hst : l.stackTraces = false) (D : va_G) (tys : List (ClassId × FieldType)) (H0 : Heap) (ad : Nat → Nat) (h : Hp) (v : Int32) (hk : sIn v 0 7 = true) : CC l D tys H0 yX5_checkHazard cX5_checkHazard 1 none 0 0 0 [.int v] ad h (PR ad none h) (fun _ => False) := by
  refine cc_intro hst (by decide +kernel) (Nat.le_of_ble_eq_true rfl) ?_
  intro p e s m args below meth c F
  rw [show lv_args 0 [.int v] = [(0, .int v)] from rfl]
  refine wa_iload_n F dX5_checkHazard_0 (i := 0) rfl 0 rfl ?_
  refine wa_if_lt (tgt := 10) F dX5_checkHazard_1 (by decide) (fun c1 => ?_) (fun c1 => ?_)
  · skip
    replace c1 := lt_nle c1
    exact absurd hk (haz_lt c1)
  · skip
    replace c1 := nlt_le c1
    refine wa_iload_n F dX5_checkHazard_4 (i := 0) rfl 0 rfl ?_
    refine wa_bipush (v := 8) F dX5_checkHazard_5 (by decide) ?_
    refine wa_icmp_lt (tgt := 21) F dX5_checkHazard_7 (by decide) (fun c7 => ?_) (fun c7 => ?_)
    · skip
      replace c7 := lt_nle c7
      refine wa_vret F (Nat.le_of_ble_eq_true rfl) (Nat.le_of_ble_eq_true rfl) dX5_checkHazard_21 ?_
      exact ⟨rfl, rfl, rfl⟩
    · skip
      replace c7 := nlt_le c7
      exact absurd hk (haz_ge c7)
set_option maxHeartbeats 2000000 in
set_option maxRecDepth 20000 in
theorem c_X5_checkHazard_no {l : Launch} (hst : l.stackTraces = false) (D : va_G) (tys : List (ClassId × FieldType)) (H0 : Heap) (ad : Nat → Nat) (h : Hp) (v : Int32) (hk : sIn v 0 7 = false) : CC l D tys H0 yX5_checkHazard cX5_checkHazard 1 none 6 1 6 [.int v] ad h (fun _ _ _ => False) (fun E => E = "java/lang/IndexOutOfBoundsException") := by
  refine cc_intro hst (by decide +kernel) (Nat.le_of_ble_eq_true rfl) ?_
  intro p e s m args below meth c F
  rw [show lv_args 0 [.int v] = [(0, .int v)] from rfl]
  refine wa_iload_n F dX5_checkHazard_0 (i := 0) rfl 0 rfl ?_
  refine wa_if_lt (tgt := 10) F dX5_checkHazard_1 (by decide) (fun c1 => ?_) (fun c1 => ?_)
  · skip
    replace c1 := lt_nle c1
    exact wa_throwSW F ft_IO cl_X5_229 in_IO sr_X5_283 at_IO gd_IO dX5_checkHazard_10 dX5_checkHazard_13 dX5_checkHazard_14 dX5_checkHazard_17 dX5_checkHazard_20 (Nat.le_of_ble_eq_true rfl) (Nat.le_of_ble_eq_true rfl) (Nat.le_of_ble_eq_true rfl) (Nat.le_of_ble_eq_true rfl) (Nat.le_of_ble_eq_true rfl) (Nat.le_of_ble_eq_true rfl) (Nat.le_of_ble_eq_true rfl) rfl rfl rfl
  · skip
    replace c1 := nlt_le c1
    refine wa_iload_n F dX5_checkHazard_4 (i := 0) rfl 0 rfl ?_
    refine wa_bipush (v := 8) F dX5_checkHazard_5 (by decide) ?_
    refine wa_icmp_lt (tgt := 21) F dX5_checkHazard_7 (by decide) (fun c7 => ?_) (fun c7 => ?_)
    · skip
      replace c7 := lt_nle c7
      refine wa_vret F (Nat.le_of_ble_eq_true rfl) (Nat.le_of_ble_eq_true rfl) dX5_checkHazard_21 ?_
      exact absurd hk (haz_ok c1 c7)
    · skip
      replace c7 := nlt_le c7
      exact wa_throwSW F ft_IO cl_X5_229 in_IO sr_X5_283 at_IO gd_IO dX5_checkHazard_10 dX5_checkHazard_13 dX5_checkHazard_14 dX5_checkHazard_17 dX5_checkHazard_20 (Nat.le_of_ble_eq_true rfl) (Nat.le_of_ble_eq_true rfl) (Nat.le_of_ble_eq_true rfl) (Nat.le_of_ble_eq_true rfl) (Nat.le_of_ble_eq_true rfl) (Nat.le_of_ble_eq_true rfl) (Nat.le_of_ble_eq_true rfl) rfl rfl rfl
set_option maxHeartbeats 2000000 in
set_option maxRecDepth 20000 in
theorem c_X5_actAt_ok {l : Launch} (hst : l.stackTraces = false) (D : va_G) (TC : Nat → ClassId) (H0 : Heap) (ad : Nat → Nat) (X S : St) (o : Nat → Int64) (i : Nat) (hi : i < cnt X 2) (hb2 : cnt X 2 ≤ 6) (h : Hp) (HX : ∀ n e, hall TC X S o n = some e → h n = some e) : CC l D (tysOf TC) H0 yX5_actAt cX5_actAt 3 (some (.object "Conformary$Act")) 0 0 0 [.ref 0, .int (nI i)] ad h (PR ad (some (.ref (1000 + i))) h) (fun _ => False) := by
  refine cc_intro hst (by decide +kernel) (Nat.le_of_ble_eq_true rfl) ?_
  intro p e s m args below meth c F
  rw [show lv_args 0 [.ref 0, .int (nI i)] = [(0, .ref 0), (1, .int (nI i))] from rfl]
  refine wa_iload_n F dX5_actAt_0 (i := 1) rfl 1 rfl ?_
  refine wa_if_lt (tgt := 13) F dX5_actAt_1 (by decide) (fun c1 => ?_) (fun c1 => ?_)
  · skip
    replace c1 := lt_nle c1
    exact absurd c1 (nI_nneg (by omega))
  · skip
    replace c1 := nlt_le c1
    refine wa_iload_n F dX5_actAt_4 (i := 1) rfl 1 rfl ?_
    refine wa_aload_n F dX5_actAt_5 (i := 0) rfl 0 rfl ?_
    refine wa_getf (v := .ref 10) F LY_X5 (HX _ _ (hm_c (TC := TC) (X := X) (S := S) (o := o))) 0 (by decide) fl_X5_11 rfl dX5_actAt_6 ?_
    refine wa_alen F 3 rfl (HX _ _ (hm_a0 (TC := TC) (X := X) (S := S) (o := o))) dX5_actAt_9 ?_
    refine wa_icmp_lt (tgt := 17) F dX5_actAt_10 (by decide) (fun c10 => ?_) (fun c10 => ?_)
    · skip
      replace c10 := lt_nle c10
      refine wa_aload_n F dX5_actAt_17 (i := 0) rfl 0 rfl ?_
      refine wa_getf (v := .ref 10) F LY_X5 (HX _ _ (hm_c (TC := TC) (X := X) (S := S) (o := o))) 0 (by decide) fl_X5_11 rfl dX5_actAt_18 ?_
      refine wa_iload_n F dX5_actAt_21 (i := 1) rfl 1 rfl ?_
      refine wa_aald F 3 rfl (HX _ _ (hm_a0 (TC := TC) (X := X) (S := S) (o := o))) i rfl (by omega) (by decide) (rarr_t hi) dX5_actAt_22 ?_
      refine wa_astore_n (lv' := [(2, .ref (1000 + i)), (0, .ref 0), (1, .int (nI i))]) F dX5_actAt_23 (i := 2) rfl (by decide) rfl ?_
      refine wa_aload_n F dX5_actAt_24 (i := 2) rfl 0 rfl ?_
      refine wa_ifnonnull (tgt := 39) F dX5_actAt_25 (by decide) ?_
      refine wa_aload_n F dX5_actAt_39 (i := 2) rfl 0 rfl ?_
      refine wa_aret F (Nat.le_of_ble_eq_true rfl) (Nat.le_of_ble_eq_true rfl) dX5_actAt_40 ?_
      exact ⟨rfl, rfl, rfl⟩
    · skip
      replace c10 := nlt_le c10
      exact absurd ((nI_leI (by omega) (by omega)).mp c10) (by omega)
set_option maxHeartbeats 2000000 in
set_option maxRecDepth 20000 in
theorem c_X5_actAt_no {l : Launch} (hst : l.stackTraces = false) (D : va_G) (TC : Nat → ClassId) (H0 : Heap) (ad : Nat → Nat) (X S : St) (o : Nat → Int64) (v : Int32) (hn : X 2 0 = nI (cnt X 2)) (hb2 : cnt X 2 ≤ 6) (hk : sIn v 0 (X 2 0 - 1) = false) (h : Hp) (HX : ∀ n e, hall TC X S o n = some e → h n = some e) : CC l D (tysOf TC) H0 yX5_actAt cX5_actAt 3 (some (.object "Conformary$Act")) 6 1 6 [.ref 0, .int v] ad h (fun _ _ _ => False) (fun E => E = "java/lang/IndexOutOfBoundsException") := by
  refine cc_intro hst (by decide +kernel) (Nat.le_of_ble_eq_true rfl) ?_
  intro p e s m args below meth c F
  rw [show lv_args 0 [.ref 0, .int v] = [(0, .ref 0), (1, .int v)] from rfl]
  refine wa_iload_n F dX5_actAt_0 (i := 1) rfl 1 rfl ?_
  refine wa_if_lt (tgt := 13) F dX5_actAt_1 (by decide) (fun c1 => ?_) (fun c1 => ?_)
  · skip
    replace c1 := lt_nle c1
    refine wa_null F dX5_actAt_13 ?_
    refine wa_goto (tgt := 23) F dX5_actAt_14 (by decide) ?_
    refine wa_astore_nN (lv' := [(2, .null), (0, .ref 0), (1, .int v)]) F dX5_actAt_23 (i := 2) rfl (by decide) rfl ?_
    refine wa_aload_nN F dX5_actAt_24 (i := 2) rfl 0 rfl ?_
    refine wa_ifnonnullN F dX5_actAt_25 ?_
    exact wa_throwSW F ft_IO cl_X5_229 in_IO sr_X5_273 at_IO gd_IO dX5_actAt_28 dX5_actAt_31 dX5_actAt_32 dX5_actAt_35 dX5_actAt_38 (Nat.le_of_ble_eq_true rfl) (Nat.le_of_ble_eq_true rfl) (Nat.le_of_ble_eq_true rfl) (Nat.le_of_ble_eq_true rfl) (Nat.le_of_ble_eq_true rfl) (Nat.le_of_ble_eq_true rfl) (Nat.le_of_ble_eq_true rfl) rfl rfl rfl
  · skip
    replace c1 := nlt_le c1
    refine wa_iload_n F dX5_actAt_4 (i := 1) rfl 1 rfl ?_
    refine wa_aload_n F dX5_actAt_5 (i := 0) rfl 0 rfl ?_
    refine wa_getf (v := .ref 10) F LY_X5 (HX _ _ (hm_c (TC := TC) (X := X) (S := S) (o := o))) 0 (by decide) fl_X5_11 rfl dX5_actAt_6 ?_
    refine wa_alen F 3 rfl (HX _ _ (hm_a0 (TC := TC) (X := X) (S := S) (o := o))) dX5_actAt_9 ?_
    refine wa_icmp_lt (tgt := 17) F dX5_actAt_10 (by decide) (fun c10 => ?_) (fun c10 => ?_)
    · skip
      replace c10 := lt_nle c10
      obtain ⟨j, hj, rfl⟩ := nI_of (lt_nle_of c1)
      have hj6 : j < 6 := Nat.lt_of_not_le fun z => c10 ((nI_leI (by omega) (by omega)).mpr z)
      have hjn : ¬ j < cnt X 2 := fun z => absurd hk (by rw [hn, sIn_of z (by omega)]; decide)
      refine wa_aload_n F dX5_actAt_17 (i := 0) rfl 0 rfl ?_
      refine wa_getf (v := .ref 10) F LY_X5 (HX _ _ (hm_c (TC := TC) (X := X) (S := S) (o := o))) 0 (by decide) fl_X5_11 rfl dX5_actAt_18 ?_
      refine wa_iload_n F dX5_actAt_21 (i := 1) rfl 1 rfl ?_
      refine wa_aald F 3 rfl (HX _ _ (hm_a0 (TC := TC) (X := X) (S := S) (o := o))) j rfl (by omega) (by decide) (rarr_f hjn) dX5_actAt_22 ?_
      refine wa_astore_nN (lv' := [(2, .null), (0, .ref 0), (1, .int (nI j))]) F dX5_actAt_23 (i := 2) rfl (by decide) rfl ?_
      refine wa_aload_nN F dX5_actAt_24 (i := 2) rfl 0 rfl ?_
      refine wa_ifnonnullN F dX5_actAt_25 ?_
      exact wa_throwSW F ft_IO cl_X5_229 in_IO sr_X5_273 at_IO gd_IO dX5_actAt_28 dX5_actAt_31 dX5_actAt_32 dX5_actAt_35 dX5_actAt_38 (Nat.le_of_ble_eq_true rfl) (Nat.le_of_ble_eq_true rfl) (Nat.le_of_ble_eq_true rfl) (Nat.le_of_ble_eq_true rfl) (Nat.le_of_ble_eq_true rfl) (Nat.le_of_ble_eq_true rfl) (Nat.le_of_ble_eq_true rfl) rfl rfl rfl
    · skip
      replace c10 := nlt_le c10
      refine wa_null F dX5_actAt_13 ?_
      refine wa_goto (tgt := 23) F dX5_actAt_14 (by decide) ?_
      refine wa_astore_nN (lv' := [(2, .null), (0, .ref 0), (1, .int v)]) F dX5_actAt_23 (i := 2) rfl (by decide) rfl ?_
      refine wa_aload_nN F dX5_actAt_24 (i := 2) rfl 0 rfl ?_
      refine wa_ifnonnullN F dX5_actAt_25 ?_
      exact wa_throwSW F ft_IO cl_X5_229 in_IO sr_X5_273 at_IO gd_IO dX5_actAt_28 dX5_actAt_31 dX5_actAt_32 dX5_actAt_35 dX5_actAt_38 (Nat.le_of_ble_eq_true rfl) (Nat.le_of_ble_eq_true rfl) (Nat.le_of_ble_eq_true rfl) (Nat.le_of_ble_eq_true rfl) (Nat.le_of_ble_eq_true rfl) (Nat.le_of_ble_eq_true rfl) (Nat.le_of_ble_eq_true rfl) rfl rfl rfl
set_option maxHeartbeats 2000000 in
set_option maxRecDepth 20000 in
theorem c_X5_standardAt_ok {l : Launch} (hst : l.stackTraces = false) (D : va_G) (TC : Nat → ClassId) (H0 : Heap) (ad : Nat → Nat) (X S : St) (o : Nat → Int64) (i : Nat) (hi : i < cnt X 9) (hb9 : cnt X 9 ≤ 12) (h : Hp) (HX : ∀ n e, hall TC X S o n = some e → h n = some e) : CC l D (tysOf TC) H0 yX5_standardAt cX5_standardAt 3 (some (.object "Conformary$Standard")) 0 0 0 [.ref 0, .int (nI i)] ad h (PR ad (some (.ref (1100 + i))) h) (fun _ => False) := by
  refine cc_intro hst (by decide +kernel) (Nat.le_of_ble_eq_true rfl) ?_
  intro p e s m args below meth c F
  rw [show lv_args 0 [.ref 0, .int (nI i)] = [(0, .ref 0), (1, .int (nI i))] from rfl]
  refine wa_iload_n F dX5_standardAt_0 (i := 1) rfl 1 rfl ?_
  refine wa_if_lt (tgt := 13) F dX5_standardAt_1 (by decide) (fun c1 => ?_) (fun c1 => ?_)
  · skip
    replace c1 := lt_nle c1
    exact absurd c1 (nI_nneg (by omega))
  · skip
    replace c1 := nlt_le c1
    refine wa_iload_n F dX5_standardAt_4 (i := 1) rfl 1 rfl ?_
    refine wa_aload_n F dX5_standardAt_5 (i := 0) rfl 0 rfl ?_
    refine wa_getf (v := .ref 11) F LY_X5 (HX _ _ (hm_c (TC := TC) (X := X) (S := S) (o := o))) 1 (by decide) fl_X5_17 rfl dX5_standardAt_6 ?_
    refine wa_alen F 4 rfl (HX _ _ (hm_a1 (TC := TC) (X := X) (S := S) (o := o))) dX5_standardAt_9 ?_
    refine wa_icmp_lt (tgt := 17) F dX5_standardAt_10 (by decide) (fun c10 => ?_) (fun c10 => ?_)
    · skip
      replace c10 := lt_nle c10
      refine wa_aload_n F dX5_standardAt_17 (i := 0) rfl 0 rfl ?_
      refine wa_getf (v := .ref 11) F LY_X5 (HX _ _ (hm_c (TC := TC) (X := X) (S := S) (o := o))) 1 (by decide) fl_X5_17 rfl dX5_standardAt_18 ?_
      refine wa_iload_n F dX5_standardAt_21 (i := 1) rfl 1 rfl ?_
      refine wa_aald F 4 rfl (HX _ _ (hm_a1 (TC := TC) (X := X) (S := S) (o := o))) i rfl (by omega) (by decide) (rarr_t hi) dX5_standardAt_22 ?_
      refine wa_astore_n (lv' := [(2, .ref (1100 + i)), (0, .ref 0), (1, .int (nI i))]) F dX5_standardAt_23 (i := 2) rfl (by decide) rfl ?_
      refine wa_aload_n F dX5_standardAt_24 (i := 2) rfl 0 rfl ?_
      refine wa_ifnonnull (tgt := 39) F dX5_standardAt_25 (by decide) ?_
      refine wa_aload_n F dX5_standardAt_39 (i := 2) rfl 0 rfl ?_
      refine wa_aret F (Nat.le_of_ble_eq_true rfl) (Nat.le_of_ble_eq_true rfl) dX5_standardAt_40 ?_
      exact ⟨rfl, rfl, rfl⟩
    · skip
      replace c10 := nlt_le c10
      exact absurd ((nI_leI (by omega) (by omega)).mp c10) (by omega)
set_option maxHeartbeats 2000000 in
set_option maxRecDepth 20000 in
theorem c_X5_standardAt_no {l : Launch} (hst : l.stackTraces = false) (D : va_G) (TC : Nat → ClassId) (H0 : Heap) (ad : Nat → Nat) (X S : St) (o : Nat → Int64) (v : Int32) (hn : X 9 0 = nI (cnt X 9)) (hb9 : cnt X 9 ≤ 12) (hk : sIn v 0 (X 9 0 - 1) = false) (h : Hp) (HX : ∀ n e, hall TC X S o n = some e → h n = some e) : CC l D (tysOf TC) H0 yX5_standardAt cX5_standardAt 3 (some (.object "Conformary$Standard")) 6 1 6 [.ref 0, .int v] ad h (fun _ _ _ => False) (fun E => E = "java/lang/IndexOutOfBoundsException") := by
  refine cc_intro hst (by decide +kernel) (Nat.le_of_ble_eq_true rfl) ?_
  intro p e s m args below meth c F
  rw [show lv_args 0 [.ref 0, .int v] = [(0, .ref 0), (1, .int v)] from rfl]
  refine wa_iload_n F dX5_standardAt_0 (i := 1) rfl 1 rfl ?_
  refine wa_if_lt (tgt := 13) F dX5_standardAt_1 (by decide) (fun c1 => ?_) (fun c1 => ?_)
  · skip
    replace c1 := lt_nle c1
    refine wa_null F dX5_standardAt_13 ?_
    refine wa_goto (tgt := 23) F dX5_standardAt_14 (by decide) ?_
    refine wa_astore_nN (lv' := [(2, .null), (0, .ref 0), (1, .int v)]) F dX5_standardAt_23 (i := 2) rfl (by decide) rfl ?_
    refine wa_aload_nN F dX5_standardAt_24 (i := 2) rfl 0 rfl ?_
    refine wa_ifnonnullN F dX5_standardAt_25 ?_
    exact wa_throwSW F ft_IO cl_X5_229 in_IO sr_X5_275 at_IO gd_IO dX5_standardAt_28 dX5_standardAt_31 dX5_standardAt_32 dX5_standardAt_35 dX5_standardAt_38 (Nat.le_of_ble_eq_true rfl) (Nat.le_of_ble_eq_true rfl) (Nat.le_of_ble_eq_true rfl) (Nat.le_of_ble_eq_true rfl) (Nat.le_of_ble_eq_true rfl) (Nat.le_of_ble_eq_true rfl) (Nat.le_of_ble_eq_true rfl) rfl rfl rfl
  · skip
    replace c1 := nlt_le c1
    refine wa_iload_n F dX5_standardAt_4 (i := 1) rfl 1 rfl ?_
    refine wa_aload_n F dX5_standardAt_5 (i := 0) rfl 0 rfl ?_
    refine wa_getf (v := .ref 11) F LY_X5 (HX _ _ (hm_c (TC := TC) (X := X) (S := S) (o := o))) 1 (by decide) fl_X5_17 rfl dX5_standardAt_6 ?_
    refine wa_alen F 4 rfl (HX _ _ (hm_a1 (TC := TC) (X := X) (S := S) (o := o))) dX5_standardAt_9 ?_
    refine wa_icmp_lt (tgt := 17) F dX5_standardAt_10 (by decide) (fun c10 => ?_) (fun c10 => ?_)
    · skip
      replace c10 := lt_nle c10
      obtain ⟨j, hj, rfl⟩ := nI_of (lt_nle_of c1)
      have hj6 : j < 12 := Nat.lt_of_not_le fun z => c10 ((nI_leI (by omega) (by omega)).mpr z)
      have hjn : ¬ j < cnt X 9 := fun z => absurd hk (by rw [hn, sIn_of z (by omega)]; decide)
      refine wa_aload_n F dX5_standardAt_17 (i := 0) rfl 0 rfl ?_
      refine wa_getf (v := .ref 11) F LY_X5 (HX _ _ (hm_c (TC := TC) (X := X) (S := S) (o := o))) 1 (by decide) fl_X5_17 rfl dX5_standardAt_18 ?_
      refine wa_iload_n F dX5_standardAt_21 (i := 1) rfl 1 rfl ?_
      refine wa_aald F 4 rfl (HX _ _ (hm_a1 (TC := TC) (X := X) (S := S) (o := o))) j rfl (by omega) (by decide) (rarr_f hjn) dX5_standardAt_22 ?_
      refine wa_astore_nN (lv' := [(2, .null), (0, .ref 0), (1, .int (nI j))]) F dX5_standardAt_23 (i := 2) rfl (by decide) rfl ?_
      refine wa_aload_nN F dX5_standardAt_24 (i := 2) rfl 0 rfl ?_
      refine wa_ifnonnullN F dX5_standardAt_25 ?_
      exact wa_throwSW F ft_IO cl_X5_229 in_IO sr_X5_275 at_IO gd_IO dX5_standardAt_28 dX5_standardAt_31 dX5_standardAt_32 dX5_standardAt_35 dX5_standardAt_38 (Nat.le_of_ble_eq_true rfl) (Nat.le_of_ble_eq_true rfl) (Nat.le_of_ble_eq_true rfl) (Nat.le_of_ble_eq_true rfl) (Nat.le_of_ble_eq_true rfl) (Nat.le_of_ble_eq_true rfl) (Nat.le_of_ble_eq_true rfl) rfl rfl rfl
    · skip
      replace c10 := nlt_le c10
      refine wa_null F dX5_standardAt_13 ?_
      refine wa_goto (tgt := 23) F dX5_standardAt_14 (by decide) ?_
      refine wa_astore_nN (lv' := [(2, .null), (0, .ref 0), (1, .int v)]) F dX5_standardAt_23 (i := 2) rfl (by decide) rfl ?_
      refine wa_aload_nN F dX5_standardAt_24 (i := 2) rfl 0 rfl ?_
      refine wa_ifnonnullN F dX5_standardAt_25 ?_
      exact wa_throwSW F ft_IO cl_X5_229 in_IO sr_X5_275 at_IO gd_IO dX5_standardAt_28 dX5_standardAt_31 dX5_standardAt_32 dX5_standardAt_35 dX5_standardAt_38 (Nat.le_of_ble_eq_true rfl) (Nat.le_of_ble_eq_true rfl) (Nat.le_of_ble_eq_true rfl) (Nat.le_of_ble_eq_true rfl) (Nat.le_of_ble_eq_true rfl) (Nat.le_of_ble_eq_true rfl) (Nat.le_of_ble_eq_true rfl) rfl rfl rfl
set_option maxHeartbeats 2000000 in
set_option maxRecDepth 20000 in
theorem c_X5_productAt_ok {l : Launch} (hst : l.stackTraces = false) (D : va_G) (TC : Nat → ClassId) (H0 : Heap) (ad : Nat → Nat) (X S : St) (o : Nat → Int64) (i : Nat) (hi : i < cnt X 13) (hb13 : cnt X 13 ≤ 10) (h : Hp) (HX : ∀ n e, hall TC X S o n = some e → h n = some e) : CC l D (tysOf TC) H0 yX5_productAt cX5_productAt 3 (some (.object "Conformary$Product")) 0 0 0 [.ref 0, .int (nI i)] ad h (PR ad (some (.ref (1200 + i))) h) (fun _ => False) := by
  refine cc_intro hst (by decide +kernel) (Nat.le_of_ble_eq_true rfl) ?_
  intro p e s m args below meth c F
  rw [show lv_args 0 [.ref 0, .int (nI i)] = [(0, .ref 0), (1, .int (nI i))] from rfl]
  refine wa_iload_n F dX5_productAt_0 (i := 1) rfl 1 rfl ?_
  refine wa_if_lt (tgt := 13) F dX5_productAt_1 (by decide) (fun c1 => ?_) (fun c1 => ?_)
  · skip
    replace c1 := lt_nle c1
    exact absurd c1 (nI_nneg (by omega))
  · skip
    replace c1 := nlt_le c1
    refine wa_iload_n F dX5_productAt_4 (i := 1) rfl 1 rfl ?_
    refine wa_aload_n F dX5_productAt_5 (i := 0) rfl 0 rfl ?_
    refine wa_getf (v := .ref 12) F LY_X5 (HX _ _ (hm_c (TC := TC) (X := X) (S := S) (o := o))) 2 (by decide) fl_X5_23 rfl dX5_productAt_6 ?_
    refine wa_alen F 5 rfl (HX _ _ (hm_a2 (TC := TC) (X := X) (S := S) (o := o))) dX5_productAt_9 ?_
    refine wa_icmp_lt (tgt := 17) F dX5_productAt_10 (by decide) (fun c10 => ?_) (fun c10 => ?_)
    · skip
      replace c10 := lt_nle c10
      refine wa_aload_n F dX5_productAt_17 (i := 0) rfl 0 rfl ?_
      refine wa_getf (v := .ref 12) F LY_X5 (HX _ _ (hm_c (TC := TC) (X := X) (S := S) (o := o))) 2 (by decide) fl_X5_23 rfl dX5_productAt_18 ?_
      refine wa_iload_n F dX5_productAt_21 (i := 1) rfl 1 rfl ?_
      refine wa_aald F 5 rfl (HX _ _ (hm_a2 (TC := TC) (X := X) (S := S) (o := o))) i rfl (by omega) (by decide) (rarr_t hi) dX5_productAt_22 ?_
      refine wa_astore_n (lv' := [(2, .ref (1200 + i)), (0, .ref 0), (1, .int (nI i))]) F dX5_productAt_23 (i := 2) rfl (by decide) rfl ?_
      refine wa_aload_n F dX5_productAt_24 (i := 2) rfl 0 rfl ?_
      refine wa_ifnonnull (tgt := 39) F dX5_productAt_25 (by decide) ?_
      refine wa_aload_n F dX5_productAt_39 (i := 2) rfl 0 rfl ?_
      refine wa_aret F (Nat.le_of_ble_eq_true rfl) (Nat.le_of_ble_eq_true rfl) dX5_productAt_40 ?_
      exact ⟨rfl, rfl, rfl⟩
    · skip
      replace c10 := nlt_le c10
      exact absurd ((nI_leI (by omega) (by omega)).mp c10) (by omega)
set_option maxHeartbeats 2000000 in
set_option maxRecDepth 20000 in
theorem c_X5_productAt_no {l : Launch} (hst : l.stackTraces = false) (D : va_G) (TC : Nat → ClassId) (H0 : Heap) (ad : Nat → Nat) (X S : St) (o : Nat → Int64) (v : Int32) (hn : X 13 0 = nI (cnt X 13)) (hb13 : cnt X 13 ≤ 10) (hk : sIn v 0 (X 13 0 - 1) = false) (h : Hp) (HX : ∀ n e, hall TC X S o n = some e → h n = some e) : CC l D (tysOf TC) H0 yX5_productAt cX5_productAt 3 (some (.object "Conformary$Product")) 6 1 6 [.ref 0, .int v] ad h (fun _ _ _ => False) (fun E => E = "java/lang/IndexOutOfBoundsException") := by
  refine cc_intro hst (by decide +kernel) (Nat.le_of_ble_eq_true rfl) ?_
  intro p e s m args below meth c F
  rw [show lv_args 0 [.ref 0, .int v] = [(0, .ref 0), (1, .int v)] from rfl]
  refine wa_iload_n F dX5_productAt_0 (i := 1) rfl 1 rfl ?_
  refine wa_if_lt (tgt := 13) F dX5_productAt_1 (by decide) (fun c1 => ?_) (fun c1 => ?_)
  · skip
    replace c1 := lt_nle c1
    refine wa_null F dX5_productAt_13 ?_
    refine wa_goto (tgt := 23) F dX5_productAt_14 (by decide) ?_
    refine wa_astore_nN (lv' := [(2, .null), (0, .ref 0), (1, .int v)]) F dX5_productAt_23 (i := 2) rfl (by decide) rfl ?_
    refine wa_aload_nN F dX5_productAt_24 (i := 2) rfl 0 rfl ?_
    refine wa_ifnonnullN F dX5_productAt_25 ?_
    exact wa_throwSW F ft_IO cl_X5_229 in_IO sr_X5_277 at_IO gd_IO dX5_productAt_28 dX5_productAt_31 dX5_productAt_32 dX5_productAt_35 dX5_productAt_38 (Nat.le_of_ble_eq_true rfl) (Nat.le_of_ble_eq_true rfl) (Nat.le_of_ble_eq_true rfl) (Nat.le_of_ble_eq_true rfl) (Nat.le_of_ble_eq_true rfl) (Nat.le_of_ble_eq_true rfl) (Nat.le_of_ble_eq_true rfl) rfl rfl rfl
  · skip
    replace c1 := nlt_le c1
    refine wa_iload_n F dX5_productAt_4 (i := 1) rfl 1 rfl ?_
    refine wa_aload_n F dX5_productAt_5 (i := 0) rfl 0 rfl ?_
    refine wa_getf (v := .ref 12) F LY_X5 (HX _ _ (hm_c (TC := TC) (X := X) (S := S) (o := o))) 2 (by decide) fl_X5_23 rfl dX5_productAt_6 ?_
    refine wa_alen F 5 rfl (HX _ _ (hm_a2 (TC := TC) (X := X) (S := S) (o := o))) dX5_productAt_9 ?_
    refine wa_icmp_lt (tgt := 17) F dX5_productAt_10 (by decide) (fun c10 => ?_) (fun c10 => ?_)
    · skip
      replace c10 := lt_nle c10
      obtain ⟨j, hj, rfl⟩ := nI_of (lt_nle_of c1)
      have hj6 : j < 10 := Nat.lt_of_not_le fun z => c10 ((nI_leI (by omega) (by omega)).mpr z)
      have hjn : ¬ j < cnt X 13 := fun z => absurd hk (by rw [hn, sIn_of z (by omega)]; decide)
      refine wa_aload_n F dX5_productAt_17 (i := 0) rfl 0 rfl ?_
      refine wa_getf (v := .ref 12) F LY_X5 (HX _ _ (hm_c (TC := TC) (X := X) (S := S) (o := o))) 2 (by decide) fl_X5_23 rfl dX5_productAt_18 ?_
      refine wa_iload_n F dX5_productAt_21 (i := 1) rfl 1 rfl ?_
      refine wa_aald F 5 rfl (HX _ _ (hm_a2 (TC := TC) (X := X) (S := S) (o := o))) j rfl (by omega) (by decide) (rarr_f hjn) dX5_productAt_22 ?_
      refine wa_astore_nN (lv' := [(2, .null), (0, .ref 0), (1, .int (nI j))]) F dX5_productAt_23 (i := 2) rfl (by decide) rfl ?_
      refine wa_aload_nN F dX5_productAt_24 (i := 2) rfl 0 rfl ?_
      refine wa_ifnonnullN F dX5_productAt_25 ?_
      exact wa_throwSW F ft_IO cl_X5_229 in_IO sr_X5_277 at_IO gd_IO dX5_productAt_28 dX5_productAt_31 dX5_productAt_32 dX5_productAt_35 dX5_productAt_38 (Nat.le_of_ble_eq_true rfl) (Nat.le_of_ble_eq_true rfl) (Nat.le_of_ble_eq_true rfl) (Nat.le_of_ble_eq_true rfl) (Nat.le_of_ble_eq_true rfl) (Nat.le_of_ble_eq_true rfl) (Nat.le_of_ble_eq_true rfl) rfl rfl rfl
    · skip
      replace c10 := nlt_le c10
      refine wa_null F dX5_productAt_13 ?_
      refine wa_goto (tgt := 23) F dX5_productAt_14 (by decide) ?_
      refine wa_astore_nN (lv' := [(2, .null), (0, .ref 0), (1, .int v)]) F dX5_productAt_23 (i := 2) rfl (by decide) rfl ?_
      refine wa_aload_nN F dX5_productAt_24 (i := 2) rfl 0 rfl ?_
      refine wa_ifnonnullN F dX5_productAt_25 ?_
      exact wa_throwSW F ft_IO cl_X5_229 in_IO sr_X5_277 at_IO gd_IO dX5_productAt_28 dX5_productAt_31 dX5_productAt_32 dX5_productAt_35 dX5_productAt_38 (Nat.le_of_ble_eq_true rfl) (Nat.le_of_ble_eq_true rfl) (Nat.le_of_ble_eq_true rfl) (Nat.le_of_ble_eq_true rfl) (Nat.le_of_ble_eq_true rfl) (Nat.le_of_ble_eq_true rfl) (Nat.le_of_ble_eq_true rfl) rfl rfl rfl
set_option maxHeartbeats 2000000 in
set_option maxRecDepth 20000 in
theorem c_X5_bodyAt_ok {l : Launch} (hst : l.stackTraces = false) (D : va_G) (TC : Nat → ClassId) (H0 : Heap) (ad : Nat → Nat) (X S : St) (o : Nat → Int64) (i : Nat) (hi : i < cnt X 25) (hb25 : cnt X 25 ≤ 5) (h : Hp) (HX : ∀ n e, hall TC X S o n = some e → h n = some e) : CC l D (tysOf TC) H0 yX5_bodyAt cX5_bodyAt 3 (some (.object "Conformary$Body")) 0 0 0 [.ref 0, .int (nI i)] ad h (PR ad (some (.ref (1300 + i))) h) (fun _ => False) := by
  refine cc_intro hst (by decide +kernel) (Nat.le_of_ble_eq_true rfl) ?_
  intro p e s m args below meth c F
  rw [show lv_args 0 [.ref 0, .int (nI i)] = [(0, .ref 0), (1, .int (nI i))] from rfl]
  refine wa_iload_n F dX5_bodyAt_0 (i := 1) rfl 1 rfl ?_
  refine wa_if_lt (tgt := 13) F dX5_bodyAt_1 (by decide) (fun c1 => ?_) (fun c1 => ?_)
  · skip
    replace c1 := lt_nle c1
    exact absurd c1 (nI_nneg (by omega))
  · skip
    replace c1 := nlt_le c1
    refine wa_iload_n F dX5_bodyAt_4 (i := 1) rfl 1 rfl ?_
    refine wa_aload_n F dX5_bodyAt_5 (i := 0) rfl 0 rfl ?_
    refine wa_getf (v := .ref 13) F LY_X5 (HX _ _ (hm_c (TC := TC) (X := X) (S := S) (o := o))) 3 (by decide) fl_X5_29 rfl dX5_bodyAt_6 ?_
    refine wa_alen F 6 rfl (HX _ _ (hm_a3 (TC := TC) (X := X) (S := S) (o := o))) dX5_bodyAt_9 ?_
    refine wa_icmp_lt (tgt := 17) F dX5_bodyAt_10 (by decide) (fun c10 => ?_) (fun c10 => ?_)
    · skip
      replace c10 := lt_nle c10
      refine wa_aload_n F dX5_bodyAt_17 (i := 0) rfl 0 rfl ?_
      refine wa_getf (v := .ref 13) F LY_X5 (HX _ _ (hm_c (TC := TC) (X := X) (S := S) (o := o))) 3 (by decide) fl_X5_29 rfl dX5_bodyAt_18 ?_
      refine wa_iload_n F dX5_bodyAt_21 (i := 1) rfl 1 rfl ?_
      refine wa_aald F 6 rfl (HX _ _ (hm_a3 (TC := TC) (X := X) (S := S) (o := o))) i rfl (by omega) (by decide) (rarr_t hi) dX5_bodyAt_22 ?_
      refine wa_astore_n (lv' := [(2, .ref (1300 + i)), (0, .ref 0), (1, .int (nI i))]) F dX5_bodyAt_23 (i := 2) rfl (by decide) rfl ?_
      refine wa_aload_n F dX5_bodyAt_24 (i := 2) rfl 0 rfl ?_
      refine wa_ifnonnull (tgt := 39) F dX5_bodyAt_25 (by decide) ?_
      refine wa_aload_n F dX5_bodyAt_39 (i := 2) rfl 0 rfl ?_
      refine wa_aret F (Nat.le_of_ble_eq_true rfl) (Nat.le_of_ble_eq_true rfl) dX5_bodyAt_40 ?_
      exact ⟨rfl, rfl, rfl⟩
    · skip
      replace c10 := nlt_le c10
      exact absurd ((nI_leI (by omega) (by omega)).mp c10) (by omega)
set_option maxHeartbeats 2000000 in
set_option maxRecDepth 20000 in
theorem c_X5_bodyAt_no {l : Launch} (hst : l.stackTraces = false) (D : va_G) (TC : Nat → ClassId) (H0 : Heap) (ad : Nat → Nat) (X S : St) (o : Nat → Int64) (v : Int32) (hn : X 25 0 = nI (cnt X 25)) (hb25 : cnt X 25 ≤ 5) (hk : sIn v 0 (X 25 0 - 1) = false) (h : Hp) (HX : ∀ n e, hall TC X S o n = some e → h n = some e) : CC l D (tysOf TC) H0 yX5_bodyAt cX5_bodyAt 3 (some (.object "Conformary$Body")) 6 1 6 [.ref 0, .int v] ad h (fun _ _ _ => False) (fun E => E = "java/lang/IndexOutOfBoundsException") := by
  refine cc_intro hst (by decide +kernel) (Nat.le_of_ble_eq_true rfl) ?_
  intro p e s m args below meth c F
  rw [show lv_args 0 [.ref 0, .int v] = [(0, .ref 0), (1, .int v)] from rfl]
  refine wa_iload_n F dX5_bodyAt_0 (i := 1) rfl 1 rfl ?_
  refine wa_if_lt (tgt := 13) F dX5_bodyAt_1 (by decide) (fun c1 => ?_) (fun c1 => ?_)
  · skip
    replace c1 := lt_nle c1
    refine wa_null F dX5_bodyAt_13 ?_
    refine wa_goto (tgt := 23) F dX5_bodyAt_14 (by decide) ?_
    refine wa_astore_nN (lv' := [(2, .null), (0, .ref 0), (1, .int v)]) F dX5_bodyAt_23 (i := 2) rfl (by decide) rfl ?_
    refine wa_aload_nN F dX5_bodyAt_24 (i := 2) rfl 0 rfl ?_
    refine wa_ifnonnullN F dX5_bodyAt_25 ?_
    exact wa_throwSW F ft_IO cl_X5_229 in_IO sr_X5_279 at_IO gd_IO dX5_bodyAt_28 dX5_bodyAt_31 dX5_bodyAt_32 dX5_bodyAt_35 dX5_bodyAt_38 (Nat.le_of_ble_eq_true rfl) (Nat.le_of_ble_eq_true rfl) (Nat.le_of_ble_eq_true rfl) (Nat.le_of_ble_eq_true rfl) (Nat.le_of_ble_eq_true rfl) (Nat.le_of_ble_eq_true rfl) (Nat.le_of_ble_eq_true rfl) rfl rfl rfl
  · skip
    replace c1 := nlt_le c1
    refine wa_iload_n F dX5_bodyAt_4 (i := 1) rfl 1 rfl ?_
    refine wa_aload_n F dX5_bodyAt_5 (i := 0) rfl 0 rfl ?_
    refine wa_getf (v := .ref 13) F LY_X5 (HX _ _ (hm_c (TC := TC) (X := X) (S := S) (o := o))) 3 (by decide) fl_X5_29 rfl dX5_bodyAt_6 ?_
    refine wa_alen F 6 rfl (HX _ _ (hm_a3 (TC := TC) (X := X) (S := S) (o := o))) dX5_bodyAt_9 ?_
    refine wa_icmp_lt (tgt := 17) F dX5_bodyAt_10 (by decide) (fun c10 => ?_) (fun c10 => ?_)
    · skip
      replace c10 := lt_nle c10
      obtain ⟨j, hj, rfl⟩ := nI_of (lt_nle_of c1)
      have hj6 : j < 5 := Nat.lt_of_not_le fun z => c10 ((nI_leI (by omega) (by omega)).mpr z)
      have hjn : ¬ j < cnt X 25 := fun z => absurd hk (by rw [hn, sIn_of z (by omega)]; decide)
      refine wa_aload_n F dX5_bodyAt_17 (i := 0) rfl 0 rfl ?_
      refine wa_getf (v := .ref 13) F LY_X5 (HX _ _ (hm_c (TC := TC) (X := X) (S := S) (o := o))) 3 (by decide) fl_X5_29 rfl dX5_bodyAt_18 ?_
      refine wa_iload_n F dX5_bodyAt_21 (i := 1) rfl 1 rfl ?_
      refine wa_aald F 6 rfl (HX _ _ (hm_a3 (TC := TC) (X := X) (S := S) (o := o))) j rfl (by omega) (by decide) (rarr_f hjn) dX5_bodyAt_22 ?_
      refine wa_astore_nN (lv' := [(2, .null), (0, .ref 0), (1, .int (nI j))]) F dX5_bodyAt_23 (i := 2) rfl (by decide) rfl ?_
      refine wa_aload_nN F dX5_bodyAt_24 (i := 2) rfl 0 rfl ?_
      refine wa_ifnonnullN F dX5_bodyAt_25 ?_
      exact wa_throwSW F ft_IO cl_X5_229 in_IO sr_X5_279 at_IO gd_IO dX5_bodyAt_28 dX5_bodyAt_31 dX5_bodyAt_32 dX5_bodyAt_35 dX5_bodyAt_38 (Nat.le_of_ble_eq_true rfl) (Nat.le_of_ble_eq_true rfl) (Nat.le_of_ble_eq_true rfl) (Nat.le_of_ble_eq_true rfl) (Nat.le_of_ble_eq_true rfl) (Nat.le_of_ble_eq_true rfl) (Nat.le_of_ble_eq_true rfl) rfl rfl rfl
    · skip
      replace c10 := nlt_le c10
      refine wa_null F dX5_bodyAt_13 ?_
      refine wa_goto (tgt := 23) F dX5_bodyAt_14 (by decide) ?_
      refine wa_astore_nN (lv' := [(2, .null), (0, .ref 0), (1, .int v)]) F dX5_bodyAt_23 (i := 2) rfl (by decide) rfl ?_
      refine wa_aload_nN F dX5_bodyAt_24 (i := 2) rfl 0 rfl ?_
      refine wa_ifnonnullN F dX5_bodyAt_25 ?_
      exact wa_throwSW F ft_IO cl_X5_229 in_IO sr_X5_279 at_IO gd_IO dX5_bodyAt_28 dX5_bodyAt_31 dX5_bodyAt_32 dX5_bodyAt_35 dX5_bodyAt_38 (Nat.le_of_ble_eq_true rfl) (Nat.le_of_ble_eq_true rfl) (Nat.le_of_ble_eq_true rfl) (Nat.le_of_ble_eq_true rfl) (Nat.le_of_ble_eq_true rfl) (Nat.le_of_ble_eq_true rfl) (Nat.le_of_ble_eq_true rfl) rfl rfl rfl
set_option maxHeartbeats 2000000 in
set_option maxRecDepth 20000 in
theorem c_X5_batchAt_ok {l : Launch} (hst : l.stackTraces = false) (D : va_G) (TC : Nat → ClassId) (H0 : Heap) (ad : Nat → Nat) (X S : St) (o : Nat → Int64) (i : Nat) (hi : i < cnt X 28) (hb28 : cnt X 28 ≤ 40) (h : Hp) (HX : ∀ n e, hall TC X S o n = some e → h n = some e) : CC l D (tysOf TC) H0 yX5_batchAt cX5_batchAt 3 (some (.object "Conformary$Batch")) 0 0 0 [.ref 0, .int (nI i)] ad h (PR ad (some (.ref (1400 + i))) h) (fun _ => False) := by
  refine cc_intro hst (by decide +kernel) (Nat.le_of_ble_eq_true rfl) ?_
  intro p e s m args below meth c F
  rw [show lv_args 0 [.ref 0, .int (nI i)] = [(0, .ref 0), (1, .int (nI i))] from rfl]
  refine wa_iload_n F dX5_batchAt_0 (i := 1) rfl 1 rfl ?_
  refine wa_if_lt (tgt := 13) F dX5_batchAt_1 (by decide) (fun c1 => ?_) (fun c1 => ?_)
  · skip
    replace c1 := lt_nle c1
    exact absurd c1 (nI_nneg (by omega))
  · skip
    replace c1 := nlt_le c1
    refine wa_iload_n F dX5_batchAt_4 (i := 1) rfl 1 rfl ?_
    refine wa_aload_n F dX5_batchAt_5 (i := 0) rfl 0 rfl ?_
    refine wa_getf (v := .ref 14) F LY_X5 (HX _ _ (hm_c (TC := TC) (X := X) (S := S) (o := o))) 4 (by decide) fl_X5_35 rfl dX5_batchAt_6 ?_
    refine wa_alen F 7 rfl (HX _ _ (hm_a4 (TC := TC) (X := X) (S := S) (o := o))) dX5_batchAt_9 ?_
    refine wa_icmp_lt (tgt := 17) F dX5_batchAt_10 (by decide) (fun c10 => ?_) (fun c10 => ?_)
    · skip
      replace c10 := lt_nle c10
      refine wa_aload_n F dX5_batchAt_17 (i := 0) rfl 0 rfl ?_
      refine wa_getf (v := .ref 14) F LY_X5 (HX _ _ (hm_c (TC := TC) (X := X) (S := S) (o := o))) 4 (by decide) fl_X5_35 rfl dX5_batchAt_18 ?_
      refine wa_iload_n F dX5_batchAt_21 (i := 1) rfl 1 rfl ?_
      refine wa_aald F 7 rfl (HX _ _ (hm_a4 (TC := TC) (X := X) (S := S) (o := o))) i rfl (by omega) (by decide) (rarr_t hi) dX5_batchAt_22 ?_
      refine wa_astore_n (lv' := [(2, .ref (1400 + i)), (0, .ref 0), (1, .int (nI i))]) F dX5_batchAt_23 (i := 2) rfl (by decide) rfl ?_
      refine wa_aload_n F dX5_batchAt_24 (i := 2) rfl 0 rfl ?_
      refine wa_ifnonnull (tgt := 39) F dX5_batchAt_25 (by decide) ?_
      refine wa_aload_n F dX5_batchAt_39 (i := 2) rfl 0 rfl ?_
      refine wa_aret F (Nat.le_of_ble_eq_true rfl) (Nat.le_of_ble_eq_true rfl) dX5_batchAt_40 ?_
      exact ⟨rfl, rfl, rfl⟩
    · skip
      replace c10 := nlt_le c10
      exact absurd ((nI_leI (by omega) (by omega)).mp c10) (by omega)
set_option maxHeartbeats 2000000 in
set_option maxRecDepth 20000 in
theorem c_X5_batchAt_no {l : Launch} (hst : l.stackTraces = false) (D : va_G) (TC : Nat → ClassId) (H0 : Heap) (ad : Nat → Nat) (X S : St) (o : Nat → Int64) (v : Int32) (hn : X 28 0 = nI (cnt X 28)) (hb28 : cnt X 28 ≤ 40) (hk : sIn v 0 (X 28 0 - 1) = false) (h : Hp) (HX : ∀ n e, hall TC X S o n = some e → h n = some e) : CC l D (tysOf TC) H0 yX5_batchAt cX5_batchAt 3 (some (.object "Conformary$Batch")) 6 1 6 [.ref 0, .int v] ad h (fun _ _ _ => False) (fun E => E = "java/lang/IndexOutOfBoundsException") := by
  refine cc_intro hst (by decide +kernel) (Nat.le_of_ble_eq_true rfl) ?_
  intro p e s m args below meth c F
  rw [show lv_args 0 [.ref 0, .int v] = [(0, .ref 0), (1, .int v)] from rfl]
  refine wa_iload_n F dX5_batchAt_0 (i := 1) rfl 1 rfl ?_
  refine wa_if_lt (tgt := 13) F dX5_batchAt_1 (by decide) (fun c1 => ?_) (fun c1 => ?_)
  · skip
    replace c1 := lt_nle c1
    refine wa_null F dX5_batchAt_13 ?_
    refine wa_goto (tgt := 23) F dX5_batchAt_14 (by decide) ?_
    refine wa_astore_nN (lv' := [(2, .null), (0, .ref 0), (1, .int v)]) F dX5_batchAt_23 (i := 2) rfl (by decide) rfl ?_
    refine wa_aload_nN F dX5_batchAt_24 (i := 2) rfl 0 rfl ?_
    refine wa_ifnonnullN F dX5_batchAt_25 ?_
    exact wa_throwSW F ft_IO cl_X5_229 in_IO sr_X5_281 at_IO gd_IO dX5_batchAt_28 dX5_batchAt_31 dX5_batchAt_32 dX5_batchAt_35 dX5_batchAt_38 (Nat.le_of_ble_eq_true rfl) (Nat.le_of_ble_eq_true rfl) (Nat.le_of_ble_eq_true rfl) (Nat.le_of_ble_eq_true rfl) (Nat.le_of_ble_eq_true rfl) (Nat.le_of_ble_eq_true rfl) (Nat.le_of_ble_eq_true rfl) rfl rfl rfl
  · skip
    replace c1 := nlt_le c1
    refine wa_iload_n F dX5_batchAt_4 (i := 1) rfl 1 rfl ?_
    refine wa_aload_n F dX5_batchAt_5 (i := 0) rfl 0 rfl ?_
    refine wa_getf (v := .ref 14) F LY_X5 (HX _ _ (hm_c (TC := TC) (X := X) (S := S) (o := o))) 4 (by decide) fl_X5_35 rfl dX5_batchAt_6 ?_
    refine wa_alen F 7 rfl (HX _ _ (hm_a4 (TC := TC) (X := X) (S := S) (o := o))) dX5_batchAt_9 ?_
    refine wa_icmp_lt (tgt := 17) F dX5_batchAt_10 (by decide) (fun c10 => ?_) (fun c10 => ?_)
    · skip
      replace c10 := lt_nle c10
      obtain ⟨j, hj, rfl⟩ := nI_of (lt_nle_of c1)
      have hj6 : j < 40 := Nat.lt_of_not_le fun z => c10 ((nI_leI (by omega) (by omega)).mpr z)
      have hjn : ¬ j < cnt X 28 := fun z => absurd hk (by rw [hn, sIn_of z (by omega)]; decide)
      refine wa_aload_n F dX5_batchAt_17 (i := 0) rfl 0 rfl ?_
      refine wa_getf (v := .ref 14) F LY_X5 (HX _ _ (hm_c (TC := TC) (X := X) (S := S) (o := o))) 4 (by decide) fl_X5_35 rfl dX5_batchAt_18 ?_
      refine wa_iload_n F dX5_batchAt_21 (i := 1) rfl 1 rfl ?_
      refine wa_aald F 7 rfl (HX _ _ (hm_a4 (TC := TC) (X := X) (S := S) (o := o))) j rfl (by omega) (by decide) (rarr_f hjn) dX5_batchAt_22 ?_
      refine wa_astore_nN (lv' := [(2, .null), (0, .ref 0), (1, .int (nI j))]) F dX5_batchAt_23 (i := 2) rfl (by decide) rfl ?_
      refine wa_aload_nN F dX5_batchAt_24 (i := 2) rfl 0 rfl ?_
      refine wa_ifnonnullN F dX5_batchAt_25 ?_
      exact wa_throwSW F ft_IO cl_X5_229 in_IO sr_X5_281 at_IO gd_IO dX5_batchAt_28 dX5_batchAt_31 dX5_batchAt_32 dX5_batchAt_35 dX5_batchAt_38 (Nat.le_of_ble_eq_true rfl) (Nat.le_of_ble_eq_true rfl) (Nat.le_of_ble_eq_true rfl) (Nat.le_of_ble_eq_true rfl) (Nat.le_of_ble_eq_true rfl) (Nat.le_of_ble_eq_true rfl) (Nat.le_of_ble_eq_true rfl) rfl rfl rfl
    · skip
      replace c10 := nlt_le c10
      refine wa_null F dX5_batchAt_13 ?_
      refine wa_goto (tgt := 23) F dX5_batchAt_14 (by decide) ?_
      refine wa_astore_nN (lv' := [(2, .null), (0, .ref 0), (1, .int v)]) F dX5_batchAt_23 (i := 2) rfl (by decide) rfl ?_
      refine wa_aload_nN F dX5_batchAt_24 (i := 2) rfl 0 rfl ?_
      refine wa_ifnonnullN F dX5_batchAt_25 ?_
      exact wa_throwSW F ft_IO cl_X5_229 in_IO sr_X5_281 at_IO gd_IO dX5_batchAt_28 dX5_batchAt_31 dX5_batchAt_32 dX5_batchAt_35 dX5_batchAt_38 (Nat.le_of_ble_eq_true rfl) (Nat.le_of_ble_eq_true rfl) (Nat.le_of_ble_eq_true rfl) (Nat.le_of_ble_eq_true rfl) (Nat.le_of_ble_eq_true rfl) (Nat.le_of_ble_eq_true rfl) (Nat.le_of_ble_eq_true rfl) rfl rfl rfl
