def kU (k : Int32) (u : St → St) (X : St) : St := if k = 0 then u X else X
def kO (k r : Int32) (o : Nat → Int64) : Nat → Int64 := if k = 0 then vp_updL o 0 r.toInt64 else o
theorem kU_0 (u : St → St) (X : St) : kU 0 u X = u X := if_pos rfl
theorem kO_0 (r : Int32) (o : Nat → Int64) : kO 0 r o = vp_updL o 0 r.toInt64 := if_pos rfl
theorem kU_n {k : Int32} (h : ¬ k = 0) (u : St → St) (X : St) : kU k u X = X := if_neg h
theorem kO_n {k : Int32} (h : ¬ k = 0) (r : Int32) (o : Nat → Int64) : kO k r o = o := if_neg h
theorem b64t {r : Int32} {b : Bool} (e : r = bI b) (h : ¬ r = 0) : r.toInt64 = 1 := by
  subst e; cases b
  · exact absurd rfl h
  · rfl
theorem b64f {r : Int32} (h : r = 0) : r.toInt64 = 0 := by rw [h]; rfl
set_option maxHeartbeats 2000000 in
set_option maxRecDepth 20000 in
theorem c_L_pass {l : Launch} (hst : l.stackTraces = false) (D : va_G) (TC : Nat → ClassId) (H0 : Heap) (ad : Nat → Nat) (X S : St) (o : Nat → Int64) (d : Int32) (n : Nat) (hi : INV n X) : CCH l D (tysOf TC) H0 yL_pass cL_pass 4 (some .int) [(0, 9, 12, 13), (0, 9, 15, 15)] 8 1 6 [.ref 0, .int d, .ref 1] ad (hall TC X S o) (PN ad (hall TC X S o) (some (.int (kPa X d))) (hall TC (kU (kPa X d) (uPa d) X) S (kO (kPa X d) (rPa X d) o))) (fun _ => False) := by
  refine cc_introH hst (by decide +kernel) (Nat.le_of_ble_eq_true rfl) ?_
  intro p e s m args below meth c F
  rw [show lv_args 0 [.ref 0, .int d, .ref 1] = [(0, .ref 0), (1, .int d), (2, .ref 1)] from rfl]
  refine wa_aload_n F dL_pass_0 (i := 2) rfl 2 rfl ?_
  refine wa_iconst (v := 0) F dL_pass_1 (by decide) ?_
  refine wa_aload_n F dL_pass_2 (i := 0) rfl 0 rfl ?_
  refine wa_iload_n F dL_pass_3 (i := 1) rfl 1 rfl ?_
  refine wa_callV F [.int 0, .ref 1] (c_X5_pass hst D TC H0 ad X S o d n hi) mw_X5_pass ml_L_88 (hm_c (TC := TC) (X := X) (S := S) (o := o)) rfl rfl (Nat.le_of_ble_eq_true rfl) ⟨(Nat.le_of_ble_eq_true rfl), (Nat.le_of_ble_eq_true rfl)⟩ ⟨(Nat.le_of_ble_eq_true rfl), (Nat.le_of_ble_eq_true rfl)⟩ dL_pass_4 (fun v a2 h2 z => PR_ag v a2 h2 z.2) ?_ ?_
  · intro E hE
    rcases hE with ⟨rfl, ek⟩ | ⟨rfl, ek⟩
    · skip
      refine wx_catch F (tableOf []) { startPc := 0, endPc := 9, handlerPc := 12, catchType := 13 } (tableOf [(0, 9, 15, 15)]) rfl (fun z hz => absurd hz List.not_mem_nil) (by decide) (by decide) cl_L_13 ca_IA 12 rfl ?_
      refine wa_drop_n F dL_pass_12 (i := 3) rfl (by decide) (lv' := [(0, .ref 0), (1, .int d), (2, .ref 1)]) rfl ?_
      refine wa_iconst (v := 1) F dL_pass_13 (by decide) ?_
      refine wa_iret F rfl (Nat.le_of_ble_eq_true rfl) (Nat.le_of_ble_eq_true rfl) dL_pass_14 ?_
      exact ⟨by rw [ek], fun _ _ => rfl, by rw [ek, kU_n (by decide), kO_n (by decide)]⟩
    · skip
      refine wx_catch F (tableOf [(0, 9, 12, 13)]) { startPc := 0, endPc := 9, handlerPc := 15, catchType := 15 } (tableOf []) rfl (by intro z hz; simp only [tableOf, List.map_cons, List.map_nil, List.mem_cons, List.not_mem_nil, or_false] at hz; rcases hz with rfl; exact ⟨by decide, _, cl_L_13, by decide, by decide, by decide⟩) (by decide) (by decide) cl_L_15 ca_IS 15 rfl ?_
      refine wa_drop_n F dL_pass_15 (i := 3) rfl (by decide) (lv' := [(0, .ref 0), (1, .int d), (2, .ref 1)]) rfl ?_
      refine wa_iconst (v := 2) F dL_pass_16 (by decide) ?_
      refine wa_iret F rfl (Nat.le_of_ble_eq_true rfl) (Nat.le_of_ble_eq_true rfl) dL_pass_17 ?_
      exact ⟨by rw [ek], fun _ _ => rfl, by rw [ek, kU_n (by decide), kO_n (by decide)]⟩
  · rintro _ _ _ ⟨ek, rfl, rfl, rfl⟩
    refine wa_i2l F dL_pass_7 rfl ?_
    refine wa_last F 1 rfl (hm_o (TC := TC) (X := (uPa d X)) (S := S) (o := o)) 0 rfl (by decide) (by decide) dL_pass_8 (hs_o ((rPa X d).toInt64)) ?_
    refine wa_goto (tgt := 18) F dL_pass_9 (by decide) ?_
    refine wa_iconst (v := 0) F dL_pass_18 (by decide) ?_
    refine wa_iret F rfl (Nat.le_of_ble_eq_true rfl) (Nat.le_of_ble_eq_true rfl) dL_pass_19 ?_
    exact ⟨by rw [ek], fun _ _ => rfl, by rw [ek, kU_0, kO_0]⟩
set_option maxHeartbeats 2000000 in
set_option maxRecDepth 20000 in
theorem c_L_withdraw {l : Launch} (hst : l.stackTraces = false) (D : va_G) (TC : Nat → ClassId) (H0 : Heap) (ad : Nat → Nat) (X S : St) (o : Nat → Int64) (v : Int32) (b : Int32) (n : Nat) (hi : INV n X) : CCH l D (tysOf TC) H0 yL_withdraw cL_withdraw 5 (some .int) [(0, 10, 13, 21), (0, 10, 17, 13)] 8 1 6 [.ref 0, .int v, .int b, .ref 1] ad (hall TC X S o) (PN ad (hall TC X S o) (some (.int (kWd X v b))) (hall TC (kU (kWd X v b) (uWd v b) X) S (kO (kWd X v b) (rWd X v) o))) (fun _ => False) := by
  refine cc_introH hst (by decide +kernel) (Nat.le_of_ble_eq_true rfl) ?_
  intro p e s m args below meth c F
  rw [show lv_args 0 [.ref 0, .int v, .int b, .ref 1] = [(0, .ref 0), (1, .int v), (2, .int b), (3, .ref 1)] from rfl]
  refine wa_aload_n F dL_withdraw_0 (i := 3) rfl 3 rfl ?_
  refine wa_iconst (v := 0) F dL_withdraw_1 (by decide) ?_
  refine wa_aload_n F dL_withdraw_2 (i := 0) rfl 0 rfl ?_
  refine wa_iload_n F dL_withdraw_3 (i := 1) rfl 1 rfl ?_
  refine wa_iload_n F dL_withdraw_4 (i := 2) rfl 2 rfl ?_
  refine wa_callV F [.int 0, .ref 1] (c_X5_withdraw hst D TC H0 ad X S o v b n hi) mw_X5_withdraw ml_L_27 (hm_c (TC := TC) (X := X) (S := S) (o := o)) rfl rfl (Nat.le_of_ble_eq_true rfl) ⟨(Nat.le_of_ble_eq_true rfl), (Nat.le_of_ble_eq_true rfl)⟩ ⟨(Nat.le_of_ble_eq_true rfl), (Nat.le_of_ble_eq_true rfl)⟩ dL_withdraw_5 (fun v a2 h2 z => PR_ag v a2 h2 z.2) ?_ ?_
  · intro E hE
    rcases hE with ⟨rfl, ek⟩ | ⟨rfl, ek⟩
    · skip
      refine wx_catch F (tableOf []) { startPc := 0, endPc := 10, handlerPc := 13, catchType := 21 } (tableOf [(0, 10, 17, 13)]) rfl (fun z hz => absurd hz List.not_mem_nil) (by decide) (by decide) cl_L_21 ca_IO 13 rfl ?_
      refine wa_drop F dL_withdraw_13 (by decide) (lv' := [(0, .ref 0), (1, .int v), (2, .int b), (3, .ref 1)]) rfl ?_
      refine wa_iconst (v := 1) F dL_withdraw_15 (by decide) ?_
      refine wa_iret F rfl (Nat.le_of_ble_eq_true rfl) (Nat.le_of_ble_eq_true rfl) dL_withdraw_16 ?_
      exact ⟨by rw [ek], fun _ _ => rfl, by rw [ek, kU_n (by decide), kO_n (by decide)]⟩
    · skip
      refine wx_catch F (tableOf [(0, 10, 13, 21)]) { startPc := 0, endPc := 10, handlerPc := 17, catchType := 13 } (tableOf []) rfl (by intro z hz; simp only [tableOf, List.map_cons, List.map_nil, List.mem_cons, List.not_mem_nil, or_false] at hz; rcases hz with rfl; exact ⟨by decide, _, cl_L_21, by decide, by decide, by decide⟩) (by decide) (by decide) cl_L_13 ca_IA 17 rfl ?_
      refine wa_drop F dL_withdraw_17 (by decide) (lv' := [(0, .ref 0), (1, .int v), (2, .int b), (3, .ref 1)]) rfl ?_
      refine wa_iconst (v := 2) F dL_withdraw_19 (by decide) ?_
      refine wa_iret F rfl (Nat.le_of_ble_eq_true rfl) (Nat.le_of_ble_eq_true rfl) dL_withdraw_20 ?_
      exact ⟨by rw [ek], fun _ _ => rfl, by rw [ek, kU_n (by decide), kO_n (by decide)]⟩
  · rintro _ _ _ ⟨ek, rfl, rfl, rfl⟩
    refine wa_i2l F dL_withdraw_8 rfl ?_
    refine wa_last F 1 rfl (hm_o (TC := TC) (X := (uWd v b X)) (S := S) (o := o)) 0 rfl (by decide) (by decide) dL_withdraw_9 (hs_o ((rWd X v).toInt64)) ?_
    refine wa_goto (tgt := 21) F dL_withdraw_10 (by decide) ?_
    refine wa_iconst (v := 0) F dL_withdraw_21 (by decide) ?_
    refine wa_iret F rfl (Nat.le_of_ble_eq_true rfl) (Nat.le_of_ble_eq_true rfl) dL_withdraw_22 ?_
    exact ⟨by rw [ek], fun _ _ => rfl, by rw [ek, kU_0, kO_0]⟩
set_option maxHeartbeats 2000000 in
set_option maxRecDepth 20000 in
theorem c_L_restrict {l : Launch} (hst : l.stackTraces = false) (D : va_G) (TC : Nat → ClassId) (H0 : Heap) (ad : Nat → Nat) (X S : St) (o : Nat → Int64) (v : Int32) (b : Int32) (n : Nat) (hi : INV n X) : CCH l D (tysOf TC) H0 yL_restrict cL_restrict 5 (some .int) [(0, 10, 13, 21), (0, 10, 17, 13)] 8 1 6 [.ref 0, .int v, .int b, .ref 1] ad (hall TC X S o) (PN ad (hall TC X S o) (some (.int (kRs X v b))) (hall TC (kU (kRs X v b) (uRs v b) X) S (kO (kRs X v b) (rRs X v b) o))) (fun _ => False) := by
  refine cc_introH hst (by decide +kernel) (Nat.le_of_ble_eq_true rfl) ?_
  intro p e s m args below meth c F
  rw [show lv_args 0 [.ref 0, .int v, .int b, .ref 1] = [(0, .ref 0), (1, .int v), (2, .int b), (3, .ref 1)] from rfl]
  refine wa_aload_n F dL_restrict_0 (i := 3) rfl 3 rfl ?_
  refine wa_iconst (v := 0) F dL_restrict_1 (by decide) ?_
  refine wa_aload_n F dL_restrict_2 (i := 0) rfl 0 rfl ?_
  refine wa_iload_n F dL_restrict_3 (i := 1) rfl 1 rfl ?_
  refine wa_iload_n F dL_restrict_4 (i := 2) rfl 2 rfl ?_
  refine wa_callV F [.int 0, .ref 1] (c_X5_restrict hst D TC H0 ad X S o v b n hi) mw_X5_restrict ml_L_30 (hm_c (TC := TC) (X := X) (S := S) (o := o)) rfl rfl (Nat.le_of_ble_eq_true rfl) ⟨(Nat.le_of_ble_eq_true rfl), (Nat.le_of_ble_eq_true rfl)⟩ ⟨(Nat.le_of_ble_eq_true rfl), (Nat.le_of_ble_eq_true rfl)⟩ dL_restrict_5 (fun v a2 h2 z => PR_ag v a2 h2 z.2) ?_ ?_
  · intro E hE
    rcases hE with ⟨rfl, ek⟩ | ⟨rfl, ek⟩
    · skip
      refine wx_catch F (tableOf []) { startPc := 0, endPc := 10, handlerPc := 13, catchType := 21 } (tableOf [(0, 10, 17, 13)]) rfl (fun z hz => absurd hz List.not_mem_nil) (by decide) (by decide) cl_L_21 ca_IO 13 rfl ?_
      refine wa_drop F dL_restrict_13 (by decide) (lv' := [(0, .ref 0), (1, .int v), (2, .int b), (3, .ref 1)]) rfl ?_
      refine wa_iconst (v := 1) F dL_restrict_15 (by decide) ?_
      refine wa_iret F rfl (Nat.le_of_ble_eq_true rfl) (Nat.le_of_ble_eq_true rfl) dL_restrict_16 ?_
      exact ⟨by rw [ek], fun _ _ => rfl, by rw [ek, kU_n (by decide), kO_n (by decide)]⟩
    · skip
      refine wx_catch F (tableOf [(0, 10, 13, 21)]) { startPc := 0, endPc := 10, handlerPc := 17, catchType := 13 } (tableOf []) rfl (by intro z hz; simp only [tableOf, List.map_cons, List.map_nil, List.mem_cons, List.not_mem_nil, or_false] at hz; rcases hz with rfl; exact ⟨by decide, _, cl_L_21, by decide, by decide, by decide⟩) (by decide) (by decide) cl_L_13 ca_IA 17 rfl ?_
      refine wa_drop F dL_restrict_17 (by decide) (lv' := [(0, .ref 0), (1, .int v), (2, .int b), (3, .ref 1)]) rfl ?_
      refine wa_iconst (v := 2) F dL_restrict_19 (by decide) ?_
      refine wa_iret F rfl (Nat.le_of_ble_eq_true rfl) (Nat.le_of_ble_eq_true rfl) dL_restrict_20 ?_
      exact ⟨by rw [ek], fun _ _ => rfl, by rw [ek, kU_n (by decide), kO_n (by decide)]⟩
  · rintro _ _ _ ⟨ek, rfl, rfl, rfl⟩
    refine wa_i2l F dL_restrict_8 rfl ?_
    refine wa_last F 1 rfl (hm_o (TC := TC) (X := (uRs v b X)) (S := S) (o := o)) 0 rfl (by decide) (by decide) dL_restrict_9 (hs_o ((rRs X v b).toInt64)) ?_
    refine wa_goto (tgt := 21) F dL_restrict_10 (by decide) ?_
    refine wa_iconst (v := 0) F dL_restrict_21 (by decide) ?_
    refine wa_iret F rfl (Nat.le_of_ble_eq_true rfl) (Nat.le_of_ble_eq_true rfl) dL_restrict_22 ?_
    exact ⟨by rw [ek], fun _ _ => rfl, by rw [ek, kU_0, kO_0]⟩
set_option maxHeartbeats 2000000 in
set_option maxRecDepth 20000 in
theorem c_L_prove {l : Launch} (hst : l.stackTraces = false) (D : va_G) (TC : Nat → ClassId) (H0 : Heap) (ad : Nat → Nat) (X S : St) (o : Nat → Int64) (v : Int32) (b : Int32) (n : Nat) (hi : INV n X) : CCH l D (tysOf TC) H0 yL_prove cL_prove 5 (some .int) [(0, 10, 13, 21), (0, 10, 17, 13)] 8 1 6 [.ref 0, .int v, .int b, .ref 1] ad (hall TC X S o) (PN ad (hall TC X S o) (some (.int (kPv X v b))) (hall TC (kU (kPv X v b) (uPv v b) X) S (kO (kPv X v b) (rPv X v b) o))) (fun _ => False) := by
  refine cc_introH hst (by decide +kernel) (Nat.le_of_ble_eq_true rfl) ?_
  intro p e s m args below meth c F
  rw [show lv_args 0 [.ref 0, .int v, .int b, .ref 1] = [(0, .ref 0), (1, .int v), (2, .int b), (3, .ref 1)] from rfl]
  refine wa_aload_n F dL_prove_0 (i := 3) rfl 3 rfl ?_
  refine wa_iconst (v := 0) F dL_prove_1 (by decide) ?_
  refine wa_aload_n F dL_prove_2 (i := 0) rfl 0 rfl ?_
  refine wa_iload_n F dL_prove_3 (i := 1) rfl 1 rfl ?_
  refine wa_iload_n F dL_prove_4 (i := 2) rfl 2 rfl ?_
  refine wa_callV F [.int 0, .ref 1] (c_X5_prove hst D TC H0 ad X S o v b n hi) mw_X5_prove ml_L_47 (hm_c (TC := TC) (X := X) (S := S) (o := o)) rfl rfl (Nat.le_of_ble_eq_true rfl) ⟨(Nat.le_of_ble_eq_true rfl), (Nat.le_of_ble_eq_true rfl)⟩ ⟨(Nat.le_of_ble_eq_true rfl), (Nat.le_of_ble_eq_true rfl)⟩ dL_prove_5 (fun v a2 h2 z => PR_ag v a2 h2 z.2) ?_ ?_
  · intro E hE
    rcases hE with ⟨rfl, ek⟩ | ⟨rfl, ek⟩
    · skip
      refine wx_catch F (tableOf []) { startPc := 0, endPc := 10, handlerPc := 13, catchType := 21 } (tableOf [(0, 10, 17, 13)]) rfl (fun z hz => absurd hz List.not_mem_nil) (by decide) (by decide) cl_L_21 ca_IO 13 rfl ?_
      refine wa_drop F dL_prove_13 (by decide) (lv' := [(0, .ref 0), (1, .int v), (2, .int b), (3, .ref 1)]) rfl ?_
      refine wa_iconst (v := 1) F dL_prove_15 (by decide) ?_
      refine wa_iret F rfl (Nat.le_of_ble_eq_true rfl) (Nat.le_of_ble_eq_true rfl) dL_prove_16 ?_
      exact ⟨by rw [ek], fun _ _ => rfl, by rw [ek, kU_n (by decide), kO_n (by decide)]⟩
    · skip
      refine wx_catch F (tableOf [(0, 10, 13, 21)]) { startPc := 0, endPc := 10, handlerPc := 17, catchType := 13 } (tableOf []) rfl (by intro z hz; simp only [tableOf, List.map_cons, List.map_nil, List.mem_cons, List.not_mem_nil, or_false] at hz; rcases hz with rfl; exact ⟨by decide, _, cl_L_21, by decide, by decide, by decide⟩) (by decide) (by decide) cl_L_13 ca_IA 17 rfl ?_
      refine wa_drop F dL_prove_17 (by decide) (lv' := [(0, .ref 0), (1, .int v), (2, .int b), (3, .ref 1)]) rfl ?_
      refine wa_iconst (v := 2) F dL_prove_19 (by decide) ?_
      refine wa_iret F rfl (Nat.le_of_ble_eq_true rfl) (Nat.le_of_ble_eq_true rfl) dL_prove_20 ?_
      exact ⟨by rw [ek], fun _ _ => rfl, by rw [ek, kU_n (by decide), kO_n (by decide)]⟩
  · rintro _ _ _ ⟨ek, rfl, rfl, rfl⟩
    refine wa_i2l F dL_prove_8 rfl ?_
    refine wa_last F 1 rfl (hm_o (TC := TC) (X := (uPv v b X)) (S := S) (o := o)) 0 rfl (by decide) (by decide) dL_prove_9 (hs_o ((rPv X v b).toInt64)) ?_
    refine wa_goto (tgt := 21) F dL_prove_10 (by decide) ?_
    refine wa_iconst (v := 0) F dL_prove_21 (by decide) ?_
    refine wa_iret F rfl (Nat.le_of_ble_eq_true rfl) (Nat.le_of_ble_eq_true rfl) dL_prove_22 ?_
    exact ⟨by rw [ek], fun _ _ => rfl, by rw [ek, kU_0, kO_0]⟩
set_option maxHeartbeats 2000000 in
set_option maxRecDepth 20000 in
theorem c_L_follow {l : Launch} (hst : l.stackTraces = false) (D : va_G) (TC : Nat → ClassId) (H0 : Heap) (ad : Nat → Nat) (X S : St) (o : Nat → Int64) (v : Int32) (t : Int32) (b : Int32) (n : Nat) (hi : INV n X) : CCH l D (tysOf TC) H0 yL_follow cL_follow 6 (some .int) [(0, 12, 15, 21), (0, 12, 19, 13)] 8 1 6 [.ref 0, .int v, .int t, .int b, .ref 1] ad (hall TC X S o) (PN ad (hall TC X S o) (some (.int (kFo X v t b))) (hall TC (kU (kFo X v t b) (uFo v t b) X) S (kO (kFo X v t b) (rFo X v t) o))) (fun _ => False) := by
  refine cc_introH hst (by decide +kernel) (Nat.le_of_ble_eq_true rfl) ?_
  intro p e s m args below meth c F
  rw [show lv_args 0 [.ref 0, .int v, .int t, .int b, .ref 1] = [(0, .ref 0), (1, .int v), (2, .int t), (3, .int b), (4, .ref 1)] from rfl]
  refine wa_aload F dL_follow_0 4 rfl ?_
  refine wa_iconst (v := 0) F dL_follow_2 (by decide) ?_
  refine wa_aload_n F dL_follow_3 (i := 0) rfl 0 rfl ?_
  refine wa_iload_n F dL_follow_4 (i := 1) rfl 1 rfl ?_
  refine wa_iload_n F dL_follow_5 (i := 2) rfl 2 rfl ?_
  refine wa_iload_n F dL_follow_6 (i := 3) rfl 3 rfl ?_
  refine wa_callV F [.int 0, .ref 1] (c_X5_follow hst D TC H0 ad X S o v t b n hi) mw_X5_follow ml_L_43 (hm_c (TC := TC) (X := X) (S := S) (o := o)) rfl rfl (Nat.le_of_ble_eq_true rfl) ⟨(Nat.le_of_ble_eq_true rfl), (Nat.le_of_ble_eq_true rfl)⟩ ⟨(Nat.le_of_ble_eq_true rfl), (Nat.le_of_ble_eq_true rfl)⟩ dL_follow_7 (fun v a2 h2 z => PR_ag v a2 h2 z.2) ?_ ?_
  · intro E hE
    rcases hE with ⟨rfl, ek⟩ | ⟨rfl, ek⟩
    · skip
      refine wx_catch F (tableOf []) { startPc := 0, endPc := 12, handlerPc := 15, catchType := 21 } (tableOf [(0, 12, 19, 13)]) rfl (fun z hz => absurd hz List.not_mem_nil) (by decide) (by decide) cl_L_21 ca_IO 15 rfl ?_
      refine wa_drop F dL_follow_15 (by decide) (lv' := [(0, .ref 0), (1, .int v), (2, .int t), (3, .int b), (4, .ref 1)]) rfl ?_
      refine wa_iconst (v := 1) F dL_follow_17 (by decide) ?_
      refine wa_iret F rfl (Nat.le_of_ble_eq_true rfl) (Nat.le_of_ble_eq_true rfl) dL_follow_18 ?_
      exact ⟨by rw [ek], fun _ _ => rfl, by rw [ek, kU_n (by decide), kO_n (by decide)]⟩
    · skip
      refine wx_catch F (tableOf [(0, 12, 15, 21)]) { startPc := 0, endPc := 12, handlerPc := 19, catchType := 13 } (tableOf []) rfl (by intro z hz; simp only [tableOf, List.map_cons, List.map_nil, List.mem_cons, List.not_mem_nil, or_false] at hz; rcases hz with rfl; exact ⟨by decide, _, cl_L_21, by decide, by decide, by decide⟩) (by decide) (by decide) cl_L_13 ca_IA 19 rfl ?_
      refine wa_drop F dL_follow_19 (by decide) (lv' := [(0, .ref 0), (1, .int v), (2, .int t), (3, .int b), (4, .ref 1)]) rfl ?_
      refine wa_iconst (v := 2) F dL_follow_21 (by decide) ?_
      refine wa_iret F rfl (Nat.le_of_ble_eq_true rfl) (Nat.le_of_ble_eq_true rfl) dL_follow_22 ?_
      exact ⟨by rw [ek], fun _ _ => rfl, by rw [ek, kU_n (by decide), kO_n (by decide)]⟩
  · rintro _ _ _ ⟨ek, rfl, rfl, rfl⟩
    refine wa_i2l F dL_follow_10 rfl ?_
    refine wa_last F 1 rfl (hm_o (TC := TC) (X := (uFo v t b X)) (S := S) (o := o)) 0 rfl (by decide) (by decide) dL_follow_11 (hs_o ((rFo X v t).toInt64)) ?_
    refine wa_goto (tgt := 23) F dL_follow_12 (by decide) ?_
    refine wa_iconst (v := 0) F dL_follow_23 (by decide) ?_
    refine wa_iret F rfl (Nat.le_of_ble_eq_true rfl) (Nat.le_of_ble_eq_true rfl) dL_follow_24 ?_
    exact ⟨by rw [ek], fun _ _ => rfl, by rw [ek, kU_0, kO_0]⟩
set_option maxHeartbeats 2000000 in
set_option maxRecDepth 20000 in
theorem c_L_way {l : Launch} (hst : l.stackTraces = false) (D : va_G) (TC : Nat → ClassId) (H0 : Heap) (ad : Nat → Nat) (X S : St) (o : Nat → Int64) (v : Int32) (n : Nat) (hi : INV n X) : CCH l D (tysOf TC) H0 yL_way cL_way 4 (some .int) [(0, 9, 12, 21)] 8 1 6 [.ref 0, .int v, .ref 1] ad (hall TC X S o) (PN ad (hall TC X S o) (some (.int (kQp X v))) (hall TC (kU (kQp X v) (fun Y => Y) X) S (kO (kQp X v) (rWy X v) o))) (fun _ => False) := by
  refine cc_introH hst (by decide +kernel) (Nat.le_of_ble_eq_true rfl) ?_
  intro p e s m args below meth c F
  rw [show lv_args 0 [.ref 0, .int v, .ref 1] = [(0, .ref 0), (1, .int v), (2, .ref 1)] from rfl]
  refine wa_aload_n F dL_way_0 (i := 2) rfl 2 rfl ?_
  refine wa_iconst (v := 0) F dL_way_1 (by decide) ?_
  refine wa_aload_n F dL_way_2 (i := 0) rfl 0 rfl ?_
  refine wa_iload_n F dL_way_3 (i := 1) rfl 1 rfl ?_
  refine wa_callV F [.int 0, .ref 1] (c_X5_way hst D TC H0 ad X S o v n hi) mw_X5_way ml_L_98 (hm_c (TC := TC) (X := X) (S := S) (o := o)) rfl rfl (Nat.le_of_ble_eq_true rfl) ⟨(Nat.le_of_ble_eq_true rfl), (Nat.le_of_ble_eq_true rfl)⟩ ⟨(Nat.le_of_ble_eq_true rfl), (Nat.le_of_ble_eq_true rfl)⟩ dL_way_4 (fun v a2 h2 z => PR_ag v a2 h2 z.2) ?_ ?_
  · intro E hE
    rcases hE with ⟨rfl, ek⟩
    · skip
      refine wx_catch F (tableOf []) { startPc := 0, endPc := 9, handlerPc := 12, catchType := 21 } (tableOf []) rfl (fun z hz => absurd hz List.not_mem_nil) (by decide) (by decide) cl_L_21 ca_IO 12 rfl ?_
      refine wa_drop_n F dL_way_12 (i := 3) rfl (by decide) (lv' := [(0, .ref 0), (1, .int v), (2, .ref 1)]) rfl ?_
      refine wa_iconst (v := 1) F dL_way_13 (by decide) ?_
      refine wa_iret F rfl (Nat.le_of_ble_eq_true rfl) (Nat.le_of_ble_eq_true rfl) dL_way_14 ?_
      exact ⟨by rw [ek], fun _ _ => rfl, by rw [ek, kU_n (by decide), kO_n (by decide)]⟩
  · rintro _ _ _ ⟨ek, rfl, rfl, rfl⟩
    refine wa_i2l F dL_way_7 rfl ?_
    refine wa_last F 1 rfl (hm_o (TC := TC) (X := X) (S := S) (o := o)) 0 rfl (by decide) (by decide) dL_way_8 (hs_o ((rWy X v).toInt64)) ?_
    refine wa_goto (tgt := 15) F dL_way_9 (by decide) ?_
    refine wa_iconst (v := 0) F dL_way_15 (by decide) ?_
    refine wa_iret F rfl (Nat.le_of_ble_eq_true rfl) (Nat.le_of_ble_eq_true rfl) dL_way_16 ?_
    exact ⟨by rw [ek], fun _ _ => rfl, by rw [ek, kU_0, kO_0]⟩
set_option maxHeartbeats 2000000 in
set_option maxRecDepth 20000 in
theorem c_L_wanting {l : Launch} (hst : l.stackTraces = false) (D : va_G) (TC : Nat → ClassId) (H0 : Heap) (ad : Nat → Nat) (X S : St) (o : Nat → Int64) (v : Int32) (n : Nat) (hi : INV n X) : CCH l D (tysOf TC) H0 yL_wanting cL_wanting 4 (some .int) [(0, 9, 12, 21)] 8 1 6 [.ref 0, .int v, .ref 1] ad (hall TC X S o) (PN ad (hall TC X S o) (some (.int (kQp X v))) (hall TC (kU (kQp X v) (fun Y => Y) X) S (kO (kQp X v) (rWt X v) o))) (fun _ => False) := by
  refine cc_introH hst (by decide +kernel) (Nat.le_of_ble_eq_true rfl) ?_
  intro p e s m args below meth c F
  rw [show lv_args 0 [.ref 0, .int v, .ref 1] = [(0, .ref 0), (1, .int v), (2, .ref 1)] from rfl]
  refine wa_aload_n F dL_wanting_0 (i := 2) rfl 2 rfl ?_
  refine wa_iconst (v := 0) F dL_wanting_1 (by decide) ?_
  refine wa_aload_n F dL_wanting_2 (i := 0) rfl 0 rfl ?_
  refine wa_iload_n F dL_wanting_3 (i := 1) rfl 1 rfl ?_
  refine wa_callV F [.int 0, .ref 1] (c_X5_wanting hst D TC H0 ad X S o v n hi) mw_X5_wanting ml_L_101 (hm_c (TC := TC) (X := X) (S := S) (o := o)) rfl rfl (Nat.le_of_ble_eq_true rfl) ⟨(Nat.le_of_ble_eq_true rfl), (Nat.le_of_ble_eq_true rfl)⟩ ⟨(Nat.le_of_ble_eq_true rfl), (Nat.le_of_ble_eq_true rfl)⟩ dL_wanting_4 (fun v a2 h2 z => PR_ag v a2 h2 z.2) ?_ ?_
  · intro E hE
    rcases hE with ⟨rfl, ek⟩
    · skip
      refine wx_catch F (tableOf []) { startPc := 0, endPc := 9, handlerPc := 12, catchType := 21 } (tableOf []) rfl (fun z hz => absurd hz List.not_mem_nil) (by decide) (by decide) cl_L_21 ca_IO 12 rfl ?_
      refine wa_drop_n F dL_wanting_12 (i := 3) rfl (by decide) (lv' := [(0, .ref 0), (1, .int v), (2, .ref 1)]) rfl ?_
      refine wa_iconst (v := 1) F dL_wanting_13 (by decide) ?_
      refine wa_iret F rfl (Nat.le_of_ble_eq_true rfl) (Nat.le_of_ble_eq_true rfl) dL_wanting_14 ?_
      exact ⟨by rw [ek], fun _ _ => rfl, by rw [ek, kU_n (by decide), kO_n (by decide)]⟩
  · rintro _ _ _ ⟨ek, rfl, rfl, rfl⟩
    refine wa_i2l F dL_wanting_7 rfl ?_
    refine wa_last F 1 rfl (hm_o (TC := TC) (X := X) (S := S) (o := o)) 0 rfl (by decide) (by decide) dL_wanting_8 (hs_o ((rWt X v).toInt64)) ?_
    refine wa_goto (tgt := 15) F dL_wanting_9 (by decide) ?_
    refine wa_iconst (v := 0) F dL_wanting_15 (by decide) ?_
    refine wa_iret F rfl (Nat.le_of_ble_eq_true rfl) (Nat.le_of_ble_eq_true rfl) dL_wanting_16 ?_
    exact ⟨by rw [ek], fun _ _ => rfl, by rw [ek, kU_0, kO_0]⟩
set_option maxHeartbeats 2000000 in
set_option maxRecDepth 20000 in
theorem c_L_wantingAnew {l : Launch} (hst : l.stackTraces = false) (D : va_G) (TC : Nat → ClassId) (H0 : Heap) (ad : Nat → Nat) (X S : St) (o : Nat → Int64) (v : Int32) (n : Nat) (hi : INV n X) : CCH l D (tysOf TC) H0 yL_wantingAnew cL_wantingAnew 4 (some .int) [(0, 9, 12, 21)] 8 1 6 [.ref 0, .int v, .ref 1] ad (hall TC X S o) (PN ad (hall TC X S o) (some (.int (kWn X v))) (hall TC (kU (kWn X v) (fun Y => Y) X) S (kO (kWn X v) (rWn X v) o))) (fun _ => False) := by
  refine cc_introH hst (by decide +kernel) (Nat.le_of_ble_eq_true rfl) ?_
  intro p e s m args below meth c F
  rw [show lv_args 0 [.ref 0, .int v, .ref 1] = [(0, .ref 0), (1, .int v), (2, .ref 1)] from rfl]
  refine wa_aload_n F dL_wantingAnew_0 (i := 2) rfl 2 rfl ?_
  refine wa_iconst (v := 0) F dL_wantingAnew_1 (by decide) ?_
  refine wa_aload_n F dL_wantingAnew_2 (i := 0) rfl 0 rfl ?_
  refine wa_iload_n F dL_wantingAnew_3 (i := 1) rfl 1 rfl ?_
  refine wa_callV F [.int 0, .ref 1] (c_X5_wantingAnew hst D TC H0 ad X S o v n hi) mw_X5_wantingAnew ml_L_113 (hm_c (TC := TC) (X := X) (S := S) (o := o)) rfl rfl (Nat.le_of_ble_eq_true rfl) ⟨(Nat.le_of_ble_eq_true rfl), (Nat.le_of_ble_eq_true rfl)⟩ ⟨(Nat.le_of_ble_eq_true rfl), (Nat.le_of_ble_eq_true rfl)⟩ dL_wantingAnew_4 (fun v a2 h2 z => PR_ag v a2 h2 z.2) ?_ ?_
  · intro E hE
    rcases hE with ⟨rfl, ek⟩
    · skip
      refine wx_catch F (tableOf []) { startPc := 0, endPc := 9, handlerPc := 12, catchType := 21 } (tableOf []) rfl (fun z hz => absurd hz List.not_mem_nil) (by decide) (by decide) cl_L_21 ca_IO 12 rfl ?_
      refine wa_drop_n F dL_wantingAnew_12 (i := 3) rfl (by decide) (lv' := [(0, .ref 0), (1, .int v), (2, .ref 1)]) rfl ?_
      refine wa_iconst (v := 1) F dL_wantingAnew_13 (by decide) ?_
      refine wa_iret F rfl (Nat.le_of_ble_eq_true rfl) (Nat.le_of_ble_eq_true rfl) dL_wantingAnew_14 ?_
      exact ⟨by rw [ek], fun _ _ => rfl, by rw [ek, kU_n (by decide), kO_n (by decide)]⟩
  · rintro _ _ _ ⟨ek, rfl, rfl, rfl⟩
    refine wa_i2l F dL_wantingAnew_7 rfl ?_
    refine wa_last F 1 rfl (hm_o (TC := TC) (X := X) (S := S) (o := o)) 0 rfl (by decide) (by decide) dL_wantingAnew_8 (hs_o ((rWn X v).toInt64)) ?_
    refine wa_goto (tgt := 15) F dL_wantingAnew_9 (by decide) ?_
    refine wa_iconst (v := 0) F dL_wantingAnew_15 (by decide) ?_
    refine wa_iret F rfl (Nat.le_of_ble_eq_true rfl) (Nat.le_of_ble_eq_true rfl) dL_wantingAnew_16 ?_
    exact ⟨by rw [ek], fun _ _ => rfl, by rw [ek, kU_0, kO_0]⟩
set_option maxHeartbeats 2000000 in
set_option maxRecDepth 20000 in
theorem c_L_demands {l : Launch} (hst : l.stackTraces = false) (D : va_G) (TC : Nat → ClassId) (H0 : Heap) (ad : Nat → Nat) (X S : St) (o : Nat → Int64) (v : Int32) (q : Bool) (n : Nat) (hi : INV n X) : CCH l D (tysOf TC) H0 yL_demands cL_demands 5 (some .int) [(0, 10, 13, 21)] 8 1 6 [.ref 0, .int v, .int (bI q), .ref 1] ad (hall TC X S o) (PN ad (hall TC X S o) (some (.int (kQp X v))) (hall TC (kU (kQp X v) (fun Y => Y) X) S (kO (kQp X v) (rDm X v q) o))) (fun _ => False) := by
  refine cc_introH hst (by decide +kernel) (Nat.le_of_ble_eq_true rfl) ?_
  intro p e s m args below meth c F
  rw [show lv_args 0 [.ref 0, .int v, .int (bI q), .ref 1] = [(0, .ref 0), (1, .int v), (2, .int (bI q)), (3, .ref 1)] from rfl]
  refine wa_aload_n F dL_demands_0 (i := 3) rfl 3 rfl ?_
  refine wa_iconst (v := 0) F dL_demands_1 (by decide) ?_
  refine wa_aload_n F dL_demands_2 (i := 0) rfl 0 rfl ?_
  refine wa_iload_n F dL_demands_3 (i := 1) rfl 1 rfl ?_
  refine wa_iload_n F dL_demands_4 (i := 2) rfl 2 rfl ?_
  refine wa_callV F [.int 0, .ref 1] (c_X5_demands hst D TC H0 ad X S o v q n hi) mw_X5_demands ml_L_94 (hm_c (TC := TC) (X := X) (S := S) (o := o)) rfl rfl (Nat.le_of_ble_eq_true rfl) ⟨(Nat.le_of_ble_eq_true rfl), (Nat.le_of_ble_eq_true rfl)⟩ ⟨(Nat.le_of_ble_eq_true rfl), (Nat.le_of_ble_eq_true rfl)⟩ dL_demands_5 (fun v a2 h2 z => PR_ag v a2 h2 z.2) ?_ ?_
  · intro E hE
    rcases hE with ⟨rfl, ek⟩
    · skip
      refine wx_catch F (tableOf []) { startPc := 0, endPc := 10, handlerPc := 13, catchType := 21 } (tableOf []) rfl (fun z hz => absurd hz List.not_mem_nil) (by decide) (by decide) cl_L_21 ca_IO 13 rfl ?_
      refine wa_drop F dL_demands_13 (by decide) (lv' := [(0, .ref 0), (1, .int v), (2, .int (bI q)), (3, .ref 1)]) rfl ?_
      refine wa_iconst (v := 1) F dL_demands_15 (by decide) ?_
      refine wa_iret F rfl (Nat.le_of_ble_eq_true rfl) (Nat.le_of_ble_eq_true rfl) dL_demands_16 ?_
      exact ⟨by rw [ek], fun _ _ => rfl, by rw [ek, kU_n (by decide), kO_n (by decide)]⟩
  · rintro _ _ _ ⟨ek, rfl, rfl, rfl⟩
    refine wa_i2l F dL_demands_8 rfl ?_
    refine wa_last F 1 rfl (hm_o (TC := TC) (X := X) (S := S) (o := o)) 0 rfl (by decide) (by decide) dL_demands_9 (hs_o ((rDm X v q).toInt64)) ?_
    refine wa_goto (tgt := 17) F dL_demands_10 (by decide) ?_
    refine wa_iconst (v := 0) F dL_demands_17 (by decide) ?_
    refine wa_iret F rfl (Nat.le_of_ble_eq_true rfl) (Nat.le_of_ble_eq_true rfl) dL_demands_18 ?_
    exact ⟨by rw [ek], fun _ _ => rfl, by rw [ek, kU_0, kO_0]⟩
set_option maxHeartbeats 2000000 in
set_option maxRecDepth 20000 in
theorem c_L_riskOf {l : Launch} (hst : l.stackTraces = false) (D : va_G) (TC : Nat → ClassId) (H0 : Heap) (ad : Nat → Nat) (X S : St) (o : Nat → Int64) (v : Int32) (z : Int32) (q : Bool) (n : Nat) (hi : INV n X) : CCH l D (tysOf TC) H0 yL_riskOf cL_riskOf 6 (some .int) [(0, 12, 15, 21)] 8 1 6 [.ref 0, .int v, .int z, .int (bI q), .ref 1] ad (hall TC X S o) (PN ad (hall TC X S o) (some (.int (kRO X v z))) (hall TC (kU (kRO X v z) (fun Y => Y) X) S (kO (kRO X v z) (rRO X v z q) o))) (fun _ => False) := by
  refine cc_introH hst (by decide +kernel) (Nat.le_of_ble_eq_true rfl) ?_
  intro p e s m args below meth c F
  rw [show lv_args 0 [.ref 0, .int v, .int z, .int (bI q), .ref 1] = [(0, .ref 0), (1, .int v), (2, .int z), (3, .int (bI q)), (4, .ref 1)] from rfl]
  refine wa_aload F dL_riskOf_0 4 rfl ?_
  refine wa_iconst (v := 0) F dL_riskOf_2 (by decide) ?_
  refine wa_aload_n F dL_riskOf_3 (i := 0) rfl 0 rfl ?_
  refine wa_iload_n F dL_riskOf_4 (i := 1) rfl 1 rfl ?_
  refine wa_iload_n F dL_riskOf_5 (i := 2) rfl 2 rfl ?_
  refine wa_iload_n F dL_riskOf_6 (i := 3) rfl 3 rfl ?_
  refine wa_callV F [.int 0, .ref 1] (c_X5_riskOf hst D TC H0 ad X S o v z q n hi) mw_X5_riskOf ml_L_107 (hm_c (TC := TC) (X := X) (S := S) (o := o)) rfl rfl (Nat.le_of_ble_eq_true rfl) ⟨(Nat.le_of_ble_eq_true rfl), (Nat.le_of_ble_eq_true rfl)⟩ ⟨(Nat.le_of_ble_eq_true rfl), (Nat.le_of_ble_eq_true rfl)⟩ dL_riskOf_7 (fun v a2 h2 z => PR_ag v a2 h2 z.2) ?_ ?_
  · intro E hE
    rcases hE with ⟨rfl, ek⟩
    · skip
      refine wx_catch F (tableOf []) { startPc := 0, endPc := 12, handlerPc := 15, catchType := 21 } (tableOf []) rfl (fun z hz => absurd hz List.not_mem_nil) (by decide) (by decide) cl_L_21 ca_IO 15 rfl ?_
      refine wa_drop F dL_riskOf_15 (by decide) (lv' := [(0, .ref 0), (1, .int v), (2, .int z), (3, .int (bI q)), (4, .ref 1)]) rfl ?_
      refine wa_iconst (v := 1) F dL_riskOf_17 (by decide) ?_
      refine wa_iret F rfl (Nat.le_of_ble_eq_true rfl) (Nat.le_of_ble_eq_true rfl) dL_riskOf_18 ?_
      exact ⟨by rw [ek], fun _ _ => rfl, by rw [ek, kU_n (by decide), kO_n (by decide)]⟩
  · rintro _ _ _ ⟨ek, rfl, rfl, rfl⟩
    refine wa_i2l F dL_riskOf_10 rfl ?_
    refine wa_last F 1 rfl (hm_o (TC := TC) (X := X) (S := S) (o := o)) 0 rfl (by decide) (by decide) dL_riskOf_11 (hs_o ((rRO X v z q).toInt64)) ?_
    refine wa_goto (tgt := 19) F dL_riskOf_12 (by decide) ?_
    refine wa_iconst (v := 0) F dL_riskOf_19 (by decide) ?_
    refine wa_iret F rfl (Nat.le_of_ble_eq_true rfl) (Nat.le_of_ble_eq_true rfl) dL_riskOf_20 ?_
    exact ⟨by rw [ek], fun _ _ => rfl, by rw [ek, kU_0, kO_0]⟩
set_option maxHeartbeats 2000000 in
set_option maxRecDepth 20000 in
theorem c_L_change {l : Launch} (hst : l.stackTraces = false) (D : va_G) (TC : Nat → ClassId) (H0 : Heap) (ad : Nat → Nat) (X S : St) (o : Nat → Int64) (v : Int32) (b : Int32) (n : Nat) (hi : INV n X) : CCH l D (tysOf TC) H0 yL_change cL_change 5 (some .int) [(0, 10, 13, 21), (0, 10, 17, 13)] 8 1 6 [.ref 0, .int v, .int b, .ref 1] ad (hall TC X S o) (PN ad (hall TC X S o) (some (.int (kCh X v b))) (hall TC (kU (kCh X v b) (uCh v b) X) S (kO (kCh X v b) (rCh X v b) o))) (fun _ => False) := by
  refine cc_introH hst (by decide +kernel) (Nat.le_of_ble_eq_true rfl) ?_
  intro p e s m args below meth c F
  rw [show lv_args 0 [.ref 0, .int v, .int b, .ref 1] = [(0, .ref 0), (1, .int v), (2, .int b), (3, .ref 1)] from rfl]
  refine wa_aload_n F dL_change_0 (i := 3) rfl 3 rfl ?_
  refine wa_iconst (v := 0) F dL_change_1 (by decide) ?_
  refine wa_aload_n F dL_change_2 (i := 0) rfl 0 rfl ?_
  refine wa_iload_n F dL_change_3 (i := 1) rfl 1 rfl ?_
  refine wa_iload_n F dL_change_4 (i := 2) rfl 2 rfl ?_
  refine wa_callV F [.int 0, .ref 1] (c_X5_change hst D TC H0 ad X S o v b n hi) mw_X5_change ml_L_37 (hm_c (TC := TC) (X := X) (S := S) (o := o)) rfl rfl (Nat.le_of_ble_eq_true rfl) ⟨(Nat.le_of_ble_eq_true rfl), (Nat.le_of_ble_eq_true rfl)⟩ ⟨(Nat.le_of_ble_eq_true rfl), (Nat.le_of_ble_eq_true rfl)⟩ dL_change_5 (fun v a2 h2 z => PR_ag v a2 h2 z.2) ?_ ?_
  · intro E hE
    rcases hE with ⟨rfl, ek⟩ | ⟨rfl, ek⟩
    · skip
      refine wx_catch F (tableOf []) { startPc := 0, endPc := 10, handlerPc := 13, catchType := 21 } (tableOf [(0, 10, 17, 13)]) rfl (fun z hz => absurd hz List.not_mem_nil) (by decide) (by decide) cl_L_21 ca_IO 13 rfl ?_
      refine wa_drop F dL_change_13 (by decide) (lv' := [(0, .ref 0), (1, .int v), (2, .int b), (3, .ref 1)]) rfl ?_
      refine wa_iconst (v := 1) F dL_change_15 (by decide) ?_
      refine wa_iret F rfl (Nat.le_of_ble_eq_true rfl) (Nat.le_of_ble_eq_true rfl) dL_change_16 ?_
      exact ⟨by rw [ek], fun _ _ => rfl, by rw [ek, kU_n (by decide), kO_n (by decide)]⟩
    · skip
      refine wx_catch F (tableOf [(0, 10, 13, 21)]) { startPc := 0, endPc := 10, handlerPc := 17, catchType := 13 } (tableOf []) rfl (by intro z hz; simp only [tableOf, List.map_cons, List.map_nil, List.mem_cons, List.not_mem_nil, or_false] at hz; rcases hz with rfl; exact ⟨by decide, _, cl_L_21, by decide, by decide, by decide⟩) (by decide) (by decide) cl_L_13 ca_IA 17 rfl ?_
      refine wa_drop F dL_change_17 (by decide) (lv' := [(0, .ref 0), (1, .int v), (2, .int b), (3, .ref 1)]) rfl ?_
      refine wa_iconst (v := 2) F dL_change_19 (by decide) ?_
      refine wa_iret F rfl (Nat.le_of_ble_eq_true rfl) (Nat.le_of_ble_eq_true rfl) dL_change_20 ?_
      exact ⟨by rw [ek], fun _ _ => rfl, by rw [ek, kU_n (by decide), kO_n (by decide)]⟩
  · rintro _ _ _ ⟨ek, rfl, rfl, rfl⟩
    refine wa_i2l F dL_change_8 rfl ?_
    refine wa_last F 1 rfl (hm_o (TC := TC) (X := (uCh v b X)) (S := S) (o := o)) 0 rfl (by decide) (by decide) dL_change_9 (hs_o ((rCh X v b).toInt64)) ?_
    refine wa_goto (tgt := 21) F dL_change_10 (by decide) ?_
    refine wa_iconst (v := 0) F dL_change_21 (by decide) ?_
    refine wa_iret F rfl (Nat.le_of_ble_eq_true rfl) (Nat.le_of_ble_eq_true rfl) dL_change_22 ?_
    exact ⟨by rw [ek], fun _ _ => rfl, by rw [ek, kU_0, kO_0]⟩
set_option maxHeartbeats 2000000 in
set_option maxRecDepth 20000 in
theorem c_L_risk {l : Launch} (hst : l.stackTraces = false) (D : va_G) (TC : Nat → ClassId) (H0 : Heap) (ad : Nat → Nat) (X S : St) (o : Nat → Int64) (v : Int32) (z : Int32) (q : Int32) (d : Int32) (n : Nat) (hi : INV n X) : CCH l D (tysOf TC) H0 yL_risk cL_risk 7 (some .int) [(0, 14, 17, 21), (0, 14, 21, 13)] 8 1 6 [.ref 0, .int v, .int z, .int q, .int d, .ref 1] ad (hall TC X S o) (PN ad (hall TC X S o) (some (.int (kRk X v z q d))) (hall TC (kU (kRk X v z q d) (uRk v z q d) X) S (kO (kRk X v z q d) (rRk X v z q d) o))) (fun _ => False) := by
  refine cc_introH hst (by decide +kernel) (Nat.le_of_ble_eq_true rfl) ?_
  intro p e s m args below meth c F
  rw [show lv_args 0 [.ref 0, .int v, .int z, .int q, .int d, .ref 1] = [(0, .ref 0), (1, .int v), (2, .int z), (3, .int q), (4, .int d), (5, .ref 1)] from rfl]
  refine wa_aload F dL_risk_0 5 rfl ?_
  refine wa_iconst (v := 0) F dL_risk_2 (by decide) ?_
  refine wa_aload_n F dL_risk_3 (i := 0) rfl 0 rfl ?_
  refine wa_iload_n F dL_risk_4 (i := 1) rfl 1 rfl ?_
  refine wa_iload_n F dL_risk_5 (i := 2) rfl 2 rfl ?_
  refine wa_iload_n F dL_risk_6 (i := 3) rfl 3 rfl ?_
  refine wa_iload F dL_risk_7 4 rfl ?_
  refine wa_callV F [.int 0, .ref 1] (c_X5_risk hst D TC H0 ad X S o v z q d n hi) mw_X5_risk ml_L_40 (hm_c (TC := TC) (X := X) (S := S) (o := o)) rfl rfl (Nat.le_of_ble_eq_true rfl) ⟨(Nat.le_of_ble_eq_true rfl), (Nat.le_of_ble_eq_true rfl)⟩ ⟨(Nat.le_of_ble_eq_true rfl), (Nat.le_of_ble_eq_true rfl)⟩ dL_risk_9 (fun v a2 h2 z => PR_ag v a2 h2 z.2) ?_ ?_
  · intro E hE
    rcases hE with ⟨rfl, ek⟩ | ⟨rfl, ek⟩
    · skip
      refine wx_catch F (tableOf []) { startPc := 0, endPc := 14, handlerPc := 17, catchType := 21 } (tableOf [(0, 14, 21, 13)]) rfl (fun z hz => absurd hz List.not_mem_nil) (by decide) (by decide) cl_L_21 ca_IO 17 rfl ?_
      refine wa_drop F dL_risk_17 (by decide) (lv' := [(0, .ref 0), (1, .int v), (2, .int z), (3, .int q), (4, .int d), (5, .ref 1)]) rfl ?_
      refine wa_iconst (v := 1) F dL_risk_19 (by decide) ?_
      refine wa_iret F rfl (Nat.le_of_ble_eq_true rfl) (Nat.le_of_ble_eq_true rfl) dL_risk_20 ?_
      exact ⟨by rw [ek], fun _ _ => rfl, by rw [ek, kU_n (by decide), kO_n (by decide)]⟩
    · skip
      refine wx_catch F (tableOf [(0, 14, 17, 21)]) { startPc := 0, endPc := 14, handlerPc := 21, catchType := 13 } (tableOf []) rfl (by intro z hz; simp only [tableOf, List.map_cons, List.map_nil, List.mem_cons, List.not_mem_nil, or_false] at hz; rcases hz with rfl; exact ⟨by decide, _, cl_L_21, by decide, by decide, by decide⟩) (by decide) (by decide) cl_L_13 ca_IA 21 rfl ?_
      refine wa_drop F dL_risk_21 (by decide) (lv' := [(0, .ref 0), (1, .int v), (2, .int z), (3, .int q), (4, .int d), (5, .ref 1)]) rfl ?_
      refine wa_iconst (v := 2) F dL_risk_23 (by decide) ?_
      refine wa_iret F rfl (Nat.le_of_ble_eq_true rfl) (Nat.le_of_ble_eq_true rfl) dL_risk_24 ?_
      exact ⟨by rw [ek], fun _ _ => rfl, by rw [ek, kU_n (by decide), kO_n (by decide)]⟩
  · rintro _ _ _ ⟨ek, rfl, rfl, rfl⟩
    refine wa_i2l F dL_risk_12 rfl ?_
    refine wa_last F 1 rfl (hm_o (TC := TC) (X := (uRk v z q d X)) (S := S) (o := o)) 0 rfl (by decide) (by decide) dL_risk_13 (hs_o ((rRk X v z q d).toInt64)) ?_
    refine wa_goto (tgt := 25) F dL_risk_14 (by decide) ?_
    refine wa_iconst (v := 0) F dL_risk_25 (by decide) ?_
    refine wa_iret F rfl (Nat.le_of_ble_eq_true rfl) (Nat.le_of_ble_eq_true rfl) dL_risk_26 ?_
    exact ⟨by rw [ek], fun _ _ => rfl, by rw [ek, kU_0, kO_0]⟩
set_option maxHeartbeats 2000000 in
set_option maxRecDepth 20000 in
theorem c_L_declare {l : Launch} (hst : l.stackTraces = false) (D : va_G) (TC : Nat → ClassId) (H0 : Heap) (ad : Nat → Nat) (X S : St) (o : Nat → Int64) (v : Int32) (n : Nat) (hi : INV n X) : CCH l D (tysOf TC) H0 yL_declare cL_declare 4 (some .int) [(0, 9, 12, 21), (0, 9, 15, 15)] 8 1 6 [.ref 0, .int v, .ref 1] ad (hall TC X S o) (PN ad (hall TC X S o) (some (.int (kDc X v))) (hall TC (kU (kDc X v) (uDc v) X) S (kO (kDc X v) (rDc X) o))) (fun _ => False) := by
  refine cc_introH hst (by decide +kernel) (Nat.le_of_ble_eq_true rfl) ?_
  intro p e s m args below meth c F
  rw [show lv_args 0 [.ref 0, .int v, .ref 1] = [(0, .ref 0), (1, .int v), (2, .ref 1)] from rfl]
  refine wa_aload_n F dL_declare_0 (i := 2) rfl 2 rfl ?_
  refine wa_iconst (v := 0) F dL_declare_1 (by decide) ?_
  refine wa_aload_n F dL_declare_2 (i := 0) rfl 0 rfl ?_
  refine wa_iload_n F dL_declare_3 (i := 1) rfl 1 rfl ?_
  refine wa_callV F [.int 0, .ref 1] (c_X5_declare hst D TC H0 ad X S o v n hi) mw_X5_declare ml_L_50 (hm_c (TC := TC) (X := X) (S := S) (o := o)) rfl rfl (Nat.le_of_ble_eq_true rfl) ⟨(Nat.le_of_ble_eq_true rfl), (Nat.le_of_ble_eq_true rfl)⟩ ⟨(Nat.le_of_ble_eq_true rfl), (Nat.le_of_ble_eq_true rfl)⟩ dL_declare_4 (fun v a2 h2 z => PR_ag v a2 h2 z.2) ?_ ?_
  · intro E hE
    rcases hE with ⟨rfl, ek⟩ | ⟨rfl, ek⟩
    · skip
      refine wx_catch F (tableOf []) { startPc := 0, endPc := 9, handlerPc := 12, catchType := 21 } (tableOf [(0, 9, 15, 15)]) rfl (fun z hz => absurd hz List.not_mem_nil) (by decide) (by decide) cl_L_21 ca_IO 12 rfl ?_
      refine wa_drop_n F dL_declare_12 (i := 3) rfl (by decide) (lv' := [(0, .ref 0), (1, .int v), (2, .ref 1)]) rfl ?_
      refine wa_iconst (v := 1) F dL_declare_13 (by decide) ?_
      refine wa_iret F rfl (Nat.le_of_ble_eq_true rfl) (Nat.le_of_ble_eq_true rfl) dL_declare_14 ?_
      exact ⟨by rw [ek], fun _ _ => rfl, by rw [ek, kU_n (by decide), kO_n (by decide)]⟩
    · skip
      refine wx_catch F (tableOf [(0, 9, 12, 21)]) { startPc := 0, endPc := 9, handlerPc := 15, catchType := 15 } (tableOf []) rfl (by intro z hz; simp only [tableOf, List.map_cons, List.map_nil, List.mem_cons, List.not_mem_nil, or_false] at hz; rcases hz with rfl; exact ⟨by decide, _, cl_L_21, by decide, by decide, by decide⟩) (by decide) (by decide) cl_L_15 ca_IS 15 rfl ?_
      refine wa_drop_n F dL_declare_15 (i := 3) rfl (by decide) (lv' := [(0, .ref 0), (1, .int v), (2, .ref 1)]) rfl ?_
      refine wa_iconst (v := 2) F dL_declare_16 (by decide) ?_
      refine wa_iret F rfl (Nat.le_of_ble_eq_true rfl) (Nat.le_of_ble_eq_true rfl) dL_declare_17 ?_
      exact ⟨by rw [ek], fun _ _ => rfl, by rw [ek, kU_n (by decide), kO_n (by decide)]⟩
  · rintro _ _ _ ⟨ek, rfl, rfl, rfl⟩
    refine wa_i2l F dL_declare_7 rfl ?_
    refine wa_last F 1 rfl (hm_o (TC := TC) (X := (uDc v X)) (S := S) (o := o)) 0 rfl (by decide) (by decide) dL_declare_8 (hs_o ((rDc X).toInt64)) ?_
    refine wa_goto (tgt := 18) F dL_declare_9 (by decide) ?_
    refine wa_iconst (v := 0) F dL_declare_18 (by decide) ?_
    refine wa_iret F rfl (Nat.le_of_ble_eq_true rfl) (Nat.le_of_ble_eq_true rfl) dL_declare_19 ?_
    exact ⟨by rw [ek], fun _ _ => rfl, by rw [ek, kU_0, kO_0]⟩
set_option maxHeartbeats 2000000 in
set_option maxRecDepth 20000 in
theorem c_L_suspend {l : Launch} (hst : l.stackTraces = false) (D : va_G) (TC : Nat → ClassId) (H0 : Heap) (ad : Nat → Nat) (X S : St) (o : Nat → Int64) (v : Int32) (q : Bool) (n : Nat) (hi : INV n X) : CCH l D (tysOf TC) H0 yL_suspend cL_suspend 5 (some .int) [(0, 17, 20, 21)] 8 1 6 [.ref 0, .int v, .int (bI q), .ref 1] ad (hall TC X S o) (PN ad (hall TC X S o) (some (.int (kSu X v))) (hall TC (kU (kSu X v) (uSu v q) X) S (kO (kSu X v) (rSu X v) o))) (fun _ => False) := by
  refine cc_introH hst (by decide +kernel) (Nat.le_of_ble_eq_true rfl) ?_
  intro p e s m args below meth c F
  rw [show lv_args 0 [.ref 0, .int v, .int (bI q), .ref 1] = [(0, .ref 0), (1, .int v), (2, .int (bI q)), (3, .ref 1)] from rfl]
  refine wa_aload_n F dL_suspend_0 (i := 3) rfl 3 rfl ?_
  refine wa_iconst (v := 0) F dL_suspend_1 (by decide) ?_
  refine wa_aload_n F dL_suspend_2 (i := 0) rfl 0 rfl ?_
  refine wa_iload_n F dL_suspend_3 (i := 1) rfl 1 rfl ?_
  refine wa_iload_n F dL_suspend_4 (i := 2) rfl 2 rfl ?_
  refine wa_callV F [.int 0, .ref 1] (c_X5_suspend hst D TC H0 ad X S o v q n hi) mw_X5_suspend ml_L_56 (hm_c (TC := TC) (X := X) (S := S) (o := o)) rfl rfl (Nat.le_of_ble_eq_true rfl) ⟨(Nat.le_of_ble_eq_true rfl), (Nat.le_of_ble_eq_true rfl)⟩ ⟨(Nat.le_of_ble_eq_true rfl), (Nat.le_of_ble_eq_true rfl)⟩ dL_suspend_5 (fun v a2 h2 z => PR_ag v a2 h2 z.2) ?_ ?_
  · intro E hE
    rcases hE with ⟨rfl, ek⟩
    · skip
      refine wx_catch F (tableOf []) { startPc := 0, endPc := 17, handlerPc := 20, catchType := 21 } (tableOf []) rfl (fun z hz => absurd hz List.not_mem_nil) (by decide) (by decide) cl_L_21 ca_IO 20 rfl ?_
      refine wa_drop F dL_suspend_20 (by decide) (lv' := [(0, .ref 0), (1, .int v), (2, .int (bI q)), (3, .ref 1)]) rfl ?_
      refine wa_iconst (v := 1) F dL_suspend_22 (by decide) ?_
      refine wa_iret F rfl (Nat.le_of_ble_eq_true rfl) (Nat.le_of_ble_eq_true rfl) dL_suspend_23 ?_
      exact ⟨by rw [ek], fun _ _ => rfl, by rw [ek, kU_n (by decide), kO_n (by decide)]⟩
  · rintro _ _ _ ⟨ek, rfl, rfl, rfl⟩
    refine wa_if_eq (tgt := 15) F dL_suspend_8 (by decide) (fun c8 => ?_) (fun c8 => ?_)
    · skip
      refine wa_lconst (v := 0) F dL_suspend_15 (by decide) ?_
      refine wa_last F 1 rfl (hm_o (TC := TC) (X := (uSu v q X)) (S := S) (o := o)) 0 rfl (by decide) (by decide) dL_suspend_16 (hs_o 0) ?_
      refine wa_goto (tgt := 24) F dL_suspend_17 (by decide) ?_
      refine wa_iconst (v := 0) F dL_suspend_24 (by decide) ?_
      refine wa_iret F rfl (Nat.le_of_ble_eq_true rfl) (Nat.le_of_ble_eq_true rfl) dL_suspend_25 ?_
      exact ⟨by rw [ek], fun _ _ => rfl, by rw [ek, kU_0, kO_0, b64f c8]⟩
    · skip
      refine wa_lconst (v := 1) F dL_suspend_11 (by decide) ?_
      refine wa_goto (tgt := 16) F dL_suspend_12 (by decide) ?_
      refine wa_last F 1 rfl (hm_o (TC := TC) (X := (uSu v q X)) (S := S) (o := o)) 0 rfl (by decide) (by decide) dL_suspend_16 (hs_o 1) ?_
      refine wa_goto (tgt := 24) F dL_suspend_17 (by decide) ?_
      refine wa_iconst (v := 0) F dL_suspend_24 (by decide) ?_
      refine wa_iret F rfl (Nat.le_of_ble_eq_true rfl) (Nat.le_of_ble_eq_true rfl) dL_suspend_25 ?_
      exact ⟨by rw [ek], fun _ _ => rfl, by rw [ek, kU_0, kO_0, b64t (r := rSu X v) rfl c8]⟩
set_option maxHeartbeats 2000000 in
set_option maxRecDepth 20000 in
theorem c_L_sample {l : Launch} (hst : l.stackTraces = false) (D : va_G) (TC : Nat → ClassId) (H0 : Heap) (ad : Nat → Nat) (X S : St) (o : Nat → Int64) (v : Int32) (b : Int32) (t : Int32) (d : Int32) (n : Nat) (hi : INV n X) : CCH l D (tysOf TC) H0 yL_sample cL_sample 7 (some .int) [(0, 14, 17, 21), (0, 14, 21, 13)] 8 1 6 [.ref 0, .int v, .int b, .int t, .int d, .ref 1] ad (hall TC X S o) (PN ad (hall TC X S o) (some (.int (kSa X v b t d))) (hall TC (kU (kSa X v b t d) (uSa v b t d) X) S (kO (kSa X v b t d) (rSa b t d) o))) (fun _ => False) := by
  refine cc_introH hst (by decide +kernel) (Nat.le_of_ble_eq_true rfl) ?_
  intro p e s m args below meth c F
  rw [show lv_args 0 [.ref 0, .int v, .int b, .int t, .int d, .ref 1] = [(0, .ref 0), (1, .int v), (2, .int b), (3, .int t), (4, .int d), (5, .ref 1)] from rfl]
  refine wa_aload F dL_sample_0 5 rfl ?_
  refine wa_iconst (v := 0) F dL_sample_2 (by decide) ?_
  refine wa_aload_n F dL_sample_3 (i := 0) rfl 0 rfl ?_
  refine wa_iload_n F dL_sample_4 (i := 1) rfl 1 rfl ?_
  refine wa_iload_n F dL_sample_5 (i := 2) rfl 2 rfl ?_
  refine wa_iload_n F dL_sample_6 (i := 3) rfl 3 rfl ?_
  refine wa_iload F dL_sample_7 4 rfl ?_
  refine wa_callV F [.int 0, .ref 1] (c_X5_sample hst D TC H0 ad X S o v b t d n hi) mw_X5_sample ml_L_75 (hm_c (TC := TC) (X := X) (S := S) (o := o)) rfl rfl (Nat.le_of_ble_eq_true rfl) ⟨(Nat.le_of_ble_eq_true rfl), (Nat.le_of_ble_eq_true rfl)⟩ ⟨(Nat.le_of_ble_eq_true rfl), (Nat.le_of_ble_eq_true rfl)⟩ dL_sample_9 (fun v a2 h2 z => PR_ag v a2 h2 z.2) ?_ ?_
  · intro E hE
    rcases hE with ⟨rfl, ek⟩ | ⟨rfl, ek⟩
    · skip
      refine wx_catch F (tableOf []) { startPc := 0, endPc := 14, handlerPc := 17, catchType := 21 } (tableOf [(0, 14, 21, 13)]) rfl (fun z hz => absurd hz List.not_mem_nil) (by decide) (by decide) cl_L_21 ca_IO 17 rfl ?_
      refine wa_drop F dL_sample_17 (by decide) (lv' := [(0, .ref 0), (1, .int v), (2, .int b), (3, .int t), (4, .int d), (5, .ref 1)]) rfl ?_
      refine wa_iconst (v := 1) F dL_sample_19 (by decide) ?_
      refine wa_iret F rfl (Nat.le_of_ble_eq_true rfl) (Nat.le_of_ble_eq_true rfl) dL_sample_20 ?_
      exact ⟨by rw [ek], fun _ _ => rfl, by rw [ek, kU_n (by decide), kO_n (by decide)]⟩
    · skip
      refine wx_catch F (tableOf [(0, 14, 17, 21)]) { startPc := 0, endPc := 14, handlerPc := 21, catchType := 13 } (tableOf []) rfl (by intro z hz; simp only [tableOf, List.map_cons, List.map_nil, List.mem_cons, List.not_mem_nil, or_false] at hz; rcases hz with rfl; exact ⟨by decide, _, cl_L_21, by decide, by decide, by decide⟩) (by decide) (by decide) cl_L_13 ca_IA 21 rfl ?_
      refine wa_drop F dL_sample_21 (by decide) (lv' := [(0, .ref 0), (1, .int v), (2, .int b), (3, .int t), (4, .int d), (5, .ref 1)]) rfl ?_
      refine wa_iconst (v := 2) F dL_sample_23 (by decide) ?_
      refine wa_iret F rfl (Nat.le_of_ble_eq_true rfl) (Nat.le_of_ble_eq_true rfl) dL_sample_24 ?_
      exact ⟨by rw [ek], fun _ _ => rfl, by rw [ek, kU_n (by decide), kO_n (by decide)]⟩
  · rintro _ _ _ ⟨ek, rfl, rfl, rfl⟩
    refine wa_i2l F dL_sample_12 rfl ?_
    refine wa_last F 1 rfl (hm_o (TC := TC) (X := (uSa v b t d X)) (S := S) (o := o)) 0 rfl (by decide) (by decide) dL_sample_13 (hs_o ((rSa b t d).toInt64)) ?_
    refine wa_goto (tgt := 25) F dL_sample_14 (by decide) ?_
    refine wa_iconst (v := 0) F dL_sample_25 (by decide) ?_
    refine wa_iret F rfl (Nat.le_of_ble_eq_true rfl) (Nat.le_of_ble_eq_true rfl) dL_sample_26 ?_
    exact ⟨by rw [ek], fun _ _ => rfl, by rw [ek, kU_0, kO_0]⟩
set_option maxHeartbeats 2000000 in
set_option maxRecDepth 20000 in
theorem c_L_visit {l : Launch} (hst : l.stackTraces = false) (D : va_G) (TC : Nat → ClassId) (H0 : Heap) (ad : Nat → Nat) (X S : St) (o : Nat → Int64) (v : Int32) (q : Bool) (n : Nat) (hi : INV n X) : CCH l D (tysOf TC) H0 yL_visit cL_visit 5 (some .int) [(0, 17, 20, 21)] 8 1 6 [.ref 0, .int v, .int (bI q), .ref 1] ad (hall TC X S o) (PN ad (hall TC X S o) (some (.int (kVi X v))) (hall TC (kU (kVi X v) (uVi v q) X) S (kO (kVi X v) (rVi X v q) o))) (fun _ => False) := by
  refine cc_introH hst (by decide +kernel) (Nat.le_of_ble_eq_true rfl) ?_
  intro p e s m args below meth c F
  rw [show lv_args 0 [.ref 0, .int v, .int (bI q), .ref 1] = [(0, .ref 0), (1, .int v), (2, .int (bI q)), (3, .ref 1)] from rfl]
  refine wa_aload_n F dL_visit_0 (i := 3) rfl 3 rfl ?_
  refine wa_iconst (v := 0) F dL_visit_1 (by decide) ?_
  refine wa_aload_n F dL_visit_2 (i := 0) rfl 0 rfl ?_
  refine wa_iload_n F dL_visit_3 (i := 1) rfl 1 rfl ?_
  refine wa_iload_n F dL_visit_4 (i := 2) rfl 2 rfl ?_
  refine wa_callV F [.int 0, .ref 1] (c_X5_visit hst D TC H0 ad X S o v q n hi) mw_X5_visit ml_L_66 (hm_c (TC := TC) (X := X) (S := S) (o := o)) rfl rfl (Nat.le_of_ble_eq_true rfl) ⟨(Nat.le_of_ble_eq_true rfl), (Nat.le_of_ble_eq_true rfl)⟩ ⟨(Nat.le_of_ble_eq_true rfl), (Nat.le_of_ble_eq_true rfl)⟩ dL_visit_5 (fun v a2 h2 z => PR_ag v a2 h2 z.2) ?_ ?_
  · intro E hE
    rcases hE with ⟨rfl, ek⟩
    · skip
      refine wx_catch F (tableOf []) { startPc := 0, endPc := 17, handlerPc := 20, catchType := 21 } (tableOf []) rfl (fun z hz => absurd hz List.not_mem_nil) (by decide) (by decide) cl_L_21 ca_IO 20 rfl ?_
      refine wa_drop F dL_visit_20 (by decide) (lv' := [(0, .ref 0), (1, .int v), (2, .int (bI q)), (3, .ref 1)]) rfl ?_
      refine wa_iconst (v := 1) F dL_visit_22 (by decide) ?_
      refine wa_iret F rfl (Nat.le_of_ble_eq_true rfl) (Nat.le_of_ble_eq_true rfl) dL_visit_23 ?_
      exact ⟨by rw [ek], fun _ _ => rfl, by rw [ek, kU_n (by decide), kO_n (by decide)]⟩
  · rintro _ _ _ ⟨ek, rfl, rfl, rfl⟩
    refine wa_if_eq (tgt := 15) F dL_visit_8 (by decide) (fun c8 => ?_) (fun c8 => ?_)
    · skip
      refine wa_lconst (v := 0) F dL_visit_15 (by decide) ?_
      refine wa_last F 1 rfl (hm_o (TC := TC) (X := (uVi v q X)) (S := S) (o := o)) 0 rfl (by decide) (by decide) dL_visit_16 (hs_o 0) ?_
      refine wa_goto (tgt := 24) F dL_visit_17 (by decide) ?_
      refine wa_iconst (v := 0) F dL_visit_24 (by decide) ?_
      refine wa_iret F rfl (Nat.le_of_ble_eq_true rfl) (Nat.le_of_ble_eq_true rfl) dL_visit_25 ?_
      exact ⟨by rw [ek], fun _ _ => rfl, by rw [ek, kU_0, kO_0, b64f c8]⟩
    · skip
      refine wa_lconst (v := 1) F dL_visit_11 (by decide) ?_
      refine wa_goto (tgt := 16) F dL_visit_12 (by decide) ?_
      refine wa_last F 1 rfl (hm_o (TC := TC) (X := (uVi v q X)) (S := S) (o := o)) 0 rfl (by decide) (by decide) dL_visit_16 (hs_o 1) ?_
      refine wa_goto (tgt := 24) F dL_visit_17 (by decide) ?_
      refine wa_iconst (v := 0) F dL_visit_24 (by decide) ?_
      refine wa_iret F rfl (Nat.le_of_ble_eq_true rfl) (Nat.le_of_ble_eq_true rfl) dL_visit_25 ?_
      exact ⟨by rw [ek], fun _ _ => rfl, by rw [ek, kU_0, kO_0, b64t (r := rVi X v q) rfl c8]⟩
set_option maxHeartbeats 2000000 in
set_option maxRecDepth 20000 in
theorem c_L_certify {l : Launch} (hst : l.stackTraces = false) (D : va_G) (TC : Nat → ClassId) (H0 : Heap) (ad : Nat → Nat) (X S : St) (o : Nat → Int64) (b : Int32) (v : Int32) (d : Int32) (n : Nat) (hi : INV n X) : CCH l D (tysOf TC) H0 yL_certify cL_certify 6 (some .int) [(0, 12, 15, 21), (0, 12, 19, 13), (0, 12, 23, 15)] 8 1 6 [.ref 0, .int b, .int v, .int d, .ref 1] ad (hall TC X S o) (PN ad (hall TC X S o) (some (.int (kCe X b v d))) (hall TC (kU (kCe X b v d) (uCe b v d) X) S (kO (kCe X b v d) (rCe X d) o))) (fun _ => False) := by
  refine cc_introH hst (by decide +kernel) (Nat.le_of_ble_eq_true rfl) ?_
  intro p e s m args below meth c F
  rw [show lv_args 0 [.ref 0, .int b, .int v, .int d, .ref 1] = [(0, .ref 0), (1, .int b), (2, .int v), (3, .int d), (4, .ref 1)] from rfl]
  refine wa_aload F dL_certify_0 4 rfl ?_
  refine wa_iconst (v := 0) F dL_certify_2 (by decide) ?_
  refine wa_aload_n F dL_certify_3 (i := 0) rfl 0 rfl ?_
  refine wa_iload_n F dL_certify_4 (i := 1) rfl 1 rfl ?_
  refine wa_iload_n F dL_certify_5 (i := 2) rfl 2 rfl ?_
  refine wa_iload_n F dL_certify_6 (i := 3) rfl 3 rfl ?_
  refine wa_callV F [.int 0, .ref 1] (c_X5_certify hst D TC H0 ad X S o b v d n hi) mw_X5_certify ml_L_60 (hm_c (TC := TC) (X := X) (S := S) (o := o)) rfl rfl (Nat.le_of_ble_eq_true rfl) ⟨(Nat.le_of_ble_eq_true rfl), (Nat.le_of_ble_eq_true rfl)⟩ ⟨(Nat.le_of_ble_eq_true rfl), (Nat.le_of_ble_eq_true rfl)⟩ dL_certify_7 (fun v a2 h2 z => PR_ag v a2 h2 z.2) ?_ ?_
  · intro E hE
    rcases hE with ⟨rfl, ek⟩ | ⟨rfl, ek⟩ | ⟨rfl, ek⟩
    · skip
      refine wx_catch F (tableOf []) { startPc := 0, endPc := 12, handlerPc := 15, catchType := 21 } (tableOf [(0, 12, 19, 13), (0, 12, 23, 15)]) rfl (fun z hz => absurd hz List.not_mem_nil) (by decide) (by decide) cl_L_21 ca_IO 15 rfl ?_
      refine wa_drop F dL_certify_15 (by decide) (lv' := [(0, .ref 0), (1, .int b), (2, .int v), (3, .int d), (4, .ref 1)]) rfl ?_
      refine wa_iconst (v := 1) F dL_certify_17 (by decide) ?_
      refine wa_iret F rfl (Nat.le_of_ble_eq_true rfl) (Nat.le_of_ble_eq_true rfl) dL_certify_18 ?_
      exact ⟨by rw [ek], fun _ _ => rfl, by rw [ek, kU_n (by decide), kO_n (by decide)]⟩
    · skip
      refine wx_catch F (tableOf [(0, 12, 15, 21)]) { startPc := 0, endPc := 12, handlerPc := 19, catchType := 13 } (tableOf [(0, 12, 23, 15)]) rfl (by intro z hz; simp only [tableOf, List.map_cons, List.map_nil, List.mem_cons, List.not_mem_nil, or_false] at hz; rcases hz with rfl; exact ⟨by decide, _, cl_L_21, by decide, by decide, by decide⟩) (by decide) (by decide) cl_L_13 ca_IA 19 rfl ?_
      refine wa_drop F dL_certify_19 (by decide) (lv' := [(0, .ref 0), (1, .int b), (2, .int v), (3, .int d), (4, .ref 1)]) rfl ?_
      refine wa_iconst (v := 2) F dL_certify_21 (by decide) ?_
      refine wa_iret F rfl (Nat.le_of_ble_eq_true rfl) (Nat.le_of_ble_eq_true rfl) dL_certify_22 ?_
      exact ⟨by rw [ek], fun _ _ => rfl, by rw [ek, kU_n (by decide), kO_n (by decide)]⟩
    · skip
      refine wx_catch F (tableOf [(0, 12, 15, 21), (0, 12, 19, 13)]) { startPc := 0, endPc := 12, handlerPc := 23, catchType := 15 } (tableOf []) rfl (by intro z hz; simp only [tableOf, List.map_cons, List.map_nil, List.mem_cons, List.not_mem_nil, or_false] at hz; rcases hz with rfl | rfl <;> first | exact ⟨by decide, _, cl_L_21, by decide, by decide, by decide⟩ | exact ⟨by decide, _, cl_L_13, by decide, by decide, by decide⟩) (by decide) (by decide) cl_L_15 ca_IS 23 rfl ?_
      refine wa_drop F dL_certify_23 (by decide) (lv' := [(0, .ref 0), (1, .int b), (2, .int v), (3, .int d), (4, .ref 1)]) rfl ?_
      refine wa_iconst (v := 3) F dL_certify_25 (by decide) ?_
      refine wa_iret F rfl (Nat.le_of_ble_eq_true rfl) (Nat.le_of_ble_eq_true rfl) dL_certify_26 ?_
      exact ⟨by rw [ek], fun _ _ => rfl, by rw [ek, kU_n (by decide), kO_n (by decide)]⟩
  · rintro _ _ _ ⟨ek, rfl, rfl, rfl⟩
    refine wa_i2l F dL_certify_10 rfl ?_
    refine wa_last F 1 rfl (hm_o (TC := TC) (X := (uCe b v d X)) (S := S) (o := o)) 0 rfl (by decide) (by decide) dL_certify_11 (hs_o ((rCe X d).toInt64)) ?_
    refine wa_goto (tgt := 27) F dL_certify_12 (by decide) ?_
    refine wa_iconst (v := 0) F dL_certify_27 (by decide) ?_
    refine wa_iret F rfl (Nat.le_of_ble_eq_true rfl) (Nat.le_of_ble_eq_true rfl) dL_certify_28 ?_
    exact ⟨by rw [ek], fun _ _ => rfl, by rw [ek, kU_0, kO_0]⟩
set_option maxHeartbeats 2000000 in
set_option maxRecDepth 20000 in
theorem c_L_applies {l : Launch} (hst : l.stackTraces = false) (D : va_G) (TC : Nat → ClassId) (H0 : Heap) (ad : Nat → Nat) (X S : St) (o : Nat → Int64) (a : Int32) (v : Int32) (n : Nat) (hi : INV n X) : CCH l D (tysOf TC) H0 yL_applies cL_applies 5 (some .int) [(0, 17, 20, 21)] 8 1 6 [.ref 0, .int a, .int v, .ref 1] ad (hall TC X S o) (PN ad (hall TC X S o) (some (.int (kAp X a v))) (hall TC (kU (kAp X a v) (fun Y => Y) X) S (kO (kAp X a v) (rAp X a v) o))) (fun _ => False) := by
  refine cc_introH hst (by decide +kernel) (Nat.le_of_ble_eq_true rfl) ?_
  intro p e s m args below meth c F
  rw [show lv_args 0 [.ref 0, .int a, .int v, .ref 1] = [(0, .ref 0), (1, .int a), (2, .int v), (3, .ref 1)] from rfl]
  refine wa_aload_n F dL_applies_0 (i := 3) rfl 3 rfl ?_
  refine wa_iconst (v := 0) F dL_applies_1 (by decide) ?_
  refine wa_aload_n F dL_applies_2 (i := 0) rfl 0 rfl ?_
  refine wa_iload_n F dL_applies_3 (i := 1) rfl 1 rfl ?_
  refine wa_iload_n F dL_applies_4 (i := 2) rfl 2 rfl ?_
  refine wa_callV F [.int 0, .ref 1] (c_X5_applies hst D TC H0 ad X S o a v n hi) mw_X5_applies ml_L_91 (hm_c (TC := TC) (X := X) (S := S) (o := o)) rfl rfl (Nat.le_of_ble_eq_true rfl) ⟨(Nat.le_of_ble_eq_true rfl), (Nat.le_of_ble_eq_true rfl)⟩ ⟨(Nat.le_of_ble_eq_true rfl), (Nat.le_of_ble_eq_true rfl)⟩ dL_applies_5 (fun v a2 h2 z => PR_ag v a2 h2 z.2) ?_ ?_
  · intro E hE
    rcases hE with ⟨rfl, ek⟩
    · skip
      refine wx_catch F (tableOf []) { startPc := 0, endPc := 17, handlerPc := 20, catchType := 21 } (tableOf []) rfl (fun z hz => absurd hz List.not_mem_nil) (by decide) (by decide) cl_L_21 ca_IO 20 rfl ?_
      refine wa_drop F dL_applies_20 (by decide) (lv' := [(0, .ref 0), (1, .int a), (2, .int v), (3, .ref 1)]) rfl ?_
      refine wa_iconst (v := 1) F dL_applies_22 (by decide) ?_
      refine wa_iret F rfl (Nat.le_of_ble_eq_true rfl) (Nat.le_of_ble_eq_true rfl) dL_applies_23 ?_
      exact ⟨by rw [ek], fun _ _ => rfl, by rw [ek, kU_n (by decide), kO_n (by decide)]⟩
  · rintro _ _ _ ⟨ek, rfl, rfl, rfl⟩
    refine wa_if_eq (tgt := 15) F dL_applies_8 (by decide) (fun c8 => ?_) (fun c8 => ?_)
    · skip
      refine wa_lconst (v := 0) F dL_applies_15 (by decide) ?_
      refine wa_last F 1 rfl (hm_o (TC := TC) (X := X) (S := S) (o := o)) 0 rfl (by decide) (by decide) dL_applies_16 (hs_o 0) ?_
      refine wa_goto (tgt := 24) F dL_applies_17 (by decide) ?_
      refine wa_iconst (v := 0) F dL_applies_24 (by decide) ?_
      refine wa_iret F rfl (Nat.le_of_ble_eq_true rfl) (Nat.le_of_ble_eq_true rfl) dL_applies_25 ?_
      exact ⟨by rw [ek], fun _ _ => rfl, by rw [ek, kU_0, kO_0, b64f c8]⟩
    · skip
      refine wa_lconst (v := 1) F dL_applies_11 (by decide) ?_
      refine wa_goto (tgt := 16) F dL_applies_12 (by decide) ?_
      refine wa_last F 1 rfl (hm_o (TC := TC) (X := X) (S := S) (o := o)) 0 rfl (by decide) (by decide) dL_applies_16 (hs_o 1) ?_
      refine wa_goto (tgt := 24) F dL_applies_17 (by decide) ?_
      refine wa_iconst (v := 0) F dL_applies_24 (by decide) ?_
      refine wa_iret F rfl (Nat.le_of_ble_eq_true rfl) (Nat.le_of_ble_eq_true rfl) dL_applies_25 ?_
      exact ⟨by rw [ek], fun _ _ => rfl, by rw [ek, kU_0, kO_0, b64t (r := rAp X a v) rfl c8]⟩
set_option maxHeartbeats 2000000 in
set_option maxRecDepth 20000 in
theorem c_L_event {l : Launch} (hst : l.stackTraces = false) (D : va_G) (TC : Nat → ClassId) (H0 : Heap) (ad : Nat → Nat) (X S : St) (o : Nat → Int64) (v : Int32) (g : Int32) (b : Int32) (n : Nat) (hi : INV n X) (hn512 : n < 512) : CCH l D (tysOf TC) H0 yL_event cL_event 6 (some .int) [(0, 12, 15, 21), (0, 12, 19, 13)] 8 1 6 [.ref 0, .int v, .int g, .int b, .ref 1] ad (hall TC X S o) (PN ad (hall TC X S o) (some (.int (kEv X v g b))) (hall TC (kU (kEv X v g b) (uEv v g b) X) S (kO (kEv X v g b) (rEv X v g b) o))) (fun _ => False) := by
  refine cc_introH hst (by decide +kernel) (Nat.le_of_ble_eq_true rfl) ?_
  intro p e s m args below meth c F
  rw [show lv_args 0 [.ref 0, .int v, .int g, .int b, .ref 1] = [(0, .ref 0), (1, .int v), (2, .int g), (3, .int b), (4, .ref 1)] from rfl]
  refine wa_aload F dL_event_0 4 rfl ?_
  refine wa_iconst (v := 0) F dL_event_2 (by decide) ?_
  refine wa_aload_n F dL_event_3 (i := 0) rfl 0 rfl ?_
  refine wa_iload_n F dL_event_4 (i := 1) rfl 1 rfl ?_
  refine wa_iload_n F dL_event_5 (i := 2) rfl 2 rfl ?_
  refine wa_iload_n F dL_event_6 (i := 3) rfl 3 rfl ?_
  refine wa_callV F [.int 0, .ref 1] (c_X5_event hst D TC H0 ad X S o v g b n hi hn512) mw_X5_event ml_L_78 (hm_c (TC := TC) (X := X) (S := S) (o := o)) rfl rfl (Nat.le_of_ble_eq_true rfl) ⟨(Nat.le_of_ble_eq_true rfl), (Nat.le_of_ble_eq_true rfl)⟩ ⟨(Nat.le_of_ble_eq_true rfl), (Nat.le_of_ble_eq_true rfl)⟩ dL_event_7 (fun v a2 h2 z => PR_ag v a2 h2 z.2) ?_ ?_
  · intro E hE
    rcases hE with ⟨rfl, ek⟩ | ⟨rfl, ek⟩
    · skip
      refine wx_catch F (tableOf []) { startPc := 0, endPc := 12, handlerPc := 15, catchType := 21 } (tableOf [(0, 12, 19, 13)]) rfl (fun z hz => absurd hz List.not_mem_nil) (by decide) (by decide) cl_L_21 ca_IO 15 rfl ?_
      refine wa_drop F dL_event_15 (by decide) (lv' := [(0, .ref 0), (1, .int v), (2, .int g), (3, .int b), (4, .ref 1)]) rfl ?_
      refine wa_iconst (v := 1) F dL_event_17 (by decide) ?_
      refine wa_iret F rfl (Nat.le_of_ble_eq_true rfl) (Nat.le_of_ble_eq_true rfl) dL_event_18 ?_
      exact ⟨by rw [ek], fun _ _ => rfl, by rw [ek, kU_n (by decide), kO_n (by decide)]⟩
    · skip
      refine wx_catch F (tableOf [(0, 12, 15, 21)]) { startPc := 0, endPc := 12, handlerPc := 19, catchType := 13 } (tableOf []) rfl (by intro z hz; simp only [tableOf, List.map_cons, List.map_nil, List.mem_cons, List.not_mem_nil, or_false] at hz; rcases hz with rfl; exact ⟨by decide, _, cl_L_21, by decide, by decide, by decide⟩) (by decide) (by decide) cl_L_13 ca_IA 19 rfl ?_
      refine wa_drop F dL_event_19 (by decide) (lv' := [(0, .ref 0), (1, .int v), (2, .int g), (3, .int b), (4, .ref 1)]) rfl ?_
      refine wa_iconst (v := 2) F dL_event_21 (by decide) ?_
      refine wa_iret F rfl (Nat.le_of_ble_eq_true rfl) (Nat.le_of_ble_eq_true rfl) dL_event_22 ?_
      exact ⟨by rw [ek], fun _ _ => rfl, by rw [ek, kU_n (by decide), kO_n (by decide)]⟩
  · rintro _ _ _ ⟨ek, rfl, rfl, rfl⟩
    refine wa_i2l F dL_event_10 rfl ?_
    refine wa_last F 1 rfl (hm_o (TC := TC) (X := (uEv v g b X)) (S := S) (o := o)) 0 rfl (by decide) (by decide) dL_event_11 (hs_o ((rEv X v g b).toInt64)) ?_
    refine wa_goto (tgt := 23) F dL_event_12 (by decide) ?_
    refine wa_iconst (v := 0) F dL_event_23 (by decide) ?_
    refine wa_iret F rfl (Nat.le_of_ble_eq_true rfl) (Nat.le_of_ble_eq_true rfl) dL_event_24 ?_
    exact ⟨by rw [ek], fun _ _ => rfl, by rw [ek, kU_0, kO_0]⟩
set_option maxHeartbeats 2000000 in
set_option maxRecDepth 20000 in
theorem c_L_transfer {l : Launch} (hst : l.stackTraces = false) (D : va_G) (TC : Nat → ClassId) (H0 : Heap) (ad : Nat → Nat) (X S : St) (o : Nat → Int64) (v : Int32) (b : Int32) (n : Nat) (hi : INV n X) : CCH l D (tysOf TC) H0 yL_transfer cL_transfer 5 (some .int) [(0, 10, 13, 21), (0, 10, 17, 15)] 8 1 6 [.ref 0, .int v, .int b, .ref 1] ad (hall TC X S o) (PN ad (hall TC X S o) (some (.int (kTr X v b))) (hall TC (kU (kTr X v b) (uTr v b) X) S (kO (kTr X v b) (rTr X v) o))) (fun _ => False) := by
  refine cc_introH hst (by decide +kernel) (Nat.le_of_ble_eq_true rfl) ?_
  intro p e s m args below meth c F
  rw [show lv_args 0 [.ref 0, .int v, .int b, .ref 1] = [(0, .ref 0), (1, .int v), (2, .int b), (3, .ref 1)] from rfl]
  refine wa_aload_n F dL_transfer_0 (i := 3) rfl 3 rfl ?_
  refine wa_iconst (v := 0) F dL_transfer_1 (by decide) ?_
  refine wa_aload_n F dL_transfer_2 (i := 0) rfl 0 rfl ?_
  refine wa_iload_n F dL_transfer_3 (i := 1) rfl 1 rfl ?_
  refine wa_iload_n F dL_transfer_4 (i := 2) rfl 2 rfl ?_
  refine wa_callV F [.int 0, .ref 1] (c_X5_transfer hst D TC H0 ad X S o v b n hi) mw_X5_transfer ml_L_63 (hm_c (TC := TC) (X := X) (S := S) (o := o)) rfl rfl (Nat.le_of_ble_eq_true rfl) ⟨(Nat.le_of_ble_eq_true rfl), (Nat.le_of_ble_eq_true rfl)⟩ ⟨(Nat.le_of_ble_eq_true rfl), (Nat.le_of_ble_eq_true rfl)⟩ dL_transfer_5 (fun v a2 h2 z => PR_ag v a2 h2 z.2) ?_ ?_
  · intro E hE
    rcases hE with ⟨rfl, ek⟩ | ⟨rfl, ek⟩
    · skip
      refine wx_catch F (tableOf []) { startPc := 0, endPc := 10, handlerPc := 13, catchType := 21 } (tableOf [(0, 10, 17, 15)]) rfl (fun z hz => absurd hz List.not_mem_nil) (by decide) (by decide) cl_L_21 ca_IO 13 rfl ?_
      refine wa_drop F dL_transfer_13 (by decide) (lv' := [(0, .ref 0), (1, .int v), (2, .int b), (3, .ref 1)]) rfl ?_
      refine wa_iconst (v := 1) F dL_transfer_15 (by decide) ?_
      refine wa_iret F rfl (Nat.le_of_ble_eq_true rfl) (Nat.le_of_ble_eq_true rfl) dL_transfer_16 ?_
      exact ⟨by rw [ek], fun _ _ => rfl, by rw [ek, kU_n (by decide), kO_n (by decide)]⟩
    · skip
      refine wx_catch F (tableOf [(0, 10, 13, 21)]) { startPc := 0, endPc := 10, handlerPc := 17, catchType := 15 } (tableOf []) rfl (by intro z hz; simp only [tableOf, List.map_cons, List.map_nil, List.mem_cons, List.not_mem_nil, or_false] at hz; rcases hz with rfl; exact ⟨by decide, _, cl_L_21, by decide, by decide, by decide⟩) (by decide) (by decide) cl_L_15 ca_IS 17 rfl ?_
      refine wa_drop F dL_transfer_17 (by decide) (lv' := [(0, .ref 0), (1, .int v), (2, .int b), (3, .ref 1)]) rfl ?_
      refine wa_iconst (v := 2) F dL_transfer_19 (by decide) ?_
      refine wa_iret F rfl (Nat.le_of_ble_eq_true rfl) (Nat.le_of_ble_eq_true rfl) dL_transfer_20 ?_
      exact ⟨by rw [ek], fun _ _ => rfl, by rw [ek, kU_n (by decide), kO_n (by decide)]⟩
  · rintro _ _ _ ⟨ek, rfl, rfl, rfl⟩
    refine wa_i2l F dL_transfer_8 rfl ?_
    refine wa_last F 1 rfl (hm_o (TC := TC) (X := (uTr v b X)) (S := S) (o := o)) 0 rfl (by decide) (by decide) dL_transfer_9 (hs_o ((rTr X v).toInt64)) ?_
    refine wa_goto (tgt := 21) F dL_transfer_10 (by decide) ?_
    refine wa_iconst (v := 0) F dL_transfer_21 (by decide) ?_
    refine wa_iret F rfl (Nat.le_of_ble_eq_true rfl) (Nat.le_of_ble_eq_true rfl) dL_transfer_22 ?_
    exact ⟨by rw [ek], fun _ _ => rfl, by rw [ek, kU_0, kO_0]⟩
set_option maxHeartbeats 2000000 in
set_option maxRecDepth 20000 in
theorem c_L_ban {l : Launch} (hst : l.stackTraces = false) (D : va_G) (TC : Nat → ClassId) (H0 : Heap) (ad : Nat → Nat) (X S : St) (o : Nat → Int64) (w : Int32) (v : Int32) (q : Bool) (n : Nat) (hi : INV n X) : CCH l D (tysOf TC) H0 yL_ban cL_ban 6 (some .int) [(0, 12, 15, 21)] 8 1 6 [.ref 0, .int w, .int v, .int (bI q), .ref 1] ad (hall TC X S o) (PN ad (hall TC X S o) (some (.int (kBa X w v))) (hall TC (kU (kBa X w v) (uBa w v q) X) S (kO (kBa X w v) (rBa X w v q) o))) (fun _ => False) := by
  refine cc_introH hst (by decide +kernel) (Nat.le_of_ble_eq_true rfl) ?_
  intro p e s m args below meth c F
  rw [show lv_args 0 [.ref 0, .int w, .int v, .int (bI q), .ref 1] = [(0, .ref 0), (1, .int w), (2, .int v), (3, .int (bI q)), (4, .ref 1)] from rfl]
  refine wa_aload F dL_ban_0 4 rfl ?_
  refine wa_iconst (v := 0) F dL_ban_2 (by decide) ?_
  refine wa_aload_n F dL_ban_3 (i := 0) rfl 0 rfl ?_
  refine wa_iload_n F dL_ban_4 (i := 1) rfl 1 rfl ?_
  refine wa_iload_n F dL_ban_5 (i := 2) rfl 2 rfl ?_
  refine wa_iload_n F dL_ban_6 (i := 3) rfl 3 rfl ?_
  refine wa_callV F [.int 0, .ref 1] (c_X5_ban hst D TC H0 ad X S o w v q n hi) mw_X5_ban ml_L_84 (hm_c (TC := TC) (X := X) (S := S) (o := o)) rfl rfl (Nat.le_of_ble_eq_true rfl) ⟨(Nat.le_of_ble_eq_true rfl), (Nat.le_of_ble_eq_true rfl)⟩ ⟨(Nat.le_of_ble_eq_true rfl), (Nat.le_of_ble_eq_true rfl)⟩ dL_ban_7 (fun v a2 h2 z => PR_ag v a2 h2 z.2) ?_ ?_
  · intro E hE
    rcases hE with ⟨rfl, ek⟩
    · skip
      refine wx_catch F (tableOf []) { startPc := 0, endPc := 12, handlerPc := 15, catchType := 21 } (tableOf []) rfl (fun z hz => absurd hz List.not_mem_nil) (by decide) (by decide) cl_L_21 ca_IO 15 rfl ?_
      refine wa_drop F dL_ban_15 (by decide) (lv' := [(0, .ref 0), (1, .int w), (2, .int v), (3, .int (bI q)), (4, .ref 1)]) rfl ?_
      refine wa_iconst (v := 1) F dL_ban_17 (by decide) ?_
      refine wa_iret F rfl (Nat.le_of_ble_eq_true rfl) (Nat.le_of_ble_eq_true rfl) dL_ban_18 ?_
      exact ⟨by rw [ek], fun _ _ => rfl, by rw [ek, kU_n (by decide), kO_n (by decide)]⟩
  · rintro _ _ _ ⟨ek, rfl, rfl, rfl⟩
    refine wa_i2l F dL_ban_10 rfl ?_
    refine wa_last F 1 rfl (hm_o (TC := TC) (X := (uBa w v q X)) (S := S) (o := o)) 0 rfl (by decide) (by decide) dL_ban_11 (hs_o ((rBa X w v q).toInt64)) ?_
    refine wa_goto (tgt := 19) F dL_ban_12 (by decide) ?_
    refine wa_iconst (v := 0) F dL_ban_19 (by decide) ?_
    refine wa_iret F rfl (Nat.le_of_ble_eq_true rfl) (Nat.le_of_ble_eq_true rfl) dL_ban_20 ?_
    exact ⟨by rw [ek], fun _ _ => rfl, by rw [ek, kU_0, kO_0]⟩
set_option maxHeartbeats 2000000 in
set_option maxRecDepth 20000 in
theorem c_L_special {l : Launch} (hst : l.stackTraces = false) (D : va_G) (TC : Nat → ClassId) (H0 : Heap) (ad : Nat → Nat) (X S : St) (o : Nat → Int64) (a : Int32) (b : Int32) (n : Nat) (hi : INV n X) : CCH l D (tysOf TC) H0 yL_special cL_special 5 (some .int) [(0, 17, 20, 21), (0, 17, 24, 13), (0, 17, 28, 15)] 8 1 6 [.ref 0, .int a, .int b, .ref 1] ad (hall TC X S o) (PN ad (hall TC X S o) (some (.int (kSpc X a b))) (hall TC (kU (kSpc X a b) (uSpc a b) X) S (kO (kSpc X a b) (rSpc X a b) o))) (fun _ => False) := by
  refine cc_introH hst (by decide +kernel) (Nat.le_of_ble_eq_true rfl) ?_
  intro p e s m args below meth c F
  rw [show lv_args 0 [.ref 0, .int a, .int b, .ref 1] = [(0, .ref 0), (1, .int a), (2, .int b), (3, .ref 1)] from rfl]
  refine wa_aload_n F dL_special_0 (i := 3) rfl 3 rfl ?_
  refine wa_iconst (v := 0) F dL_special_1 (by decide) ?_
  refine wa_aload_n F dL_special_2 (i := 0) rfl 0 rfl ?_
  refine wa_iload_n F dL_special_3 (i := 1) rfl 1 rfl ?_
  refine wa_iload_n F dL_special_4 (i := 2) rfl 2 rfl ?_
  refine wa_callV F [.int 0, .ref 1] (c_X5_special hst D TC H0 ad X S o a b n hi) mw_X5_special ml_L_17 (hm_c (TC := TC) (X := X) (S := S) (o := o)) rfl rfl (Nat.le_of_ble_eq_true rfl) ⟨(Nat.le_of_ble_eq_true rfl), (Nat.le_of_ble_eq_true rfl)⟩ ⟨(Nat.le_of_ble_eq_true rfl), (Nat.le_of_ble_eq_true rfl)⟩ dL_special_5 (fun v a2 h2 z => PR_ag v a2 h2 z.2) ?_ ?_
  · intro E hE
    rcases hE with ⟨rfl, ek⟩ | ⟨rfl, ek⟩ | ⟨rfl, ek⟩
    · skip
      refine wx_catch F (tableOf []) { startPc := 0, endPc := 17, handlerPc := 20, catchType := 21 } (tableOf [(0, 17, 24, 13), (0, 17, 28, 15)]) rfl (fun z hz => absurd hz List.not_mem_nil) (by decide) (by decide) cl_L_21 ca_IO 20 rfl ?_
      refine wa_drop F dL_special_20 (by decide) (lv' := [(0, .ref 0), (1, .int a), (2, .int b), (3, .ref 1)]) rfl ?_
      refine wa_iconst (v := 1) F dL_special_22 (by decide) ?_
      refine wa_iret F rfl (Nat.le_of_ble_eq_true rfl) (Nat.le_of_ble_eq_true rfl) dL_special_23 ?_
      exact ⟨by rw [ek], fun _ _ => rfl, by rw [ek, kU_n (by decide), kO_n (by decide)]⟩
    · skip
      refine wx_catch F (tableOf [(0, 17, 20, 21)]) { startPc := 0, endPc := 17, handlerPc := 24, catchType := 13 } (tableOf [(0, 17, 28, 15)]) rfl (by intro z hz; simp only [tableOf, List.map_cons, List.map_nil, List.mem_cons, List.not_mem_nil, or_false] at hz; rcases hz with rfl; exact ⟨by decide, _, cl_L_21, by decide, by decide, by decide⟩) (by decide) (by decide) cl_L_13 ca_IA 24 rfl ?_
      refine wa_drop F dL_special_24 (by decide) (lv' := [(0, .ref 0), (1, .int a), (2, .int b), (3, .ref 1)]) rfl ?_
      refine wa_iconst (v := 2) F dL_special_26 (by decide) ?_
      refine wa_iret F rfl (Nat.le_of_ble_eq_true rfl) (Nat.le_of_ble_eq_true rfl) dL_special_27 ?_
      exact ⟨by rw [ek], fun _ _ => rfl, by rw [ek, kU_n (by decide), kO_n (by decide)]⟩
    · skip
      refine wx_catch F (tableOf [(0, 17, 20, 21), (0, 17, 24, 13)]) { startPc := 0, endPc := 17, handlerPc := 28, catchType := 15 } (tableOf []) rfl (by intro z hz; simp only [tableOf, List.map_cons, List.map_nil, List.mem_cons, List.not_mem_nil, or_false] at hz; rcases hz with rfl | rfl <;> first | exact ⟨by decide, _, cl_L_21, by decide, by decide, by decide⟩ | exact ⟨by decide, _, cl_L_13, by decide, by decide, by decide⟩) (by decide) (by decide) cl_L_15 ca_IS 28 rfl ?_
      refine wa_drop F dL_special_28 (by decide) (lv' := [(0, .ref 0), (1, .int a), (2, .int b), (3, .ref 1)]) rfl ?_
      refine wa_iconst (v := 3) F dL_special_30 (by decide) ?_
      refine wa_iret F rfl (Nat.le_of_ble_eq_true rfl) (Nat.le_of_ble_eq_true rfl) dL_special_31 ?_
      exact ⟨by rw [ek], fun _ _ => rfl, by rw [ek, kU_n (by decide), kO_n (by decide)]⟩
  · rintro _ _ _ ⟨ek, rfl, rfl, rfl⟩
    refine wa_if_eq (tgt := 15) F dL_special_8 (by decide) (fun c8 => ?_) (fun c8 => ?_)
    · skip
      refine wa_lconst (v := 0) F dL_special_15 (by decide) ?_
      refine wa_last F 1 rfl (hm_o (TC := TC) (X := (uSpc a b X)) (S := S) (o := o)) 0 rfl (by decide) (by decide) dL_special_16 (hs_o 0) ?_
      refine wa_goto (tgt := 32) F dL_special_17 (by decide) ?_
      refine wa_iconst (v := 0) F dL_special_32 (by decide) ?_
      refine wa_iret F rfl (Nat.le_of_ble_eq_true rfl) (Nat.le_of_ble_eq_true rfl) dL_special_33 ?_
      exact ⟨by rw [ek], fun _ _ => rfl, by rw [ek, kU_0, kO_0, b64f c8]⟩
    · skip
      refine wa_lconst (v := 1) F dL_special_11 (by decide) ?_
      refine wa_goto (tgt := 16) F dL_special_12 (by decide) ?_
      refine wa_last F 1 rfl (hm_o (TC := TC) (X := (uSpc a b X)) (S := S) (o := o)) 0 rfl (by decide) (by decide) dL_special_16 (hs_o 1) ?_
      refine wa_goto (tgt := 32) F dL_special_17 (by decide) ?_
      refine wa_iconst (v := 0) F dL_special_32 (by decide) ?_
      refine wa_iret F rfl (Nat.le_of_ble_eq_true rfl) (Nat.le_of_ble_eq_true rfl) dL_special_33 ?_
      exact ⟨by rw [ek], fun _ _ => rfl, by rw [ek, kU_0, kO_0, b64t (r := rSpc X a b) rfl c8]⟩
set_option maxHeartbeats 2000000 in
set_option maxRecDepth 20000 in
theorem c_L_productOf {l : Launch} (hst : l.stackTraces = false) (D : va_G) (TC : Nat → ClassId) (H0 : Heap) (ad : Nat → Nat) (X S : St) (o : Nat → Int64) (v : Int32) (w : Int32) (n : Nat) (hi : INV n X) : CCH l D (tysOf TC) H0 yL_productOf cL_productOf 5 (some .int) [(0, 10, 13, 21), (0, 10, 17, 13)] 8 1 6 [.ref 0, .int v, .int w, .ref 1] ad (hall TC X S o) (PN ad (hall TC X S o) (some (.int (kPO X v w))) (hall TC (kU (kPO X v w) (fun Y => Y) X) S (kO (kPO X v w) (rPO X v w) o))) (fun _ => False) := by
  refine cc_introH hst (by decide +kernel) (Nat.le_of_ble_eq_true rfl) ?_
  intro p e s m args below meth c F
  rw [show lv_args 0 [.ref 0, .int v, .int w, .ref 1] = [(0, .ref 0), (1, .int v), (2, .int w), (3, .ref 1)] from rfl]
  refine wa_aload_n F dL_productOf_0 (i := 3) rfl 3 rfl ?_
  refine wa_iconst (v := 0) F dL_productOf_1 (by decide) ?_
  refine wa_aload_n F dL_productOf_2 (i := 0) rfl 0 rfl ?_
  refine wa_iload_n F dL_productOf_3 (i := 1) rfl 1 rfl ?_
  refine wa_iload_n F dL_productOf_4 (i := 2) rfl 2 rfl ?_
  refine wa_callV F [.int 0, .ref 1] (c_X5_productOf hst D TC H0 ad X S o v w n hi) mw_X5_productOf ml_L_104 (hm_c (TC := TC) (X := X) (S := S) (o := o)) rfl rfl (Nat.le_of_ble_eq_true rfl) ⟨(Nat.le_of_ble_eq_true rfl), (Nat.le_of_ble_eq_true rfl)⟩ ⟨(Nat.le_of_ble_eq_true rfl), (Nat.le_of_ble_eq_true rfl)⟩ dL_productOf_5 (fun v a2 h2 z => PR_ag v a2 h2 z.2) ?_ ?_
  · intro E hE
    rcases hE with ⟨rfl, ek⟩ | ⟨rfl, ek⟩
    · skip
      refine wx_catch F (tableOf []) { startPc := 0, endPc := 10, handlerPc := 13, catchType := 21 } (tableOf [(0, 10, 17, 13)]) rfl (fun z hz => absurd hz List.not_mem_nil) (by decide) (by decide) cl_L_21 ca_IO 13 rfl ?_
      refine wa_drop F dL_productOf_13 (by decide) (lv' := [(0, .ref 0), (1, .int v), (2, .int w), (3, .ref 1)]) rfl ?_
      refine wa_iconst (v := 1) F dL_productOf_15 (by decide) ?_
      refine wa_iret F rfl (Nat.le_of_ble_eq_true rfl) (Nat.le_of_ble_eq_true rfl) dL_productOf_16 ?_
      exact ⟨by rw [ek], fun _ _ => rfl, by rw [ek, kU_n (by decide), kO_n (by decide)]⟩
    · skip
      refine wx_catch F (tableOf [(0, 10, 13, 21)]) { startPc := 0, endPc := 10, handlerPc := 17, catchType := 13 } (tableOf []) rfl (by intro z hz; simp only [tableOf, List.map_cons, List.map_nil, List.mem_cons, List.not_mem_nil, or_false] at hz; rcases hz with rfl; exact ⟨by decide, _, cl_L_21, by decide, by decide, by decide⟩) (by decide) (by decide) cl_L_13 ca_IA 17 rfl ?_
      refine wa_drop F dL_productOf_17 (by decide) (lv' := [(0, .ref 0), (1, .int v), (2, .int w), (3, .ref 1)]) rfl ?_
      refine wa_iconst (v := 2) F dL_productOf_19 (by decide) ?_
      refine wa_iret F rfl (Nat.le_of_ble_eq_true rfl) (Nat.le_of_ble_eq_true rfl) dL_productOf_20 ?_
      exact ⟨by rw [ek], fun _ _ => rfl, by rw [ek, kU_n (by decide), kO_n (by decide)]⟩
  · rintro _ _ _ ⟨ek, rfl, rfl, rfl⟩
    refine wa_i2l F dL_productOf_8 rfl ?_
    refine wa_last F 1 rfl (hm_o (TC := TC) (X := X) (S := S) (o := o)) 0 rfl (by decide) (by decide) dL_productOf_9 (hs_o ((rPO X v w).toInt64)) ?_
    refine wa_goto (tgt := 21) F dL_productOf_10 (by decide) ?_
    refine wa_iconst (v := 0) F dL_productOf_21 (by decide) ?_
    refine wa_iret F rfl (Nat.le_of_ble_eq_true rfl) (Nat.le_of_ble_eq_true rfl) dL_productOf_22 ?_
    exact ⟨by rw [ek], fun _ _ => rfl, by rw [ek, kU_0, kO_0]⟩
set_option maxHeartbeats 2000000 in
set_option maxRecDepth 20000 in
theorem c_L_batchOf {l : Launch} (hst : l.stackTraces = false) (D : va_G) (TC : Nat → ClassId) (H0 : Heap) (ad : Nat → Nat) (X S : St) (o : Nat → Int64) (v : Int32) (w : Int32) (n : Nat) (hi : INV n X) (hn512 : n ≤ 512) : CCH l D (tysOf TC) H0 yL_batchOf cL_batchOf 5 (some .int) [(0, 10, 13, 21), (0, 10, 17, 13)] 8 1 6 [.ref 0, .int v, .int w, .ref 1] ad (hall TC X S o) (PN ad (hall TC X S o) (some (.int (kBO X v w))) (hall TC (kU (kBO X v w) (fun Y => Y) X) S (kO (kBO X v w) (rBO X v w) o))) (fun _ => False) := by
  refine cc_introH hst (by decide +kernel) (Nat.le_of_ble_eq_true rfl) ?_
  intro p e s m args below meth c F
  rw [show lv_args 0 [.ref 0, .int v, .int w, .ref 1] = [(0, .ref 0), (1, .int v), (2, .int w), (3, .ref 1)] from rfl]
  refine wa_aload_n F dL_batchOf_0 (i := 3) rfl 3 rfl ?_
  refine wa_iconst (v := 0) F dL_batchOf_1 (by decide) ?_
  refine wa_aload_n F dL_batchOf_2 (i := 0) rfl 0 rfl ?_
  refine wa_iload_n F dL_batchOf_3 (i := 1) rfl 1 rfl ?_
  refine wa_iload_n F dL_batchOf_4 (i := 2) rfl 2 rfl ?_
  refine wa_callV F [.int 0, .ref 1] (c_X5_batchOf hst D TC H0 ad X S o v w n hi hn512) mw_X5_batchOf ml_L_110 (hm_c (TC := TC) (X := X) (S := S) (o := o)) rfl rfl (Nat.le_of_ble_eq_true rfl) ⟨(Nat.le_of_ble_eq_true rfl), (Nat.le_of_ble_eq_true rfl)⟩ ⟨(Nat.le_of_ble_eq_true rfl), (Nat.le_of_ble_eq_true rfl)⟩ dL_batchOf_5 (fun v a2 h2 z => PR_ag v a2 h2 z.2) ?_ ?_
  · intro E hE
    rcases hE with ⟨rfl, ek⟩ | ⟨rfl, ek⟩
    · skip
      refine wx_catch F (tableOf []) { startPc := 0, endPc := 10, handlerPc := 13, catchType := 21 } (tableOf [(0, 10, 17, 13)]) rfl (fun z hz => absurd hz List.not_mem_nil) (by decide) (by decide) cl_L_21 ca_IO 13 rfl ?_
      refine wa_drop F dL_batchOf_13 (by decide) (lv' := [(0, .ref 0), (1, .int v), (2, .int w), (3, .ref 1)]) rfl ?_
      refine wa_iconst (v := 1) F dL_batchOf_15 (by decide) ?_
      refine wa_iret F rfl (Nat.le_of_ble_eq_true rfl) (Nat.le_of_ble_eq_true rfl) dL_batchOf_16 ?_
      exact ⟨by rw [ek], fun _ _ => rfl, by rw [ek, kU_n (by decide), kO_n (by decide)]⟩
    · skip
      refine wx_catch F (tableOf [(0, 10, 13, 21)]) { startPc := 0, endPc := 10, handlerPc := 17, catchType := 13 } (tableOf []) rfl (by intro z hz; simp only [tableOf, List.map_cons, List.map_nil, List.mem_cons, List.not_mem_nil, or_false] at hz; rcases hz with rfl; exact ⟨by decide, _, cl_L_21, by decide, by decide, by decide⟩) (by decide) (by decide) cl_L_13 ca_IA 17 rfl ?_
      refine wa_drop F dL_batchOf_17 (by decide) (lv' := [(0, .ref 0), (1, .int v), (2, .int w), (3, .ref 1)]) rfl ?_
      refine wa_iconst (v := 2) F dL_batchOf_19 (by decide) ?_
      refine wa_iret F rfl (Nat.le_of_ble_eq_true rfl) (Nat.le_of_ble_eq_true rfl) dL_batchOf_20 ?_
      exact ⟨by rw [ek], fun _ _ => rfl, by rw [ek, kU_n (by decide), kO_n (by decide)]⟩
  · rintro _ _ _ ⟨ek, rfl, rfl, rfl⟩
    refine wa_i2l F dL_batchOf_8 rfl ?_
    refine wa_last F 1 rfl (hm_o (TC := TC) (X := X) (S := S) (o := o)) 0 rfl (by decide) (by decide) dL_batchOf_9 (hs_o ((rBO X v w).toInt64)) ?_
    refine wa_goto (tgt := 21) F dL_batchOf_10 (by decide) ?_
    refine wa_iconst (v := 0) F dL_batchOf_21 (by decide) ?_
    refine wa_iret F rfl (Nat.le_of_ble_eq_true rfl) (Nat.le_of_ble_eq_true rfl) dL_batchOf_22 ?_
    exact ⟨by rw [ek], fun _ _ => rfl, by rw [ek, kU_0, kO_0]⟩
set_option maxHeartbeats 2000000 in
set_option maxRecDepth 20000 in
theorem c_L_recall {l : Launch} (hst : l.stackTraces = false) (D : va_G) (TC : Nat → ClassId) (H0 : Heap) (ad : Nat → Nat) (X S : St) (o : Nat → Int64) (v : Int32) (a : Int32) (b : Int32) (n : Nat) (hi : INV n X) : CCH l D (tysOf TC) H0 yL_recall cL_recall 6 (some .int) [(0, 12, 15, 21), (0, 12, 19, 13)] 8 1 6 [.ref 0, .int v, .int a, .int b, .ref 1] ad (hall TC X S o) (PN ad (hall TC X S o) (some (.int (kRc X v a b))) (hall TC (kU (kRc X v a b) (uRc v a b) X) S (kO (kRc X v a b) (rRc X v a b) o))) (fun _ => False) := by
  refine cc_introH hst (by decide +kernel) (Nat.le_of_ble_eq_true rfl) ?_
  intro p e s m args below meth c F
  rw [show lv_args 0 [.ref 0, .int v, .int a, .int b, .ref 1] = [(0, .ref 0), (1, .int v), (2, .int a), (3, .int b), (4, .ref 1)] from rfl]
  refine wa_aload F dL_recall_0 4 rfl ?_
  refine wa_iconst (v := 0) F dL_recall_2 (by decide) ?_
  refine wa_aload_n F dL_recall_3 (i := 0) rfl 0 rfl ?_
  refine wa_iload_n F dL_recall_4 (i := 1) rfl 1 rfl ?_
  refine wa_iload_n F dL_recall_5 (i := 2) rfl 2 rfl ?_
  refine wa_iload_n F dL_recall_6 (i := 3) rfl 3 rfl ?_
  refine wa_callV F [.int 0, .ref 1] (c_X5_recall hst D TC H0 ad X S o v a b n hi) mw_X5_recall ml_L_81 (hm_c (TC := TC) (X := X) (S := S) (o := o)) rfl rfl (Nat.le_of_ble_eq_true rfl) ⟨(Nat.le_of_ble_eq_true rfl), (Nat.le_of_ble_eq_true rfl)⟩ ⟨(Nat.le_of_ble_eq_true rfl), (Nat.le_of_ble_eq_true rfl)⟩ dL_recall_7 (fun v a2 h2 z => PR_ag v a2 h2 z.2) ?_ ?_
  · intro E hE
    rcases hE with ⟨rfl, ek⟩ | ⟨rfl, ek⟩
    · skip
      refine wx_catch F (tableOf []) { startPc := 0, endPc := 12, handlerPc := 15, catchType := 21 } (tableOf [(0, 12, 19, 13)]) rfl (fun z hz => absurd hz List.not_mem_nil) (by decide) (by decide) cl_L_21 ca_IO 15 rfl ?_
      refine wa_drop F dL_recall_15 (by decide) (lv' := [(0, .ref 0), (1, .int v), (2, .int a), (3, .int b), (4, .ref 1)]) rfl ?_
      refine wa_iconst (v := 1) F dL_recall_17 (by decide) ?_
      refine wa_iret F rfl (Nat.le_of_ble_eq_true rfl) (Nat.le_of_ble_eq_true rfl) dL_recall_18 ?_
      exact ⟨by rw [ek], fun _ _ => rfl, by rw [ek, kU_n (by decide), kO_n (by decide)]⟩
    · skip
      refine wx_catch F (tableOf [(0, 12, 15, 21)]) { startPc := 0, endPc := 12, handlerPc := 19, catchType := 13 } (tableOf []) rfl (by intro z hz; simp only [tableOf, List.map_cons, List.map_nil, List.mem_cons, List.not_mem_nil, or_false] at hz; rcases hz with rfl; exact ⟨by decide, _, cl_L_21, by decide, by decide, by decide⟩) (by decide) (by decide) cl_L_13 ca_IA 19 rfl ?_
      refine wa_drop F dL_recall_19 (by decide) (lv' := [(0, .ref 0), (1, .int v), (2, .int a), (3, .int b), (4, .ref 1)]) rfl ?_
      refine wa_iconst (v := 2) F dL_recall_21 (by decide) ?_
      refine wa_iret F rfl (Nat.le_of_ble_eq_true rfl) (Nat.le_of_ble_eq_true rfl) dL_recall_22 ?_
      exact ⟨by rw [ek], fun _ _ => rfl, by rw [ek, kU_n (by decide), kO_n (by decide)]⟩
  · rintro _ _ _ ⟨ek, rfl, rfl, rfl⟩
    refine wa_i2l F dL_recall_10 rfl ?_
    refine wa_last F 1 rfl (hm_o (TC := TC) (X := (uRc v a b X)) (S := S) (o := o)) 0 rfl (by decide) (by decide) dL_recall_11 (hs_o ((rRc X v a b).toInt64)) ?_
    refine wa_goto (tgt := 23) F dL_recall_12 (by decide) ?_
    refine wa_iconst (v := 0) F dL_recall_23 (by decide) ?_
    refine wa_iret F rfl (Nat.le_of_ble_eq_true rfl) (Nat.le_of_ble_eq_true rfl) dL_recall_24 ?_
    exact ⟨by rw [ek], fun _ _ => rfl, by rw [ek, kU_0, kO_0]⟩
set_option maxHeartbeats 2000000 in
set_option maxRecDepth 20000 in
theorem c_L_act {l : Launch} (hst : l.stackTraces = false) (D : va_G) (TC : Nat → ClassId) (H0 : Heap) (ad : Nat → Nat) (X S : St) (o : Nat → Int64) (a : Int32) (b : Int32) (q : Int32) (d : Int32) (n : Nat) (hi : INV n X) : CCH l D (tysOf TC) H0 yL_act cL_act 7 (some .int) [(0, 14, 17, 13), (0, 14, 21, 15)] 8 1 6 [.ref 0, .int a, .int b, .int q, .int d, .ref 1] ad (hall TC X S o) (PN ad (hall TC X S o) (some (.int (kAct X a b q d))) (hall TC (kU (kAct X a b q d) (uAct a b q d) X) S (kO (kAct X a b q d) (rAct X) o))) (fun _ => False) := by
  refine cc_introH hst (by decide +kernel) (Nat.le_of_ble_eq_true rfl) ?_
  intro p e s m args below meth c F
  rw [show lv_args 0 [.ref 0, .int a, .int b, .int q, .int d, .ref 1] = [(0, .ref 0), (1, .int a), (2, .int b), (3, .int q), (4, .int d), (5, .ref 1)] from rfl]
  refine wa_aload F dL_act_0 5 rfl ?_
  refine wa_iconst (v := 0) F dL_act_2 (by decide) ?_
  refine wa_aload_n F dL_act_3 (i := 0) rfl 0 rfl ?_
  refine wa_iload_n F dL_act_4 (i := 1) rfl 1 rfl ?_
  refine wa_iload_n F dL_act_5 (i := 2) rfl 2 rfl ?_
  refine wa_iload_n F dL_act_6 (i := 3) rfl 3 rfl ?_
  refine wa_iload F dL_act_7 4 rfl ?_
  have nz0 : hall TC X S o 0 ≠ none := by rw [hm_c]; simp
  have nz1 : hall TC X S o 1 ≠ none := by rw [hm_o]; simp
  refine wa_callV F [.int 0, .ref 1] (c_X5_act hst D TC H0 ad X S o a b q d n hi) mw_X5_act ml_L_7 (hm_c (TC := TC) (X := X) (S := S) (o := o)) rfl rfl (Nat.le_of_ble_eq_true rfl) ⟨(Nat.le_of_ble_eq_true rfl), (Nat.le_of_ble_eq_true rfl)⟩ ⟨(Nat.le_of_ble_eq_true rfl), (Nat.le_of_ble_eq_true rfl)⟩ dL_act_9 (fun v a2 h2 z => PN_ag2 (by intro y hy; simp only [List.mem_cons, List.not_mem_nil, or_false] at hy; rcases hy with rfl | rfl | rfl | rfl | rfl | rfl <;> first | trivial | assumption) (by intro y hy; simp only [List.mem_cons, List.not_mem_nil, or_false] at hy; rcases hy with rfl | rfl <;> first | trivial | assumption) v a2 h2 z.2) ?_ ?_
  · intro E hE
    rcases hE with ⟨rfl, ek⟩ | ⟨rfl, ek⟩
    · skip
      refine wx_catch F (tableOf []) { startPc := 0, endPc := 14, handlerPc := 17, catchType := 13 } (tableOf [(0, 14, 21, 15)]) rfl (fun z hz => absurd hz List.not_mem_nil) (by decide) (by decide) cl_L_13 ca_IA 17 rfl ?_
      refine wa_drop F dL_act_17 (by decide) (lv' := [(0, .ref 0), (1, .int a), (2, .int b), (3, .int q), (4, .int d), (5, .ref 1)]) rfl ?_
      refine wa_iconst (v := 1) F dL_act_19 (by decide) ?_
      refine wa_iret F rfl (Nat.le_of_ble_eq_true rfl) (Nat.le_of_ble_eq_true rfl) dL_act_20 ?_
      exact ⟨by rw [ek], fun _ _ => rfl, by rw [ek, kU_n (by decide), kO_n (by decide)]⟩
    · skip
      refine wx_catch F (tableOf [(0, 14, 17, 13)]) { startPc := 0, endPc := 14, handlerPc := 21, catchType := 15 } (tableOf []) rfl (by intro z hz; simp only [tableOf, List.map_cons, List.map_nil, List.mem_cons, List.not_mem_nil, or_false] at hz; rcases hz with rfl; exact ⟨by decide, _, cl_L_13, by decide, by decide, by decide⟩) (by decide) (by decide) cl_L_15 ca_IS 21 rfl ?_
      refine wa_drop F dL_act_21 (by decide) (lv' := [(0, .ref 0), (1, .int a), (2, .int b), (3, .int q), (4, .int d), (5, .ref 1)]) rfl ?_
      refine wa_iconst (v := 2) F dL_act_23 (by decide) ?_
      refine wa_iret F rfl (Nat.le_of_ble_eq_true rfl) (Nat.le_of_ble_eq_true rfl) dL_act_24 ?_
      exact ⟨by rw [ek], fun _ _ => rfl, by rw [ek, kU_n (by decide), kO_n (by decide)]⟩
  · rintro _ ad2 _ ⟨ek, rfl, had, rfl⟩
    refine wa_i2l F dL_act_12 rfl ?_
    refine wa_last F 1 rfl (hm_o (TC := TC) (X := (uAct a b q d X)) (S := S) (o := o)) 0 rfl (by decide) (by decide) dL_act_13 (hs_o ((rAct X).toInt64)) ?_
    refine wa_goto (tgt := 25) F dL_act_14 (by decide) ?_
    refine wa_iconst (v := 0) F dL_act_25 (by decide) ?_
    refine wa_iret F rfl (Nat.le_of_ble_eq_true rfl) (Nat.le_of_ble_eq_true rfl) dL_act_26 ?_
    exact ⟨by rw [ek], had, by rw [ek, kU_0, kO_0]⟩
set_option maxHeartbeats 2000000 in
set_option maxRecDepth 20000 in
theorem c_L_standard {l : Launch} (hst : l.stackTraces = false) (D : va_G) (TC : Nat → ClassId) (H0 : Heap) (ad : Nat → Nat) (X S : St) (o : Nat → Int64) (a : Int32) (b : Int32) (n : Nat) (hi : INV n X) : CCH l D (tysOf TC) H0 yL_standard cL_standard 5 (some .int) [(0, 10, 13, 13), (0, 10, 17, 15)] 8 1 6 [.ref 0, .int a, .int b, .ref 1] ad (hall TC X S o) (PN ad (hall TC X S o) (some (.int (kStd X a b))) (hall TC (kU (kStd X a b) (uStd a b) X) S (kO (kStd X a b) (rStd X) o))) (fun _ => False) := by
  refine cc_introH hst (by decide +kernel) (Nat.le_of_ble_eq_true rfl) ?_
  intro p e s m args below meth c F
  rw [show lv_args 0 [.ref 0, .int a, .int b, .ref 1] = [(0, .ref 0), (1, .int a), (2, .int b), (3, .ref 1)] from rfl]
  refine wa_aload_n F dL_standard_0 (i := 3) rfl 3 rfl ?_
  refine wa_iconst (v := 0) F dL_standard_1 (by decide) ?_
  refine wa_aload_n F dL_standard_2 (i := 0) rfl 0 rfl ?_
  refine wa_iload_n F dL_standard_3 (i := 1) rfl 1 rfl ?_
  refine wa_iload_n F dL_standard_4 (i := 2) rfl 2 rfl ?_
  have nz0 : hall TC X S o 0 ≠ none := by rw [hm_c]; simp
  have nz1 : hall TC X S o 1 ≠ none := by rw [hm_o]; simp
  refine wa_callV F [.int 0, .ref 1] (c_X5_standard hst D TC H0 ad X S o a b n hi) mw_X5_standard ml_L_23 (hm_c (TC := TC) (X := X) (S := S) (o := o)) rfl rfl (Nat.le_of_ble_eq_true rfl) ⟨(Nat.le_of_ble_eq_true rfl), (Nat.le_of_ble_eq_true rfl)⟩ ⟨(Nat.le_of_ble_eq_true rfl), (Nat.le_of_ble_eq_true rfl)⟩ dL_standard_5 (fun v a2 h2 z => PN_ag2 (by intro y hy; simp only [List.mem_cons, List.not_mem_nil, or_false] at hy; rcases hy with rfl | rfl | rfl | rfl <;> first | trivial | assumption) (by intro y hy; simp only [List.mem_cons, List.not_mem_nil, or_false] at hy; rcases hy with rfl | rfl <;> first | trivial | assumption) v a2 h2 z.2) ?_ ?_
  · intro E hE
    rcases hE with ⟨rfl, ek⟩ | ⟨rfl, ek⟩
    · skip
      refine wx_catch F (tableOf []) { startPc := 0, endPc := 10, handlerPc := 13, catchType := 13 } (tableOf [(0, 10, 17, 15)]) rfl (fun z hz => absurd hz List.not_mem_nil) (by decide) (by decide) cl_L_13 ca_IA 13 rfl ?_
      refine wa_drop F dL_standard_13 (by decide) (lv' := [(0, .ref 0), (1, .int a), (2, .int b), (3, .ref 1)]) rfl ?_
      refine wa_iconst (v := 1) F dL_standard_15 (by decide) ?_
      refine wa_iret F rfl (Nat.le_of_ble_eq_true rfl) (Nat.le_of_ble_eq_true rfl) dL_standard_16 ?_
      exact ⟨by rw [ek], fun _ _ => rfl, by rw [ek, kU_n (by decide), kO_n (by decide)]⟩
    · skip
      refine wx_catch F (tableOf [(0, 10, 13, 13)]) { startPc := 0, endPc := 10, handlerPc := 17, catchType := 15 } (tableOf []) rfl (by intro z hz; simp only [tableOf, List.map_cons, List.map_nil, List.mem_cons, List.not_mem_nil, or_false] at hz; rcases hz with rfl; exact ⟨by decide, _, cl_L_13, by decide, by decide, by decide⟩) (by decide) (by decide) cl_L_15 ca_IS 17 rfl ?_
      refine wa_drop F dL_standard_17 (by decide) (lv' := [(0, .ref 0), (1, .int a), (2, .int b), (3, .ref 1)]) rfl ?_
      refine wa_iconst (v := 2) F dL_standard_19 (by decide) ?_
      refine wa_iret F rfl (Nat.le_of_ble_eq_true rfl) (Nat.le_of_ble_eq_true rfl) dL_standard_20 ?_
      exact ⟨by rw [ek], fun _ _ => rfl, by rw [ek, kU_n (by decide), kO_n (by decide)]⟩
  · rintro _ ad2 _ ⟨ek, rfl, had, rfl⟩
    refine wa_i2l F dL_standard_8 rfl ?_
    refine wa_last F 1 rfl (hm_o (TC := TC) (X := (uStd a b X)) (S := S) (o := o)) 0 rfl (by decide) (by decide) dL_standard_9 (hs_o ((rStd X).toInt64)) ?_
    refine wa_goto (tgt := 21) F dL_standard_10 (by decide) ?_
    refine wa_iconst (v := 0) F dL_standard_21 (by decide) ?_
    refine wa_iret F rfl (Nat.le_of_ble_eq_true rfl) (Nat.le_of_ble_eq_true rfl) dL_standard_22 ?_
    exact ⟨by rw [ek], had, by rw [ek, kU_0, kO_0]⟩
set_option maxHeartbeats 2000000 in
set_option maxRecDepth 20000 in
theorem c_L_body {l : Launch} (hst : l.stackTraces = false) (D : va_G) (TC : Nat → ClassId) (H0 : Heap) (ad : Nat → Nat) (X S : St) (o : Nat → Int64) (b : Int32) (n : Nat) (hi : INV n X) : CCH l D (tysOf TC) H0 yL_body cL_body 4 (some .int) [(0, 9, 12, 13), (0, 9, 15, 15)] 8 1 6 [.ref 0, .int b, .ref 1] ad (hall TC X S o) (PN ad (hall TC X S o) (some (.int (kBo X b))) (hall TC (kU (kBo X b) (uBo b) X) S (kO (kBo X b) (rBo X) o))) (fun _ => False) := by
  refine cc_introH hst (by decide +kernel) (Nat.le_of_ble_eq_true rfl) ?_
  intro p e s m args below meth c F
  rw [show lv_args 0 [.ref 0, .int b, .ref 1] = [(0, .ref 0), (1, .int b), (2, .ref 1)] from rfl]
  refine wa_aload_n F dL_body_0 (i := 2) rfl 2 rfl ?_
  refine wa_iconst (v := 0) F dL_body_1 (by decide) ?_
  refine wa_aload_n F dL_body_2 (i := 0) rfl 0 rfl ?_
  refine wa_iload_n F dL_body_3 (i := 1) rfl 1 rfl ?_
  have nz0 : hall TC X S o 0 ≠ none := by rw [hm_c]; simp
  have nz1 : hall TC X S o 1 ≠ none := by rw [hm_o]; simp
  refine wa_callV F [.int 0, .ref 1] (c_X5_body hst D TC H0 ad X S o b n hi) mw_X5_body ml_L_53 (hm_c (TC := TC) (X := X) (S := S) (o := o)) rfl rfl (Nat.le_of_ble_eq_true rfl) ⟨(Nat.le_of_ble_eq_true rfl), (Nat.le_of_ble_eq_true rfl)⟩ ⟨(Nat.le_of_ble_eq_true rfl), (Nat.le_of_ble_eq_true rfl)⟩ dL_body_4 (fun v a2 h2 z => PN_ag2 (by intro y hy; simp only [List.mem_cons, List.not_mem_nil, or_false] at hy; rcases hy with rfl | rfl | rfl <;> first | trivial | assumption) (by intro y hy; simp only [List.mem_cons, List.not_mem_nil, or_false] at hy; rcases hy with rfl | rfl <;> first | trivial | assumption) v a2 h2 z.2) ?_ ?_
  · intro E hE
    rcases hE with ⟨rfl, ek⟩ | ⟨rfl, ek⟩
    · skip
      refine wx_catch F (tableOf []) { startPc := 0, endPc := 9, handlerPc := 12, catchType := 13 } (tableOf [(0, 9, 15, 15)]) rfl (fun z hz => absurd hz List.not_mem_nil) (by decide) (by decide) cl_L_13 ca_IA 12 rfl ?_
      refine wa_drop_n F dL_body_12 (i := 3) rfl (by decide) (lv' := [(0, .ref 0), (1, .int b), (2, .ref 1)]) rfl ?_
      refine wa_iconst (v := 1) F dL_body_13 (by decide) ?_
      refine wa_iret F rfl (Nat.le_of_ble_eq_true rfl) (Nat.le_of_ble_eq_true rfl) dL_body_14 ?_
      exact ⟨by rw [ek], fun _ _ => rfl, by rw [ek, kU_n (by decide), kO_n (by decide)]⟩
    · skip
      refine wx_catch F (tableOf [(0, 9, 12, 13)]) { startPc := 0, endPc := 9, handlerPc := 15, catchType := 15 } (tableOf []) rfl (by intro z hz; simp only [tableOf, List.map_cons, List.map_nil, List.mem_cons, List.not_mem_nil, or_false] at hz; rcases hz with rfl; exact ⟨by decide, _, cl_L_13, by decide, by decide, by decide⟩) (by decide) (by decide) cl_L_15 ca_IS 15 rfl ?_
      refine wa_drop_n F dL_body_15 (i := 3) rfl (by decide) (lv' := [(0, .ref 0), (1, .int b), (2, .ref 1)]) rfl ?_
      refine wa_iconst (v := 2) F dL_body_16 (by decide) ?_
      refine wa_iret F rfl (Nat.le_of_ble_eq_true rfl) (Nat.le_of_ble_eq_true rfl) dL_body_17 ?_
      exact ⟨by rw [ek], fun _ _ => rfl, by rw [ek, kU_n (by decide), kO_n (by decide)]⟩
  · rintro _ ad2 _ ⟨ek, rfl, had, rfl⟩
    refine wa_i2l F dL_body_7 rfl ?_
    refine wa_last F 1 rfl (hm_o (TC := TC) (X := (uBo b X)) (S := S) (o := o)) 0 rfl (by decide) (by decide) dL_body_8 (hs_o ((rBo X).toInt64)) ?_
    refine wa_goto (tgt := 18) F dL_body_9 (by decide) ?_
    refine wa_iconst (v := 0) F dL_body_18 (by decide) ?_
    refine wa_iret F rfl (Nat.le_of_ble_eq_true rfl) (Nat.le_of_ble_eq_true rfl) dL_body_19 ?_
    exact ⟨by rw [ek], had, by rw [ek, kU_0, kO_0]⟩
set_option maxHeartbeats 2000000 in
set_option maxRecDepth 20000 in
theorem c_L_product {l : Launch} (hst : l.stackTraces = false) (D : va_G) (TC : Nat → ClassId) (H0 : Heap) (ad : Nat → Nat) (X S : St) (o : Nat → Int64) (b : Int32) (n : Nat) (hi : INV n X) : CCH l D (tysOf TC) H0 yL_product cL_product 4 (some .int) [(0, 9, 12, 13), (0, 9, 15, 15)] 8 4 39 [.ref 0, .int b, .ref 1] ad (hall TC X S o) (PN ad (hall TC X S o) (some (.int (kPr X b))) (hall TC (kU (kPr X b) (uPr b) X) S (kO (kPr X b) (rPr X) o))) (fun _ => False) := by
  refine cc_introH hst (by decide +kernel) (Nat.le_of_ble_eq_true rfl) ?_
  intro p e s m args below meth c F
  rw [show lv_args 0 [.ref 0, .int b, .ref 1] = [(0, .ref 0), (1, .int b), (2, .ref 1)] from rfl]
  refine wa_aload_n F dL_product_0 (i := 2) rfl 2 rfl ?_
  refine wa_iconst (v := 0) F dL_product_1 (by decide) ?_
  refine wa_aload_n F dL_product_2 (i := 0) rfl 0 rfl ?_
  refine wa_iload_n F dL_product_3 (i := 1) rfl 1 rfl ?_
  have nz0 : hall TC X S o 0 ≠ none := by rw [hm_c]; simp
  have nz1 : hall TC X S o 1 ≠ none := by rw [hm_o]; simp
  refine wa_callV F [.int 0, .ref 1] (c_X5_product hst D TC H0 ad X S o b n hi) mw_X5_product ml_L_33 (hm_c (TC := TC) (X := X) (S := S) (o := o)) rfl rfl (Nat.le_of_ble_eq_true rfl) ⟨(Nat.le_of_ble_eq_true rfl), (Nat.le_of_ble_eq_true rfl)⟩ ⟨(Nat.le_of_ble_eq_true rfl), (Nat.le_of_ble_eq_true rfl)⟩ dL_product_4 (fun v a2 h2 z => PN_ag2 (by intro y hy; simp only [List.mem_cons, List.not_mem_nil, or_false] at hy; rcases hy with rfl | rfl | rfl <;> first | trivial | assumption) (by intro y hy; simp only [List.mem_cons, List.not_mem_nil, or_false] at hy; rcases hy with rfl | rfl <;> first | trivial | assumption) v a2 h2 z.2) ?_ ?_
  · intro E hE
    rcases hE with ⟨rfl, ek⟩ | ⟨rfl, ek⟩
    · skip
      refine wx_catch F (tableOf []) { startPc := 0, endPc := 9, handlerPc := 12, catchType := 13 } (tableOf [(0, 9, 15, 15)]) rfl (fun z hz => absurd hz List.not_mem_nil) (by decide) (by decide) cl_L_13 ca_IA 12 rfl ?_
      refine wa_drop_n F dL_product_12 (i := 3) rfl (by decide) (lv' := [(0, .ref 0), (1, .int b), (2, .ref 1)]) rfl ?_
      refine wa_iconst (v := 1) F dL_product_13 (by decide) ?_
      refine wa_iret F rfl (Nat.le_of_ble_eq_true rfl) (Nat.le_of_ble_eq_true rfl) dL_product_14 ?_
      exact ⟨by rw [ek], fun _ _ => rfl, by rw [ek, kU_n (by decide), kO_n (by decide)]⟩
    · skip
      refine wx_catch F (tableOf [(0, 9, 12, 13)]) { startPc := 0, endPc := 9, handlerPc := 15, catchType := 15 } (tableOf []) rfl (by intro z hz; simp only [tableOf, List.map_cons, List.map_nil, List.mem_cons, List.not_mem_nil, or_false] at hz; rcases hz with rfl; exact ⟨by decide, _, cl_L_13, by decide, by decide, by decide⟩) (by decide) (by decide) cl_L_15 ca_IS 15 rfl ?_
      refine wa_drop_n F dL_product_15 (i := 3) rfl (by decide) (lv' := [(0, .ref 0), (1, .int b), (2, .ref 1)]) rfl ?_
      refine wa_iconst (v := 2) F dL_product_16 (by decide) ?_
      refine wa_iret F rfl (Nat.le_of_ble_eq_true rfl) (Nat.le_of_ble_eq_true rfl) dL_product_17 ?_
      exact ⟨by rw [ek], fun _ _ => rfl, by rw [ek, kU_n (by decide), kO_n (by decide)]⟩
  · rintro _ ad2 _ ⟨ek, rfl, had, rfl⟩
    refine wa_i2l F dL_product_7 rfl ?_
    refine wa_last F 1 rfl (hm_o (TC := TC) (X := (uPr b X)) (S := S) (o := o)) 0 rfl (by decide) (by decide) dL_product_8 (hs_o ((rPr X).toInt64)) ?_
    refine wa_goto (tgt := 18) F dL_product_9 (by decide) ?_
    refine wa_iconst (v := 0) F dL_product_18 (by decide) ?_
    refine wa_iret F rfl (Nat.le_of_ble_eq_true rfl) (Nat.le_of_ble_eq_true rfl) dL_product_19 ?_
    exact ⟨by rw [ek], had, by rw [ek, kU_0, kO_0]⟩
set_option maxHeartbeats 2000000 in
set_option maxRecDepth 20000 in
theorem c_L_place {l : Launch} (hst : l.stackTraces = false) (D : va_G) (TC : Nat → ClassId) (H0 : Heap) (ad : Nat → Nat) (X S : St) (o : Nat → Int64) (v : Int32) (b : Int32) (n : Nat) (hi : INV n X) : CCH l D (tysOf TC) H0 yL_place cL_place 5 (some .int) [(0, 10, 13, 21), (0, 10, 17, 13), (0, 10, 21, 15)] 8 1 9 [.ref 0, .int v, .int b, .ref 1] ad (hall TC X S o) (PN ad (hall TC X S o) (some (.int (kPl X v b))) (hall TC (kU (kPl X v b) (uPl v b) X) S (kO (kPl X v b) (rPl X) o))) (fun _ => False) := by
  refine cc_introH hst (by decide +kernel) (Nat.le_of_ble_eq_true rfl) ?_
  intro p e s m args below meth c F
  rw [show lv_args 0 [.ref 0, .int v, .int b, .ref 1] = [(0, .ref 0), (1, .int v), (2, .int b), (3, .ref 1)] from rfl]
  refine wa_aload_n F dL_place_0 (i := 3) rfl 3 rfl ?_
  refine wa_iconst (v := 0) F dL_place_1 (by decide) ?_
  refine wa_aload_n F dL_place_2 (i := 0) rfl 0 rfl ?_
  refine wa_iload_n F dL_place_3 (i := 1) rfl 1 rfl ?_
  refine wa_iload_n F dL_place_4 (i := 2) rfl 2 rfl ?_
  have nz0 : hall TC X S o 0 ≠ none := by rw [hm_c]; simp
  have nz1 : hall TC X S o 1 ≠ none := by rw [hm_o]; simp
  refine wa_callV F [.int 0, .ref 1] (c_X5_place hst D TC H0 ad X S o v b n hi) mw_X5_place ml_L_69 (hm_c (TC := TC) (X := X) (S := S) (o := o)) rfl rfl (Nat.le_of_ble_eq_true rfl) ⟨(Nat.le_of_ble_eq_true rfl), (Nat.le_of_ble_eq_true rfl)⟩ ⟨(Nat.le_of_ble_eq_true rfl), (Nat.le_of_ble_eq_true rfl)⟩ dL_place_5 (fun v a2 h2 z => PN_ag2 (by intro y hy; simp only [List.mem_cons, List.not_mem_nil, or_false] at hy; rcases hy with rfl | rfl | rfl | rfl <;> first | trivial | assumption) (by intro y hy; simp only [List.mem_cons, List.not_mem_nil, or_false] at hy; rcases hy with rfl | rfl <;> first | trivial | assumption) v a2 h2 z.2) ?_ ?_
  · intro E hE
    rcases hE with ⟨rfl, ek⟩ | ⟨rfl, ek⟩ | ⟨rfl, ek⟩
    · skip
      refine wx_catch F (tableOf []) { startPc := 0, endPc := 10, handlerPc := 13, catchType := 21 } (tableOf [(0, 10, 17, 13), (0, 10, 21, 15)]) rfl (fun z hz => absurd hz List.not_mem_nil) (by decide) (by decide) cl_L_21 ca_IO 13 rfl ?_
      refine wa_drop F dL_place_13 (by decide) (lv' := [(0, .ref 0), (1, .int v), (2, .int b), (3, .ref 1)]) rfl ?_
      refine wa_iconst (v := 1) F dL_place_15 (by decide) ?_
      refine wa_iret F rfl (Nat.le_of_ble_eq_true rfl) (Nat.le_of_ble_eq_true rfl) dL_place_16 ?_
      exact ⟨by rw [ek], fun _ _ => rfl, by rw [ek, kU_n (by decide), kO_n (by decide)]⟩
    · skip
      refine wx_catch F (tableOf [(0, 10, 13, 21)]) { startPc := 0, endPc := 10, handlerPc := 17, catchType := 13 } (tableOf [(0, 10, 21, 15)]) rfl (by intro z hz; simp only [tableOf, List.map_cons, List.map_nil, List.mem_cons, List.not_mem_nil, or_false] at hz; rcases hz with rfl; exact ⟨by decide, _, cl_L_21, by decide, by decide, by decide⟩) (by decide) (by decide) cl_L_13 ca_IA 17 rfl ?_
      refine wa_drop F dL_place_17 (by decide) (lv' := [(0, .ref 0), (1, .int v), (2, .int b), (3, .ref 1)]) rfl ?_
      refine wa_iconst (v := 2) F dL_place_19 (by decide) ?_
      refine wa_iret F rfl (Nat.le_of_ble_eq_true rfl) (Nat.le_of_ble_eq_true rfl) dL_place_20 ?_
      exact ⟨by rw [ek], fun _ _ => rfl, by rw [ek, kU_n (by decide), kO_n (by decide)]⟩
    · skip
      refine wx_catch F (tableOf [(0, 10, 13, 21), (0, 10, 17, 13)]) { startPc := 0, endPc := 10, handlerPc := 21, catchType := 15 } (tableOf []) rfl (by intro z hz; simp only [tableOf, List.map_cons, List.map_nil, List.mem_cons, List.not_mem_nil, or_false] at hz; rcases hz with rfl | rfl <;> first | exact ⟨by decide, _, cl_L_21, by decide, by decide, by decide⟩ | exact ⟨by decide, _, cl_L_13, by decide, by decide, by decide⟩) (by decide) (by decide) cl_L_15 ca_IS 21 rfl ?_
      refine wa_drop F dL_place_21 (by decide) (lv' := [(0, .ref 0), (1, .int v), (2, .int b), (3, .ref 1)]) rfl ?_
      refine wa_iconst (v := 3) F dL_place_23 (by decide) ?_
      refine wa_iret F rfl (Nat.le_of_ble_eq_true rfl) (Nat.le_of_ble_eq_true rfl) dL_place_24 ?_
      exact ⟨by rw [ek], fun _ _ => rfl, by rw [ek, kU_n (by decide), kO_n (by decide)]⟩
  · rintro _ ad2 _ ⟨ek, rfl, had, rfl⟩
    refine wa_i2l F dL_place_8 rfl ?_
    refine wa_last F 1 rfl (hm_o (TC := TC) (X := (uPl v b X)) (S := S) (o := o)) 0 rfl (by decide) (by decide) dL_place_9 (hs_o ((rPl X).toInt64)) ?_
    refine wa_goto (tgt := 25) F dL_place_10 (by decide) ?_
    refine wa_iconst (v := 0) F dL_place_25 (by decide) ?_
    refine wa_iret F rfl (Nat.le_of_ble_eq_true rfl) (Nat.le_of_ble_eq_true rfl) dL_place_26 ?_
    exact ⟨by rw [ek], had, by rw [ek, kU_0, kO_0]⟩
set_option maxHeartbeats 2000000 in
set_option maxRecDepth 20000 in
theorem c_L_post {l : Launch} (hst : l.stackTraces = false) (D : va_G) (TC : Nat → ClassId) (H0 : Heap) (ad : Nat → Nat) (X S : St) (o : Nat → Int64) (v : Int32) (b : Int32) (n : Nat) (hi : INV n X) : CCH l D (tysOf TC) H0 yL_post cL_post 5 (some .int) [(0, 10, 13, 21), (0, 10, 17, 13), (0, 10, 21, 15)] 8 1 9 [.ref 0, .int v, .int b, .ref 1] ad (hall TC X S o) (PN ad (hall TC X S o) (some (.int (kPo X v b))) (hall TC (kU (kPo X v b) (uPo v b) X) S (kO (kPo X v b) (rPl X) o))) (fun _ => False) := by
  refine cc_introH hst (by decide +kernel) (Nat.le_of_ble_eq_true rfl) ?_
  intro p e s m args below meth c F
  rw [show lv_args 0 [.ref 0, .int v, .int b, .ref 1] = [(0, .ref 0), (1, .int v), (2, .int b), (3, .ref 1)] from rfl]
  refine wa_aload_n F dL_post_0 (i := 3) rfl 3 rfl ?_
  refine wa_iconst (v := 0) F dL_post_1 (by decide) ?_
  refine wa_aload_n F dL_post_2 (i := 0) rfl 0 rfl ?_
  refine wa_iload_n F dL_post_3 (i := 1) rfl 1 rfl ?_
  refine wa_iload_n F dL_post_4 (i := 2) rfl 2 rfl ?_
  have nz0 : hall TC X S o 0 ≠ none := by rw [hm_c]; simp
  have nz1 : hall TC X S o 1 ≠ none := by rw [hm_o]; simp
  refine wa_callV F [.int 0, .ref 1] (c_X5_post hst D TC H0 ad X S o v b n hi) mw_X5_post ml_L_72 (hm_c (TC := TC) (X := X) (S := S) (o := o)) rfl rfl (Nat.le_of_ble_eq_true rfl) ⟨(Nat.le_of_ble_eq_true rfl), (Nat.le_of_ble_eq_true rfl)⟩ ⟨(Nat.le_of_ble_eq_true rfl), (Nat.le_of_ble_eq_true rfl)⟩ dL_post_5 (fun v a2 h2 z => PN_ag2 (by intro y hy; simp only [List.mem_cons, List.not_mem_nil, or_false] at hy; rcases hy with rfl | rfl | rfl | rfl <;> first | trivial | assumption) (by intro y hy; simp only [List.mem_cons, List.not_mem_nil, or_false] at hy; rcases hy with rfl | rfl <;> first | trivial | assumption) v a2 h2 z.2) ?_ ?_
  · intro E hE
    rcases hE with ⟨rfl, ek⟩ | ⟨rfl, ek⟩ | ⟨rfl, ek⟩
    · skip
      refine wx_catch F (tableOf []) { startPc := 0, endPc := 10, handlerPc := 13, catchType := 21 } (tableOf [(0, 10, 17, 13), (0, 10, 21, 15)]) rfl (fun z hz => absurd hz List.not_mem_nil) (by decide) (by decide) cl_L_21 ca_IO 13 rfl ?_
      refine wa_drop F dL_post_13 (by decide) (lv' := [(0, .ref 0), (1, .int v), (2, .int b), (3, .ref 1)]) rfl ?_
      refine wa_iconst (v := 1) F dL_post_15 (by decide) ?_
      refine wa_iret F rfl (Nat.le_of_ble_eq_true rfl) (Nat.le_of_ble_eq_true rfl) dL_post_16 ?_
      exact ⟨by rw [ek], fun _ _ => rfl, by rw [ek, kU_n (by decide), kO_n (by decide)]⟩
    · skip
      refine wx_catch F (tableOf [(0, 10, 13, 21)]) { startPc := 0, endPc := 10, handlerPc := 17, catchType := 13 } (tableOf [(0, 10, 21, 15)]) rfl (by intro z hz; simp only [tableOf, List.map_cons, List.map_nil, List.mem_cons, List.not_mem_nil, or_false] at hz; rcases hz with rfl; exact ⟨by decide, _, cl_L_21, by decide, by decide, by decide⟩) (by decide) (by decide) cl_L_13 ca_IA 17 rfl ?_
      refine wa_drop F dL_post_17 (by decide) (lv' := [(0, .ref 0), (1, .int v), (2, .int b), (3, .ref 1)]) rfl ?_
      refine wa_iconst (v := 2) F dL_post_19 (by decide) ?_
      refine wa_iret F rfl (Nat.le_of_ble_eq_true rfl) (Nat.le_of_ble_eq_true rfl) dL_post_20 ?_
      exact ⟨by rw [ek], fun _ _ => rfl, by rw [ek, kU_n (by decide), kO_n (by decide)]⟩
    · skip
      refine wx_catch F (tableOf [(0, 10, 13, 21), (0, 10, 17, 13)]) { startPc := 0, endPc := 10, handlerPc := 21, catchType := 15 } (tableOf []) rfl (by intro z hz; simp only [tableOf, List.map_cons, List.map_nil, List.mem_cons, List.not_mem_nil, or_false] at hz; rcases hz with rfl | rfl <;> first | exact ⟨by decide, _, cl_L_21, by decide, by decide, by decide⟩ | exact ⟨by decide, _, cl_L_13, by decide, by decide, by decide⟩) (by decide) (by decide) cl_L_15 ca_IS 21 rfl ?_
      refine wa_drop F dL_post_21 (by decide) (lv' := [(0, .ref 0), (1, .int v), (2, .int b), (3, .ref 1)]) rfl ?_
      refine wa_iconst (v := 3) F dL_post_23 (by decide) ?_
      refine wa_iret F rfl (Nat.le_of_ble_eq_true rfl) (Nat.le_of_ble_eq_true rfl) dL_post_24 ?_
      exact ⟨by rw [ek], fun _ _ => rfl, by rw [ek, kU_n (by decide), kO_n (by decide)]⟩
  · rintro _ ad2 _ ⟨ek, rfl, had, rfl⟩
    refine wa_i2l F dL_post_8 rfl ?_
    refine wa_last F 1 rfl (hm_o (TC := TC) (X := (uPo v b X)) (S := S) (o := o)) 0 rfl (by decide) (by decide) dL_post_9 (hs_o ((rPl X).toInt64)) ?_
    refine wa_goto (tgt := 25) F dL_post_10 (by decide) ?_
    refine wa_iconst (v := 0) F dL_post_25 (by decide) ?_
    refine wa_iret F rfl (Nat.le_of_ble_eq_true rfl) (Nat.le_of_ble_eq_true rfl) dL_post_26 ?_
    exact ⟨by rw [ek], had, by rw [ek, kU_0, kO_0]⟩
