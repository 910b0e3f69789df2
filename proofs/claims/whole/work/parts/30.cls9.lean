theorem ne_nat {a b : Nat} (h : ¬ a = b) : ¬ a = b := h
theorem all_nl {n : Nat} {l : List (Nat × Value)} (h : l.all (fun v => nref n v.2) = true) : ∀ v ∈ l, v.2 ≠ .ref n := fun v hv z => by
  have := List.all_eq_true.mp h v hv
  rw [z] at this
  simp [nref] at this
theorem all_ns {n : Nat} {l : List Value} (h : l.all (nref n) = true) : ∀ v ∈ l, v ≠ .ref n := fun v hv z => by
  have := List.all_eq_true.mp h v hv
  rw [z] at this
  simp [nref] at this
def okR (h : Hp) : Value → Prop
  | .ref a => h a ≠ none
  | _ => True
theorem PN_ag2 {ad : Nat → Nat} {h : Hp} {r : Option Value} {h1 : Hp} {lv : List (Nat × Value)} {rest : List Value} (hl : ∀ x ∈ lv, okR h x.2) (hr : ∀ x ∈ rest, okR h x) : ∀ v ad' h', PN ad h r h1 v ad' h' → lv.map (cL ad') = lv.map (cL ad) ∧ rest.map (cV ad') = rest.map (cV ad) :=
  PN_ag (fun x hx n e => by have := hl x hx; rw [e] at this; exact this) (fun x hx n e => by have := hr x hx; rw [e] at this; exact this)
set_option maxHeartbeats 2000000 in
set_option maxRecDepth 20000 in
theorem c_X3_init {l : Launch} (hst : l.stackTraces = false) (D : va_G) (TC : Nat → ClassId) (H0 : Heap) (ad : Nat → Nat) (X S : St) (o : Nat → Int64) (h0 : Hp) (x r1 r2 r3 : Nat) (n1 : h0 r1 = none) (n2 : h0 r2 = none) (n3 : h0 r3 = none) (d1 : ¬ x = r1) (d2 : ¬ x = r2) (d3 : ¬ x = r3) (e12 : ¬ r1 = r2) (e13 : ¬ r1 = r3) (e23 : ¬ r2 = r3) (q1 : noRef h0 r1) (q2 : noRef h0 r2) (q3 : noRef h0 r3) (b : Int32) : CC l D (tysOf TC) H0 yX3_init cX3_init 2 none 1 3 28 [.ref x, .int b] ad (va_up h0 x (some (.inr (3, [.null, .null, .null, .int 0, .int 0, .int 0, .int 0, .null, .int 0, .int 0, .int 0])))) (PN ad (va_up h0 x (some (.inr (3, [.null, .null, .null, .int 0, .int 0, .int 0, .int 0, .null, .int 0, .int 0, .int 0])))) none (va_up (va_up (va_up (va_up h0 r1 (some (.inl (TC 0, 8, .inl (fun _ => 0))))) r2 (some (.inl (TC 0, 8, .inl (fun _ => 0))))) r3 (some (.inl (TC 0, 12, .inl (fun _ => 0))))) x (some (.inr (3, [.ref r1, .ref r2, .ref r3, .int b, .int 0, .int 0, .int (-1), .null, .int (-1), .int (-1), .int 0]))))) (fun _ => False) := by
  refine cc_intro hst (by decide +kernel) (Nat.le_of_ble_eq_true rfl) ?_
  intro p e s m args below meth c F
  rw [show lv_args 0 [.ref x, .int b] = [(0, .ref x), (1, .int b)] from rfl]
  refine wa_aload_n F dX3_init_0 (i := 0) rfl 0 rfl ?_
  refine wa_objInit F ml_X3_3 w_oi1 w_oi2 ⟨Nat.le_of_ble_eq_true rfl, Nat.le_of_ble_eq_true rfl⟩ (Nat.le_of_ble_eq_true rfl) dX3_init_1 ?_
  refine wa_aload_n F dX3_init_4 (i := 0) rfl 0 rfl ?_
  refine wa_iload_n F dX3_init_5 (i := 1) rfl 1 rfl ?_
  refine wa_putf F LY_X3 (va_up_at h0 x (some (.inr (3, [.null, .null, .null, .int 0, .int 0, .int 0, .int 0, .null, .int 0, .int 0, .int 0])))) 3 (by decide) fl_X3_9 rfl rfl rfl (Nat.le_of_ble_eq_true rfl) dX3_init_6 (h' := va_up h0 x (some (.inr (3, [.null, .null, .null, .int b, .int 0, .int 0, .int 0, .null, .int 0, .int 0, .int 0])))) (va_up_up _ _ _ _) ?_
  refine wa_aload_n F dX3_init_9 (i := 0) rfl 0 rfl ?_
  refine wa_bipush (v := 8) F dX3_init_10 (by decide) ?_
  refine wa_newa F 0 rfl .int rfl rfl r1 ac_int ((vup_ne _ _ (Ne.symm d1)).trans n1) (nr_up q1 (fr_obj (by simp [nref, ]))) (N0 := 8) (a0 := (8, .inl (fun _ => 0))) (fun _ => rfl) (fun _ => rfl) rfl (by decide) (by decide) (Nat.le_of_ble_eq_true rfl) (Nat.le_of_ble_eq_true rfl) (all_nl (by simp [nref, d1])) (all_ns (by simp [nref, d1])) dX3_init_12 (h' := va_up (va_up h0 r1 (some (.inl (TC 0, 8, .inl (fun _ => 0))))) x (some (.inr (3, [.null, .null, .null, .int b, .int 0, .int 0, .int 0, .null, .int 0, .int 0, .int 0])))) (va_up_comm _ _ _ d1) (fun w1 => ?_)
  refine wa_putF F rfl rfl LY_X3 (va_up_at (va_up h0 r1 (some (.inl (TC 0, 8, .inl (fun _ => 0))))) x (some (.inr (3, [.null, .null, .null, .int b, .int 0, .int 0, .int 0, .null, .int 0, .int 0, .int 0])))) 0 (by decide) fl_X3_15 rfl rfl rfl (Nat.le_of_ble_eq_true rfl) dX3_init_14 (h' := va_up (va_up h0 r1 (some (.inl (TC 0, 8, .inl (fun _ => 0))))) x (some (.inr (3, [.ref r1, .null, .null, .int b, .int 0, .int 0, .int 0, .null, .int 0, .int 0, .int 0])))) (va_up_up _ _ _ _) ?_
  refine wa_aload_n F dX3_init_17 (i := 0) rfl 0 rfl ?_
  refine wa_bipush (v := 8) F dX3_init_18 (by decide) ?_
  refine wa_newa F 0 rfl .int rfl rfl r2 ac_int ((vup_ne _ _ (Ne.symm d2)).trans ((vup_ne _ _ (Ne.symm e12)).trans n2)) (nr_up (nr_up q2 fr_int) (fr_obj (by simp [nref, e12]))) (N0 := 8) (a0 := (8, .inl (fun _ => 0))) (fun _ => rfl) (fun _ => rfl) rfl (by decide) (by decide) (Nat.le_of_ble_eq_true rfl) (Nat.le_of_ble_eq_true rfl) (all_nl (by simp [nref, d2])) (all_ns (by simp [nref, d2])) dX3_init_20 (h' := va_up (va_up (va_up h0 r1 (some (.inl (TC 0, 8, .inl (fun _ => 0))))) r2 (some (.inl (TC 0, 8, .inl (fun _ => 0))))) x (some (.inr (3, [.ref r1, .null, .null, .int b, .int 0, .int 0, .int 0, .null, .int 0, .int 0, .int 0])))) (va_up_comm _ _ _ d2) (fun w2 => ?_)
  refine wa_putF F rfl rfl LY_X3 (va_up_at (va_up (va_up h0 r1 (some (.inl (TC 0, 8, .inl (fun _ => 0))))) r2 (some (.inl (TC 0, 8, .inl (fun _ => 0))))) x (some (.inr (3, [.ref r1, .null, .null, .int b, .int 0, .int 0, .int 0, .null, .int 0, .int 0, .int 0])))) 1 (by decide) fl_X3_19 rfl rfl rfl (Nat.le_of_ble_eq_true rfl) dX3_init_22 (h' := va_up (va_up (va_up h0 r1 (some (.inl (TC 0, 8, .inl (fun _ => 0))))) r2 (some (.inl (TC 0, 8, .inl (fun _ => 0))))) x (some (.inr (3, [.ref r1, .ref r2, .null, .int b, .int 0, .int 0, .int 0, .null, .int 0, .int 0, .int 0])))) (va_up_up _ _ _ _) ?_
  refine wa_aload_n F dX3_init_25 (i := 0) rfl 0 rfl ?_
  refine wa_bipush (v := 12) F dX3_init_26 (by decide) ?_
  refine wa_newa F 0 rfl .int rfl rfl r3 ac_int ((vup_ne _ _ (Ne.symm d3)).trans ((vup_ne _ _ (Ne.symm e23)).trans ((vup_ne _ _ (Ne.symm e13)).trans n3))) (nr_up (nr_up (nr_up q3 fr_int) fr_int) (fr_obj (by simp [nref, e13, e23]))) (N0 := 12) (a0 := (12, .inl (fun _ => 0))) (fun _ => rfl) (fun _ => rfl) rfl (by decide) (by decide) (Nat.le_of_ble_eq_true rfl) (Nat.le_of_ble_eq_true rfl) (all_nl (by simp [nref, d3])) (all_ns (by simp [nref, d3])) dX3_init_28 (h' := va_up (va_up (va_up (va_up h0 r1 (some (.inl (TC 0, 8, .inl (fun _ => 0))))) r2 (some (.inl (TC 0, 8, .inl (fun _ => 0))))) r3 (some (.inl (TC 0, 12, .inl (fun _ => 0))))) x (some (.inr (3, [.ref r1, .ref r2, .null, .int b, .int 0, .int 0, .int 0, .null, .int 0, .int 0, .int 0])))) (va_up_comm _ _ _ d3) (fun w3 => ?_)
  refine wa_putF F rfl rfl LY_X3 (va_up_at (va_up (va_up (va_up h0 r1 (some (.inl (TC 0, 8, .inl (fun _ => 0))))) r2 (some (.inl (TC 0, 8, .inl (fun _ => 0))))) r3 (some (.inl (TC 0, 12, .inl (fun _ => 0))))) x (some (.inr (3, [.ref r1, .ref r2, .null, .int b, .int 0, .int 0, .int 0, .null, .int 0, .int 0, .int 0])))) 2 (by decide) fl_X3_22 rfl rfl rfl (Nat.le_of_ble_eq_true rfl) dX3_init_30 (h' := va_up (va_up (va_up (va_up h0 r1 (some (.inl (TC 0, 8, .inl (fun _ => 0))))) r2 (some (.inl (TC 0, 8, .inl (fun _ => 0))))) r3 (some (.inl (TC 0, 12, .inl (fun _ => 0))))) x (some (.inr (3, [.ref r1, .ref r2, .ref r3, .int b, .int 0, .int 0, .int 0, .null, .int 0, .int 0, .int 0])))) (va_up_up _ _ _ _) ?_
  refine wa_aload_n F dX3_init_33 (i := 0) rfl 0 rfl ?_
  refine wa_iconst (v := (-1)) F dX3_init_34 (by decide) ?_
  refine wa_putf F LY_X3 (va_up_at (va_up (va_up (va_up h0 r1 (some (.inl (TC 0, 8, .inl (fun _ => 0))))) r2 (some (.inl (TC 0, 8, .inl (fun _ => 0))))) r3 (some (.inl (TC 0, 12, .inl (fun _ => 0))))) x (some (.inr (3, [.ref r1, .ref r2, .ref r3, .int b, .int 0, .int 0, .int 0, .null, .int 0, .int 0, .int 0])))) 6 (by decide) fl_X3_25 rfl rfl rfl (Nat.le_of_ble_eq_true rfl) dX3_init_35 (h' := va_up (va_up (va_up (va_up h0 r1 (some (.inl (TC 0, 8, .inl (fun _ => 0))))) r2 (some (.inl (TC 0, 8, .inl (fun _ => 0))))) r3 (some (.inl (TC 0, 12, .inl (fun _ => 0))))) x (some (.inr (3, [.ref r1, .ref r2, .ref r3, .int b, .int 0, .int 0, .int (-1), .null, .int 0, .int 0, .int 0])))) (va_up_up _ _ _ _) ?_
  refine wa_aload_n F dX3_init_38 (i := 0) rfl 0 rfl ?_
  refine wa_iconst (v := (-1)) F dX3_init_39 (by decide) ?_
  refine wa_putf F LY_X3 (va_up_at (va_up (va_up (va_up h0 r1 (some (.inl (TC 0, 8, .inl (fun _ => 0))))) r2 (some (.inl (TC 0, 8, .inl (fun _ => 0))))) r3 (some (.inl (TC 0, 12, .inl (fun _ => 0))))) x (some (.inr (3, [.ref r1, .ref r2, .ref r3, .int b, .int 0, .int 0, .int (-1), .null, .int 0, .int 0, .int 0])))) 8 (by decide) fl_X3_28 rfl rfl rfl (Nat.le_of_ble_eq_true rfl) dX3_init_40 (h' := va_up (va_up (va_up (va_up h0 r1 (some (.inl (TC 0, 8, .inl (fun _ => 0))))) r2 (some (.inl (TC 0, 8, .inl (fun _ => 0))))) r3 (some (.inl (TC 0, 12, .inl (fun _ => 0))))) x (some (.inr (3, [.ref r1, .ref r2, .ref r3, .int b, .int 0, .int 0, .int (-1), .null, .int (-1), .int 0, .int 0])))) (va_up_up _ _ _ _) ?_
  refine wa_aload_n F dX3_init_43 (i := 0) rfl 0 rfl ?_
  refine wa_iconst (v := (-1)) F dX3_init_44 (by decide) ?_
  refine wa_putf F LY_X3 (va_up_at (va_up (va_up (va_up h0 r1 (some (.inl (TC 0, 8, .inl (fun _ => 0))))) r2 (some (.inl (TC 0, 8, .inl (fun _ => 0))))) r3 (some (.inl (TC 0, 12, .inl (fun _ => 0))))) x (some (.inr (3, [.ref r1, .ref r2, .ref r3, .int b, .int 0, .int 0, .int (-1), .null, .int (-1), .int 0, .int 0])))) 9 (by decide) fl_X3_31 rfl rfl rfl (Nat.le_of_ble_eq_true rfl) dX3_init_45 (h' := va_up (va_up (va_up (va_up h0 r1 (some (.inl (TC 0, 8, .inl (fun _ => 0))))) r2 (some (.inl (TC 0, 8, .inl (fun _ => 0))))) r3 (some (.inl (TC 0, 12, .inl (fun _ => 0))))) x (some (.inr (3, [.ref r1, .ref r2, .ref r3, .int b, .int 0, .int 0, .int (-1), .null, .int (-1), .int (-1), .int 0])))) (va_up_up _ _ _ _) ?_
  refine wa_vret F (Nat.le_of_ble_eq_true rfl) (Nat.le_of_ble_eq_true rfl) dX3_init_48 ?_
  refine ⟨rfl, fun n hn => ?_, rfl⟩
  have g : ∀ r, h0 r = none → ¬ x = r → ¬ n = r := fun r z1 z2 z3 => hn (by rw [z3]; exact (vup_ne _ _ (Ne.symm z2)).trans z1)
  exact (if_neg (g r3 n3 d3)).trans ((if_neg (g r2 n2 d2)).trans (if_neg (g r1 n1 d1)))
set_option maxHeartbeats 2000000 in
set_option maxRecDepth 20000 in
theorem c_X5_act {l : Launch} (hst : l.stackTraces = false) (D : va_G) (TC : Nat → ClassId) (H0 : Heap) (ad : Nat → Nat) (X S : St) (o : Nat → Int64) (a : Int32) (b : Int32) (q : Int32) (d : Int32) (n : Nat) (hi : INV n X) : CC l D (tysOf TC) H0 yX5_act cX5_act 5 (some .int) 7 1 6 [.ref 0, .int a, .int b, .int q, .int d] ad (hall TC X S o) (PKN (kAct X a b q d) ad (hall TC X S o) (some (.int (rAct X))) (hall TC (uAct a b q d X) S o)) (fun E => (E = "java/lang/IllegalArgumentException" ∧ kAct X a b q d = 1) ∨ (E = "java/lang/IllegalStateException" ∧ kAct X a b q d = 2)) := by
  refine cc_intro hst (by decide +kernel) (Nat.le_of_ble_eq_true rfl) ?_
  intro p e s m args below meth c F
  rw [show lv_args 0 [.ref 0, .int a, .int b, .int q, .int d] = [(0, .ref 0), (1, .int a), (2, .int b), (3, .int q), (4, .int d)] from rfl]
  obtain ⟨hc, hs, hpp, hd0, hmm, h7, h8, hbo, hu0, hvr⟩ := id hi
  obtain ⟨hvh, hday, hclo, h5, h12, h21, hze, h24, hrk, hbz⟩ := hvr
  have hb2 := hc.2; have hb9 := hs.2; have hb13 := hpp.2; have hb25 := hd0.2; have hb28 := hmm.2
  refine wa_iload_n F dX5_act_0 (i := 1) rfl 1 rfl ?_
  refine wa_iconst (v := 1) F dX5_act_1 (by decide) ?_
  refine wa_sipush (v := 255) F dX5_act_2 (by decide) ?_
  by_cases c5 : sIn a 1 255 = true
  · skip
    refine wa_callS F [] (c_X5_checkRange_ok hst D (tysOf TC) H0 ad (hall TC X S o) a 1 255 c5) mw_X5_checkRange ml_X5_39 rfl (Nat.le_of_ble_eq_true rfl) ⟨(Nat.le_of_ble_eq_true rfl), (Nat.le_of_ble_eq_true rfl)⟩ ⟨(Nat.le_of_ble_eq_true rfl), (Nat.le_of_ble_eq_true rfl)⟩ dX5_act_5 PR_ag (fun _ z => z.elim) ?_
    rintro _ _ _ ⟨rfl, rfl, rfl⟩
    refine wa_iload_n F dX5_act_8 (i := 2) rfl 2 rfl ?_
    refine wa_iconst (v := 0) F dX5_act_9 (by decide) ?_
    refine wa_sipush (v := 255) F dX5_act_10 (by decide) ?_
    by_cases c13 : sIn b 0 255 = true
    · skip
      refine wa_callS F [] (c_X5_checkRange_ok hst D (tysOf TC) H0 ad (hall TC X S o) b 0 255 c13) mw_X5_checkRange ml_X5_39 rfl (Nat.le_of_ble_eq_true rfl) ⟨(Nat.le_of_ble_eq_true rfl), (Nat.le_of_ble_eq_true rfl)⟩ ⟨(Nat.le_of_ble_eq_true rfl), (Nat.le_of_ble_eq_true rfl)⟩ dX5_act_13 PR_ag (fun _ z => z.elim) ?_
      rintro _ _ _ ⟨rfl, rfl, rfl⟩
      refine wa_iload_n F dX5_act_16 (i := 3) rfl 3 rfl ?_
      refine wa_iconst (v := 1) F dX5_act_17 (by decide) ?_
      refine wa_sipush (v := 255) F dX5_act_18 (by decide) ?_
      by_cases c21 : sIn q 1 255 = true
      · skip
        refine wa_callS F [] (c_X5_checkRange_ok hst D (tysOf TC) H0 ad (hall TC X S o) q 1 255 c21) mw_X5_checkRange ml_X5_39 rfl (Nat.le_of_ble_eq_true rfl) ⟨(Nat.le_of_ble_eq_true rfl), (Nat.le_of_ble_eq_true rfl)⟩ ⟨(Nat.le_of_ble_eq_true rfl), (Nat.le_of_ble_eq_true rfl)⟩ dX5_act_21 PR_ag (fun _ z => z.elim) ?_
        rintro _ _ _ ⟨rfl, rfl, rfl⟩
        refine wa_iload F dX5_act_24 4 rfl ?_
        refine wa_iconst (v := 0) F dX5_act_26 (by decide) ?_
        refine wa_sipush (v := 5000) F dX5_act_27 (by decide) ?_
        by_cases c30 : sIn d 0 5000 = true
        · skip
          refine wa_callS F [] (c_X5_checkRange_ok hst D (tysOf TC) H0 ad (hall TC X S o) d 0 5000 c30) mw_X5_checkRange ml_X5_39 rfl (Nat.le_of_ble_eq_true rfl) ⟨(Nat.le_of_ble_eq_true rfl), (Nat.le_of_ble_eq_true rfl)⟩ ⟨(Nat.le_of_ble_eq_true rfl), (Nat.le_of_ble_eq_true rfl)⟩ dX5_act_30 PR_ag (fun _ z => z.elim) ?_
          rintro _ _ _ ⟨rfl, rfl, rfl⟩
          refine wa_aload_n F dX5_act_33 (i := 0) rfl 0 rfl ?_
          refine wa_getf (v := .int (X 2 0)) F LY_X5 (hm_c (TC := TC) (X := X) (S := S) (o := o)) 5 (by decide) fl_X5_43 rfl dX5_act_34 ?_
          refine wa_if_lt (tgt := 52) F dX5_act_37 (by decide) (fun c37 => ?_) (fun c37 => ?_)
          · skip
            replace c37 := lt_nle c37
            exact absurd c37 (by rw [hc.1]; exact nI_nneg (by omega))
          · skip
            replace c37 := nlt_le c37
            refine wa_aload_n F dX5_act_40 (i := 0) rfl 0 rfl ?_
            refine wa_getf (v := .int (X 2 0)) F LY_X5 (hm_c (TC := TC) (X := X) (S := S) (o := o)) 5 (by decide) fl_X5_43 rfl dX5_act_41 ?_
            refine wa_aload_n F dX5_act_44 (i := 0) rfl 0 rfl ?_
            refine wa_getf (v := .ref 10) F LY_X5 (hm_c (TC := TC) (X := X) (S := S) (o := o)) 0 (by decide) fl_X5_11 rfl dX5_act_45 ?_
            refine wa_alen F 3 rfl (hm_a0 (TC := TC) (X := X) (S := S) (o := o)) dX5_act_48 ?_
            refine wa_icmp_lt (tgt := 62) F dX5_act_49 (by decide) (fun c49 => ?_) (fun c49 => ?_)
            · skip
              replace c49 := lt_nle c49
              have hlt : cnt X 2 < 6 := Nat.lt_of_not_le fun z => c49 (by rw [hc.1]; exact (nI_leI (by omega) (by omega)).mpr z)
              have hne : ¬ X 2 0 = 6 := fun z => c49 (by rw [z]; show (nI 6 : Int32) ≤ 6; decide)
              refine wa_aload_n F dX5_act_62 (i := 0) rfl 0 rfl ?_
              refine wa_getf (v := .ref 10) F LY_X5 (hm_c (TC := TC) (X := X) (S := S) (o := o)) 0 (by decide) fl_X5_11 rfl dX5_act_63 ?_
              refine wa_aload_n F dX5_act_66 (i := 0) rfl 0 rfl ?_
              refine wa_getf (v := .int (X 2 0)) F LY_X5 (hm_c (TC := TC) (X := X) (S := S) (o := o)) 5 (by decide) fl_X5_43 rfl dX5_act_67 ?_
              have hnb : hall TC X S o (1000 + cnt X 2) = none := hm_actN (Nat.lt_irrefl _) (by omega)
              have hnr : noRef (hall TC X S o) (1000 + cnt X 2) := hall_nr (by omega) hnb hb2 hb9 hb13 hb25 hb28 hbo
              refine wa_new F LY_X0 (1000 + cnt X 2) cl_X5_9 nw_X0 in_X0 hnb hnr (fs := [.int 0, .int 0, .int 0, .int 0, .int 0]) (by intro j hj; rcases j with _ | _ | _ | _ | _ | j <;> first | rfl | (exfalso; omega)) (fun _ => rfl) (Nat.le_of_ble_eq_true rfl) (Nat.le_of_ble_eq_true rfl) (all_nl (by simp [nref]; try ((repeat' apply And.intro) <;> exact ne_nat (by omega)))) (all_ns (by simp [nref]; try ((repeat' apply And.intro) <;> exact ne_nat (by omega)))) dX5_act_70 rfl (fun q0 => ?_)
              have HX : ∀ n e, hall TC X S o n = some e → (va_up (hall TC X S o) (1000 + cnt X 2) (some (.inr (0, [.int 0, .int 0, .int 0, .int 0, .int 0])))) n = some e := ext_up hnb (fun _ _ z => z)
              refine wa_dup F dX5_act_73 rfl ?_
              refine wa_iload_n F dX5_act_74 (i := 1) rfl 1 rfl ?_
              refine wa_iload_n F dX5_act_75 (i := 2) rfl 2 rfl ?_
              refine wa_iload_n F dX5_act_76 (i := 3) rfl 3 rfl ?_
              refine wa_iload F dX5_act_77 4 rfl ?_
              refine wa_callI F [.ref (1000 + cnt X 2), .int (X 2 0), .ref 10] (c_X0_init hst D TC H0 (va_up ad (1000 + cnt X 2) q0) X S o (hall TC X S o) (1000 + cnt X 2) a b q d) mw_X0_init ml_X5_54 rfl (Nat.le_of_ble_eq_true rfl) ⟨Nat.le_of_ble_eq_true rfl, Nat.le_of_ble_eq_true rfl⟩ ⟨Nat.le_of_ble_eq_true rfl, Nat.le_of_ble_eq_true rfl⟩ dX5_act_79 PR_ag (fun _ z => z.elim) ?_
              rintro _ _ _ ⟨rfl, rfl, rfl⟩
              refine wa_aast F 3 rfl LY_X0 ((vup_ne _ _ (by omega)).trans (hm_a0 (TC := TC) (X := X) (S := S) (o := o))) (va_up_at _ _ _) (cnt X 2) hc.1 hlt (by decide) dX5_act_82 rfl ?_
              refine wa_aload_n F dX5_act_83 (i := 0) rfl 0 rfl ?_
              refine wa_dup F dX5_act_84 rfl ?_
              refine wa_getf (v := .int (X 2 0)) F LY_X5 ((vup_ne _ _ (by omega)).trans ((vup_ne _ _ (by omega)).trans (hm_c (TC := TC) (X := X) (S := S) (o := o)))) 5 (by decide) fl_X5_43 rfl dX5_act_85 ?_
              refine wa_dup_x1 F dX5_act_88 rfl rfl ?_
              refine wa_iconst (v := 1) F dX5_act_89 (by decide) ?_
              refine wa_iadd F dX5_act_90 ?_
              refine wa_putf F LY_X5 ((vup_ne _ _ (by omega)).trans ((vup_ne _ _ (by omega)).trans (hm_c (TC := TC) (X := X) (S := S) (o := o)))) 5 (by decide) fl_X5_43 rfl rfl rfl (Nat.le_of_ble_eq_true rfl) dX5_act_91 (add_act hc.1 hlt (fun k hk => hclo k (cnt X 2) hk hlt (Or.inr (Nat.le_refl _))) a b q d) ?_
              refine wa_iret F rfl (Nat.le_of_ble_eq_true rfl) (Nat.le_of_ble_eq_true rfl) dX5_act_94 ?_
              have ek : kAct X a b q d = 0 := by simp [kAct, c5, c13, c21, c30, hne]
              exact ⟨ek, rfl, fun n hn => if_neg fun z => hn (by rw [z]; exact hnb), rfl⟩
            · skip
              replace c49 := nlt_le c49
              have he6 : X 2 0 = 6 := by have : 6 ≤ cnt X 2 := (nI_leI (by omega) (by omega)).mp (by rw [← hc.1]; exact c49); rw [hc.1, show cnt X 2 = 6 by omega]; rfl
              have ek : kAct X a b q d = 2 := by simp [kAct, c5, c13, c21, c30, he6]
              exact wa_throwS F ft_IS cl_X5_47 in_IS sr_X5_49 at_IS gd_IS dX5_act_52 dX5_act_55 dX5_act_56 dX5_act_58 dX5_act_61 (Nat.le_of_ble_eq_true rfl) (Nat.le_of_ble_eq_true rfl) (Nat.le_of_ble_eq_true rfl) (Nat.le_of_ble_eq_true rfl) (Nat.le_of_ble_eq_true rfl) (Nat.le_of_ble_eq_true rfl) (Nat.le_of_ble_eq_true rfl) (Or.inr ⟨rfl, ek⟩) rfl rfl
        · skip
          replace c30 : sIn d 0 5000 = false := Bool.eq_false_iff.mpr c30
          refine wa_callS F [] (c_X5_checkRange_no hst D (tysOf TC) H0 ad (hall TC X S o) d 0 5000 c30) mw_X5_checkRange ml_X5_39 rfl (Nat.le_of_ble_eq_true rfl) ⟨(Nat.le_of_ble_eq_true rfl), (Nat.le_of_ble_eq_true rfl)⟩ ⟨(Nat.le_of_ble_eq_true rfl), (Nat.le_of_ble_eq_true rfl)⟩ dX5_act_30 (fun _ _ _ z => z.elim) (fun E hE => ?_) (fun _ _ _ z => z.elim)
          subst hE
          have ek : kAct X a b q d = 1 := by simp [kAct, c5, c13, c21, c30]
          exact wx_out F (Nat.le_of_ble_eq_true rfl) (Nat.le_of_ble_eq_true rfl) (Or.inl ⟨rfl, ek⟩) rfl rfl
      · skip
        replace c21 : sIn q 1 255 = false := Bool.eq_false_iff.mpr c21
        refine wa_callS F [] (c_X5_checkRange_no hst D (tysOf TC) H0 ad (hall TC X S o) q 1 255 c21) mw_X5_checkRange ml_X5_39 rfl (Nat.le_of_ble_eq_true rfl) ⟨(Nat.le_of_ble_eq_true rfl), (Nat.le_of_ble_eq_true rfl)⟩ ⟨(Nat.le_of_ble_eq_true rfl), (Nat.le_of_ble_eq_true rfl)⟩ dX5_act_21 (fun _ _ _ z => z.elim) (fun E hE => ?_) (fun _ _ _ z => z.elim)
        subst hE
        have ek : kAct X a b q d = 1 := by simp [kAct, c5, c13, c21]
        exact wx_out F (Nat.le_of_ble_eq_true rfl) (Nat.le_of_ble_eq_true rfl) (Or.inl ⟨rfl, ek⟩) rfl rfl
    · skip
      replace c13 : sIn b 0 255 = false := Bool.eq_false_iff.mpr c13
      refine wa_callS F [] (c_X5_checkRange_no hst D (tysOf TC) H0 ad (hall TC X S o) b 0 255 c13) mw_X5_checkRange ml_X5_39 rfl (Nat.le_of_ble_eq_true rfl) ⟨(Nat.le_of_ble_eq_true rfl), (Nat.le_of_ble_eq_true rfl)⟩ ⟨(Nat.le_of_ble_eq_true rfl), (Nat.le_of_ble_eq_true rfl)⟩ dX5_act_13 (fun _ _ _ z => z.elim) (fun E hE => ?_) (fun _ _ _ z => z.elim)
      subst hE
      have ek : kAct X a b q d = 1 := by simp [kAct, c5, c13]
      exact wx_out F (Nat.le_of_ble_eq_true rfl) (Nat.le_of_ble_eq_true rfl) (Or.inl ⟨rfl, ek⟩) rfl rfl
  · skip
    replace c5 : sIn a 1 255 = false := Bool.eq_false_iff.mpr c5
    refine wa_callS F [] (c_X5_checkRange_no hst D (tysOf TC) H0 ad (hall TC X S o) a 1 255 c5) mw_X5_checkRange ml_X5_39 rfl (Nat.le_of_ble_eq_true rfl) ⟨(Nat.le_of_ble_eq_true rfl), (Nat.le_of_ble_eq_true rfl)⟩ ⟨(Nat.le_of_ble_eq_true rfl), (Nat.le_of_ble_eq_true rfl)⟩ dX5_act_5 (fun _ _ _ z => z.elim) (fun E hE => ?_) (fun _ _ _ z => z.elim)
    subst hE
    have ek : kAct X a b q d = 1 := by simp [kAct, c5]
    exact wx_out F (Nat.le_of_ble_eq_true rfl) (Nat.le_of_ble_eq_true rfl) (Or.inl ⟨rfl, ek⟩) rfl rfl
set_option maxHeartbeats 2000000 in
set_option maxRecDepth 20000 in
theorem c_X5_standard {l : Launch} (hst : l.stackTraces = false) (D : va_G) (TC : Nat → ClassId) (H0 : Heap) (ad : Nat → Nat) (X S : St) (o : Nat → Int64) (a : Int32) (b : Int32) (n : Nat) (hi : INV n X) : CC l D (tysOf TC) H0 yX5_standard cX5_standard 3 (some .int) 7 1 6 [.ref 0, .int a, .int b] ad (hall TC X S o) (PKN (kStd X a b) ad (hall TC X S o) (some (.int (rStd X))) (hall TC (uStd a b X) S o)) (fun E => (E = "java/lang/IllegalArgumentException" ∧ kStd X a b = 1) ∨ (E = "java/lang/IllegalStateException" ∧ kStd X a b = 2)) := by
  refine cc_intro hst (by decide +kernel) (Nat.le_of_ble_eq_true rfl) ?_
  intro p e s m args below meth c F
  rw [show lv_args 0 [.ref 0, .int a, .int b] = [(0, .ref 0), (1, .int a), (2, .int b)] from rfl]
  obtain ⟨hc, hs, hpp, hd0, hmm, h7, h8, hbo, hu0, hvr⟩ := id hi
  obtain ⟨hvh, hday, hclo, h5, h12, h21, hze, h24, hrk, hbz⟩ := hvr
  have hb2 := hc.2; have hb9 := hs.2; have hb13 := hpp.2; have hb25 := hd0.2; have hb28 := hmm.2
  refine wa_iload_n F dX5_standard_0 (i := 1) rfl 1 rfl ?_
  refine wa_iconst (v := 1) F dX5_standard_1 (by decide) ?_
  refine wa_sipush (v := 255) F dX5_standard_2 (by decide) ?_
  by_cases c5 : sIn a 1 255 = true
  · skip
    refine wa_callS F [] (c_X5_checkRange_ok hst D (tysOf TC) H0 ad (hall TC X S o) a 1 255 c5) mw_X5_checkRange ml_X5_39 rfl (Nat.le_of_ble_eq_true rfl) ⟨(Nat.le_of_ble_eq_true rfl), (Nat.le_of_ble_eq_true rfl)⟩ ⟨(Nat.le_of_ble_eq_true rfl), (Nat.le_of_ble_eq_true rfl)⟩ dX5_standard_5 PR_ag (fun _ z => z.elim) ?_
    rintro _ _ _ ⟨rfl, rfl, rfl⟩
    refine wa_iload_n F dX5_standard_8 (i := 2) rfl 2 rfl ?_
    refine wa_iconst (v := 0) F dX5_standard_9 (by decide) ?_
    refine wa_sipush (v := 5000) F dX5_standard_10 (by decide) ?_
    by_cases c13 : sIn b 0 5000 = true
    · skip
      refine wa_callS F [] (c_X5_checkRange_ok hst D (tysOf TC) H0 ad (hall TC X S o) b 0 5000 c13) mw_X5_checkRange ml_X5_39 rfl (Nat.le_of_ble_eq_true rfl) ⟨(Nat.le_of_ble_eq_true rfl), (Nat.le_of_ble_eq_true rfl)⟩ ⟨(Nat.le_of_ble_eq_true rfl), (Nat.le_of_ble_eq_true rfl)⟩ dX5_standard_13 PR_ag (fun _ z => z.elim) ?_
      rintro _ _ _ ⟨rfl, rfl, rfl⟩
      refine wa_aload_n F dX5_standard_16 (i := 0) rfl 0 rfl ?_
      refine wa_getf (v := .int (X 9 0)) F LY_X5 (hm_c (TC := TC) (X := X) (S := S) (o := o)) 6 (by decide) fl_X5_79 rfl dX5_standard_17 ?_
      refine wa_if_lt (tgt := 35) F dX5_standard_20 (by decide) (fun c20 => ?_) (fun c20 => ?_)
      · skip
        replace c20 := lt_nle c20
        exact absurd c20 (by rw [hs.1]; exact nI_nneg (by omega))
      · skip
        replace c20 := nlt_le c20
        refine wa_aload_n F dX5_standard_23 (i := 0) rfl 0 rfl ?_
        refine wa_getf (v := .int (X 9 0)) F LY_X5 (hm_c (TC := TC) (X := X) (S := S) (o := o)) 6 (by decide) fl_X5_79 rfl dX5_standard_24 ?_
        refine wa_aload_n F dX5_standard_27 (i := 0) rfl 0 rfl ?_
        refine wa_getf (v := .ref 11) F LY_X5 (hm_c (TC := TC) (X := X) (S := S) (o := o)) 1 (by decide) fl_X5_17 rfl dX5_standard_28 ?_
        refine wa_alen F 4 rfl (hm_a1 (TC := TC) (X := X) (S := S) (o := o)) dX5_standard_31 ?_
        refine wa_icmp_lt (tgt := 45) F dX5_standard_32 (by decide) (fun c32 => ?_) (fun c32 => ?_)
        · skip
          replace c32 := lt_nle c32
          have hlt : cnt X 9 < 12 := Nat.lt_of_not_le fun z => c32 (by rw [hs.1]; exact (nI_leI (by omega) (by omega)).mpr z)
          have hne : ¬ X 9 0 = 12 := fun z => c32 (by rw [z]; show (nI 12 : Int32) ≤ 12; decide)
          refine wa_aload_n F dX5_standard_45 (i := 0) rfl 0 rfl ?_
          refine wa_getf (v := .ref 11) F LY_X5 (hm_c (TC := TC) (X := X) (S := S) (o := o)) 1 (by decide) fl_X5_17 rfl dX5_standard_46 ?_
          refine wa_aload_n F dX5_standard_49 (i := 0) rfl 0 rfl ?_
          refine wa_getf (v := .int (X 9 0)) F LY_X5 (hm_c (TC := TC) (X := X) (S := S) (o := o)) 6 (by decide) fl_X5_79 rfl dX5_standard_50 ?_
          have hnb : hall TC X S o (1100 + cnt X 9) = none := hm_stdN (Nat.lt_irrefl _) (by omega)
          have hnr : noRef (hall TC X S o) (1100 + cnt X 9) := hall_nr (by omega) hnb hb2 hb9 hb13 hb25 hb28 hbo
          refine wa_new F LY_X4 (1100 + cnt X 9) cl_X5_15 nw_X4 in_X4 hnb hnr (fs := [.int 0, .int 0, .int 0]) (by intro j hj; rcases j with _ | _ | _ | j <;> first | rfl | (exfalso; omega)) (fun _ => rfl) (Nat.le_of_ble_eq_true rfl) (Nat.le_of_ble_eq_true rfl) (all_nl (by simp [nref]; try ((repeat' apply And.intro) <;> exact ne_nat (by omega)))) (all_ns (by simp [nref]; try ((repeat' apply And.intro) <;> exact ne_nat (by omega)))) dX5_standard_53 rfl (fun q0 => ?_)
          have HX : ∀ n e, hall TC X S o n = some e → (va_up (hall TC X S o) (1100 + cnt X 9) (some (.inr (4, [.int 0, .int 0, .int 0])))) n = some e := ext_up hnb (fun _ _ z => z)
          refine wa_dup F dX5_standard_56 rfl ?_
          refine wa_iload_n F dX5_standard_57 (i := 1) rfl 1 rfl ?_
          refine wa_iload_n F dX5_standard_58 (i := 2) rfl 2 rfl ?_
          refine wa_callI F [.ref (1100 + cnt X 9), .int (X 9 0), .ref 11] (c_X4_init hst D TC H0 (va_up ad (1100 + cnt X 9) q0) X S o (hall TC X S o) (1100 + cnt X 9) a b) mw_X4_init ml_X5_84 rfl (Nat.le_of_ble_eq_true rfl) ⟨Nat.le_of_ble_eq_true rfl, Nat.le_of_ble_eq_true rfl⟩ ⟨Nat.le_of_ble_eq_true rfl, Nat.le_of_ble_eq_true rfl⟩ dX5_standard_59 PR_ag (fun _ z => z.elim) ?_
          rintro _ _ _ ⟨rfl, rfl, rfl⟩
          refine wa_aast F 4 rfl LY_X4 ((vup_ne _ _ (by omega)).trans (hm_a1 (TC := TC) (X := X) (S := S) (o := o))) (va_up_at _ _ _) (cnt X 9) hs.1 hlt (by decide) dX5_standard_62 rfl ?_
          refine wa_aload_n F dX5_standard_63 (i := 0) rfl 0 rfl ?_
          refine wa_dup F dX5_standard_64 rfl ?_
          refine wa_getf (v := .int (X 9 0)) F LY_X5 ((vup_ne _ _ (by omega)).trans ((vup_ne _ _ (by omega)).trans (hm_c (TC := TC) (X := X) (S := S) (o := o)))) 6 (by decide) fl_X5_79 rfl dX5_standard_65 ?_
          refine wa_dup_x1 F dX5_standard_68 rfl rfl ?_
          refine wa_iconst (v := 1) F dX5_standard_69 (by decide) ?_
          refine wa_iadd F dX5_standard_70 ?_
          refine wa_putf F LY_X5 ((vup_ne _ _ (by omega)).trans ((vup_ne _ _ (by omega)).trans (hm_c (TC := TC) (X := X) (S := S) (o := o)))) 6 (by decide) fl_X5_79 rfl rfl rfl (Nat.le_of_ble_eq_true rfl) dX5_standard_71 (add_std hs.1 hlt a b) ?_
          refine wa_iret F rfl (Nat.le_of_ble_eq_true rfl) (Nat.le_of_ble_eq_true rfl) dX5_standard_74 ?_
          have ek : kStd X a b = 0 := by simp [kStd, c5, c13, hne]
          exact ⟨ek, rfl, fun n hn => if_neg fun z => hn (by rw [z]; exact hnb), rfl⟩
        · skip
          replace c32 := nlt_le c32
          have he6 : X 9 0 = 12 := by have : 12 ≤ cnt X 9 := (nI_leI (by omega) (by omega)).mp (by rw [← hs.1]; exact c32); rw [hs.1, show cnt X 9 = 12 by omega]; rfl
          have ek : kStd X a b = 2 := by simp [kStd, c5, c13, he6]
          exact wa_throwS F ft_IS cl_X5_47 in_IS sr_X5_82 at_IS gd_IS dX5_standard_35 dX5_standard_38 dX5_standard_39 dX5_standard_41 dX5_standard_44 (Nat.le_of_ble_eq_true rfl) (Nat.le_of_ble_eq_true rfl) (Nat.le_of_ble_eq_true rfl) (Nat.le_of_ble_eq_true rfl) (Nat.le_of_ble_eq_true rfl) (Nat.le_of_ble_eq_true rfl) (Nat.le_of_ble_eq_true rfl) (Or.inr ⟨rfl, ek⟩) rfl rfl
    · skip
      replace c13 : sIn b 0 5000 = false := Bool.eq_false_iff.mpr c13
      refine wa_callS F [] (c_X5_checkRange_no hst D (tysOf TC) H0 ad (hall TC X S o) b 0 5000 c13) mw_X5_checkRange ml_X5_39 rfl (Nat.le_of_ble_eq_true rfl) ⟨(Nat.le_of_ble_eq_true rfl), (Nat.le_of_ble_eq_true rfl)⟩ ⟨(Nat.le_of_ble_eq_true rfl), (Nat.le_of_ble_eq_true rfl)⟩ dX5_standard_13 (fun _ _ _ z => z.elim) (fun E hE => ?_) (fun _ _ _ z => z.elim)
      subst hE
      have ek : kStd X a b = 1 := by simp [kStd, c5, c13]
      exact wx_out F (Nat.le_of_ble_eq_true rfl) (Nat.le_of_ble_eq_true rfl) (Or.inl ⟨rfl, ek⟩) rfl rfl
  · skip
    replace c5 : sIn a 1 255 = false := Bool.eq_false_iff.mpr c5
    refine wa_callS F [] (c_X5_checkRange_no hst D (tysOf TC) H0 ad (hall TC X S o) a 1 255 c5) mw_X5_checkRange ml_X5_39 rfl (Nat.le_of_ble_eq_true rfl) ⟨(Nat.le_of_ble_eq_true rfl), (Nat.le_of_ble_eq_true rfl)⟩ ⟨(Nat.le_of_ble_eq_true rfl), (Nat.le_of_ble_eq_true rfl)⟩ dX5_standard_5 (fun _ _ _ z => z.elim) (fun E hE => ?_) (fun _ _ _ z => z.elim)
    subst hE
    have ek : kStd X a b = 1 := by simp [kStd, c5]
    exact wx_out F (Nat.le_of_ble_eq_true rfl) (Nat.le_of_ble_eq_true rfl) (Or.inl ⟨rfl, ek⟩) rfl rfl
set_option maxHeartbeats 2000000 in
set_option maxRecDepth 20000 in
theorem c_X5_body {l : Launch} (hst : l.stackTraces = false) (D : va_G) (TC : Nat → ClassId) (H0 : Heap) (ad : Nat → Nat) (X S : St) (o : Nat → Int64) (b : Int32) (n : Nat) (hi : INV n X) : CC l D (tysOf TC) H0 yX5_body cX5_body 2 (some .int) 7 1 6 [.ref 0, .int b] ad (hall TC X S o) (PKN (kBo X b) ad (hall TC X S o) (some (.int (rBo X))) (hall TC (uBo b X) S o)) (fun E => (E = "java/lang/IllegalArgumentException" ∧ kBo X b = 1) ∨ (E = "java/lang/IllegalStateException" ∧ kBo X b = 2)) := by
  refine cc_intro hst (by decide +kernel) (Nat.le_of_ble_eq_true rfl) ?_
  intro p e s m args below meth c F
  rw [show lv_args 0 [.ref 0, .int b] = [(0, .ref 0), (1, .int b)] from rfl]
  obtain ⟨hc, hs, hpp, hd0, hmm, h7, h8, hbo, hu0, hvr⟩ := id hi
  obtain ⟨hvh, hday, hclo, h5, h12, h21, hze, h24, hrk, hbz⟩ := hvr
  have hb2 := hc.2; have hb9 := hs.2; have hb13 := hpp.2; have hb25 := hd0.2; have hb28 := hmm.2
  refine wa_iload_n F dX5_body_0 (i := 1) rfl 1 rfl ?_
  refine wa_iconst (v := 1) F dX5_body_1 (by decide) ?_
  refine wa_bipush (v := 63) F dX5_body_2 (by decide) ?_
  by_cases c4 : sIn b 1 63 = true
  · skip
    refine wa_callS F [] (c_X5_checkRange_ok hst D (tysOf TC) H0 ad (hall TC X S o) b 1 63 c4) mw_X5_checkRange ml_X5_39 rfl (Nat.le_of_ble_eq_true rfl) ⟨(Nat.le_of_ble_eq_true rfl), (Nat.le_of_ble_eq_true rfl)⟩ ⟨(Nat.le_of_ble_eq_true rfl), (Nat.le_of_ble_eq_true rfl)⟩ dX5_body_4 PR_ag (fun _ z => z.elim) ?_
    rintro _ _ _ ⟨rfl, rfl, rfl⟩
    refine wa_aload_n F dX5_body_7 (i := 0) rfl 0 rfl ?_
    refine wa_getf (v := .int (X 25 0)) F LY_X5 (hm_c (TC := TC) (X := X) (S := S) (o := o)) 8 (by decide) fl_X5_146 rfl dX5_body_8 ?_
    refine wa_if_lt (tgt := 26) F dX5_body_11 (by decide) (fun c11 => ?_) (fun c11 => ?_)
    · skip
      replace c11 := lt_nle c11
      exact absurd c11 (by rw [hd0.1]; exact nI_nneg (by omega))
    · skip
      replace c11 := nlt_le c11
      refine wa_aload_n F dX5_body_14 (i := 0) rfl 0 rfl ?_
      refine wa_getf (v := .int (X 25 0)) F LY_X5 (hm_c (TC := TC) (X := X) (S := S) (o := o)) 8 (by decide) fl_X5_146 rfl dX5_body_15 ?_
      refine wa_aload_n F dX5_body_18 (i := 0) rfl 0 rfl ?_
      refine wa_getf (v := .ref 13) F LY_X5 (hm_c (TC := TC) (X := X) (S := S) (o := o)) 3 (by decide) fl_X5_29 rfl dX5_body_19 ?_
      refine wa_alen F 6 rfl (hm_a3 (TC := TC) (X := X) (S := S) (o := o)) dX5_body_22 ?_
      refine wa_icmp_lt (tgt := 36) F dX5_body_23 (by decide) (fun c23 => ?_) (fun c23 => ?_)
      · skip
        replace c23 := lt_nle c23
        have hlt : cnt X 25 < 5 := Nat.lt_of_not_le fun z => c23 (by rw [hd0.1]; exact (nI_leI (by omega) (by omega)).mpr z)
        have hne : ¬ X 25 0 = 5 := fun z => c23 (by rw [z]; show (nI 5 : Int32) ≤ 5; decide)
        refine wa_aload_n F dX5_body_36 (i := 0) rfl 0 rfl ?_
        refine wa_getf (v := .ref 13) F LY_X5 (hm_c (TC := TC) (X := X) (S := S) (o := o)) 3 (by decide) fl_X5_29 rfl dX5_body_37 ?_
        refine wa_aload_n F dX5_body_40 (i := 0) rfl 0 rfl ?_
        refine wa_getf (v := .int (X 25 0)) F LY_X5 (hm_c (TC := TC) (X := X) (S := S) (o := o)) 8 (by decide) fl_X5_146 rfl dX5_body_41 ?_
        have hnb : hall TC X S o (1300 + cnt X 25) = none := hm_bodN (Nat.lt_irrefl _) (by omega)
        have hnr : noRef (hall TC X S o) (1300 + cnt X 25) := hall_nr (by omega) hnb hb2 hb9 hb13 hb25 hb28 hbo
        refine wa_new F LY_X2 (1300 + cnt X 25) cl_X5_27 nw_X2 in_X2 hnb hnr (fs := [.int 0, .int 0, .int 0]) (by intro j hj; rcases j with _ | _ | _ | j <;> first | rfl | (exfalso; omega)) (fun _ => rfl) (Nat.le_of_ble_eq_true rfl) (Nat.le_of_ble_eq_true rfl) (all_nl (by simp [nref]; try ((repeat' apply And.intro) <;> exact ne_nat (by omega)))) (all_ns (by simp [nref]; try ((repeat' apply And.intro) <;> exact ne_nat (by omega)))) dX5_body_44 rfl (fun q0 => ?_)
        have HX : ∀ n e, hall TC X S o n = some e → (va_up (hall TC X S o) (1300 + cnt X 25) (some (.inr (2, [.int 0, .int 0, .int 0])))) n = some e := ext_up hnb (fun _ _ z => z)
        refine wa_dup F dX5_body_47 rfl ?_
        refine wa_aload_n F dX5_body_48 (i := 0) rfl 0 rfl ?_
        refine wa_getf (v := .int (X 25 0)) F LY_X5 (HX _ _ (hm_c (TC := TC) (X := X) (S := S) (o := o))) 8 (by decide) fl_X5_146 rfl dX5_body_49 ?_
        refine wa_iload_n F dX5_body_52 (i := 1) rfl 1 rfl ?_
        refine wa_callI F [.ref (1300 + cnt X 25), .int (X 25 0), .ref 13] (c_X2_init hst D TC H0 (va_up ad (1300 + cnt X 25) q0) X S o (hall TC X S o) (1300 + cnt X 25) (X 25 0) b) mw_X2_init ml_X5_151 rfl (Nat.le_of_ble_eq_true rfl) ⟨Nat.le_of_ble_eq_true rfl, Nat.le_of_ble_eq_true rfl⟩ ⟨Nat.le_of_ble_eq_true rfl, Nat.le_of_ble_eq_true rfl⟩ dX5_body_53 PR_ag (fun _ z => z.elim) ?_
        rintro _ _ _ ⟨rfl, rfl, rfl⟩
        refine wa_aast F 6 rfl LY_X2 ((vup_ne _ _ (by omega)).trans (hm_a3 (TC := TC) (X := X) (S := S) (o := o))) (va_up_at _ _ _) (cnt X 25) hd0.1 hlt (by decide) dX5_body_56 rfl ?_
        refine wa_aload_n F dX5_body_57 (i := 0) rfl 0 rfl ?_
        refine wa_dup F dX5_body_58 rfl ?_
        refine wa_getf (v := .int (X 25 0)) F LY_X5 ((vup_ne _ _ (by omega)).trans ((vup_ne _ _ (by omega)).trans (hm_c (TC := TC) (X := X) (S := S) (o := o)))) 8 (by decide) fl_X5_146 rfl dX5_body_59 ?_
        refine wa_dup_x1 F dX5_body_62 rfl rfl ?_
        refine wa_iconst (v := 1) F dX5_body_63 (by decide) ?_
        refine wa_iadd F dX5_body_64 ?_
        refine wa_putf F LY_X5 ((vup_ne _ _ (by omega)).trans ((vup_ne _ _ (by omega)).trans (hm_c (TC := TC) (X := X) (S := S) (o := o)))) 8 (by decide) fl_X5_146 rfl rfl rfl (Nat.le_of_ble_eq_true rfl) dX5_body_65 (add_bod hd0.1 hlt b) ?_
        refine wa_iret F rfl (Nat.le_of_ble_eq_true rfl) (Nat.le_of_ble_eq_true rfl) dX5_body_68 ?_
        have ek : kBo X b = 0 := by simp [kBo, c4, hne]
        exact ⟨ek, rfl, fun n hn => if_neg fun z => hn (by rw [z]; exact hnb), rfl⟩
      · skip
        replace c23 := nlt_le c23
        have he6 : X 25 0 = 5 := by have : 5 ≤ cnt X 25 := (nI_leI (by omega) (by omega)).mp (by rw [← hd0.1]; exact c23); rw [hd0.1, show cnt X 25 = 5 by omega]; rfl
        have ek : kBo X b = 2 := by simp [kBo, c4, he6]
        exact wa_throwS F ft_IS cl_X5_47 in_IS sr_X5_149 at_IS gd_IS dX5_body_26 dX5_body_29 dX5_body_30 dX5_body_32 dX5_body_35 (Nat.le_of_ble_eq_true rfl) (Nat.le_of_ble_eq_true rfl) (Nat.le_of_ble_eq_true rfl) (Nat.le_of_ble_eq_true rfl) (Nat.le_of_ble_eq_true rfl) (Nat.le_of_ble_eq_true rfl) (Nat.le_of_ble_eq_true rfl) (Or.inr ⟨rfl, ek⟩) rfl rfl
  · skip
    replace c4 : sIn b 1 63 = false := Bool.eq_false_iff.mpr c4
    refine wa_callS F [] (c_X5_checkRange_no hst D (tysOf TC) H0 ad (hall TC X S o) b 1 63 c4) mw_X5_checkRange ml_X5_39 rfl (Nat.le_of_ble_eq_true rfl) ⟨(Nat.le_of_ble_eq_true rfl), (Nat.le_of_ble_eq_true rfl)⟩ ⟨(Nat.le_of_ble_eq_true rfl), (Nat.le_of_ble_eq_true rfl)⟩ dX5_body_4 (fun _ _ _ z => z.elim) (fun E hE => ?_) (fun _ _ _ z => z.elim)
    subst hE
    have ek : kBo X b = 1 := by simp [kBo, c4]
    exact wx_out F (Nat.le_of_ble_eq_true rfl) (Nat.le_of_ble_eq_true rfl) (Or.inl ⟨rfl, ek⟩) rfl rfl
set_option maxHeartbeats 2000000 in
set_option maxRecDepth 20000 in
theorem c_X5_product {l : Launch} (hst : l.stackTraces = false) (D : va_G) (TC : Nat → ClassId) (H0 : Heap) (ad : Nat → Nat) (X S : St) (o : Nat → Int64) (b : Int32) (n : Nat) (hi : INV n X) : CC l D (tysOf TC) H0 yX5_product cX5_product 2 (some .int) 7 4 39 [.ref 0, .int b] ad (hall TC X S o) (PKN (kPr X b) ad (hall TC X S o) (some (.int (rPr X))) (hall TC (uPr b X) S o)) (fun E => (E = "java/lang/IllegalArgumentException" ∧ kPr X b = 1) ∨ (E = "java/lang/IllegalStateException" ∧ kPr X b = 2)) := by
  refine cc_intro hst (by decide +kernel) (Nat.le_of_ble_eq_true rfl) ?_
  intro p e s m args below meth c F
  rw [show lv_args 0 [.ref 0, .int b] = [(0, .ref 0), (1, .int b)] from rfl]
  obtain ⟨hc, hs, hpp, hd0, hmm, h7, h8, hbo, hu0, hvr⟩ := id hi
  obtain ⟨hvh, hday, hclo, h5, h12, h21, hze, h24, hrk, hbz⟩ := hvr
  have hb2 := hc.2; have hb9 := hs.2; have hb13 := hpp.2; have hb25 := hd0.2; have hb28 := hmm.2
  refine wa_iload_n F dX5_product_0 (i := 1) rfl 1 rfl ?_
  refine wa_iconst (v := 1) F dX5_product_1 (by decide) ?_
  refine wa_sipush (v := 255) F dX5_product_2 (by decide) ?_
  by_cases c5 : sIn b 1 255 = true
  · skip
    refine wa_callS F [] (c_X5_checkRange_ok hst D (tysOf TC) H0 ad (hall TC X S o) b 1 255 c5) mw_X5_checkRange ml_X5_39 rfl (Nat.le_of_ble_eq_true rfl) ⟨(Nat.le_of_ble_eq_true rfl), (Nat.le_of_ble_eq_true rfl)⟩ ⟨(Nat.le_of_ble_eq_true rfl), (Nat.le_of_ble_eq_true rfl)⟩ dX5_product_5 PR_ag (fun _ z => z.elim) ?_
    rintro _ _ _ ⟨rfl, rfl, rfl⟩
    refine wa_aload_n F dX5_product_8 (i := 0) rfl 0 rfl ?_
    refine wa_getf (v := .int (X 13 0)) F LY_X5 (hm_c (TC := TC) (X := X) (S := S) (o := o)) 7 (by decide) fl_X5_100 rfl dX5_product_9 ?_
    refine wa_if_lt (tgt := 27) F dX5_product_12 (by decide) (fun c12 => ?_) (fun c12 => ?_)
    · skip
      replace c12 := lt_nle c12
      exact absurd c12 (by rw [hpp.1]; exact nI_nneg (by omega))
    · skip
      replace c12 := nlt_le c12
      refine wa_aload_n F dX5_product_15 (i := 0) rfl 0 rfl ?_
      refine wa_getf (v := .int (X 13 0)) F LY_X5 (hm_c (TC := TC) (X := X) (S := S) (o := o)) 7 (by decide) fl_X5_100 rfl dX5_product_16 ?_
      refine wa_aload_n F dX5_product_19 (i := 0) rfl 0 rfl ?_
      refine wa_getf (v := .ref 12) F LY_X5 (hm_c (TC := TC) (X := X) (S := S) (o := o)) 2 (by decide) fl_X5_23 rfl dX5_product_20 ?_
      refine wa_alen F 5 rfl (hm_a2 (TC := TC) (X := X) (S := S) (o := o)) dX5_product_23 ?_
      refine wa_icmp_lt (tgt := 37) F dX5_product_24 (by decide) (fun c24 => ?_) (fun c24 => ?_)
      · skip
        replace c24 := lt_nle c24
        have hlt : cnt X 13 < 10 := Nat.lt_of_not_le fun z => c24 (by rw [hpp.1]; exact (nI_leI (by omega) (by omega)).mpr z)
        have hne : ¬ X 13 0 = 10 := fun z => c24 (by rw [z]; show (nI 10 : Int32) ≤ 10; decide)
        refine wa_aload_n F dX5_product_37 (i := 0) rfl 0 rfl ?_
        refine wa_getf (v := .ref 12) F LY_X5 (hm_c (TC := TC) (X := X) (S := S) (o := o)) 2 (by decide) fl_X5_23 rfl dX5_product_38 ?_
        refine wa_aload_n F dX5_product_41 (i := 0) rfl 0 rfl ?_
        refine wa_getf (v := .int (X 13 0)) F LY_X5 (hm_c (TC := TC) (X := X) (S := S) (o := o)) 7 (by decide) fl_X5_100 rfl dX5_product_42 ?_
        have hnb : hall TC X S o (1200 + cnt X 13) = none := hm_prdN (Nat.lt_irrefl _) (by omega)
        have hnr : noRef (hall TC X S o) (1200 + cnt X 13) := hall_nr (by omega) hnb hb2 hb9 hb13 hb25 hb28 hbo
        refine wa_new F LY_X3 (1200 + cnt X 13) cl_X5_21 nw_X3 in_X3 hnb hnr (fs := [.null, .null, .null, .int 0, .int 0, .int 0, .int 0, .null, .int 0, .int 0, .int 0]) (by intro j hj; rcases j with _ | _ | _ | _ | _ | _ | _ | _ | _ | _ | _ | j <;> first | rfl | (exfalso; omega)) (fun _ => rfl) (Nat.le_of_ble_eq_true rfl) (Nat.le_of_ble_eq_true rfl) (all_nl (by simp [nref]; try ((repeat' apply And.intro) <;> exact ne_nat (by omega)))) (all_ns (by simp [nref]; try ((repeat' apply And.intro) <;> exact ne_nat (by omega)))) dX5_product_45 rfl (fun q0 => ?_)
        have HX : ∀ n e, hall TC X S o n = some e → (va_up (hall TC X S o) (1200 + cnt X 13) (some (.inr (3, [.null, .null, .null, .int 0, .int 0, .int 0, .int 0, .null, .int 0, .int 0, .int 0])))) n = some e := ext_up hnb (fun _ _ z => z)
        refine wa_dup F dX5_product_48 rfl ?_
        refine wa_iload_n F dX5_product_49 (i := 1) rfl 1 rfl ?_
        have n1 : hall TC X S o (1500 + cnt X 13) = none := hm_rbN (Nat.lt_irrefl _) (by omega)
        have n2 : hall TC X S o (1600 + cnt X 13) = none := hm_raN (Nat.lt_irrefl _) (by omega)
        have n3 : hall TC X S o (1700 + cnt X 13) = none := hm_foN (Nat.lt_irrefl _) (by omega)
        have nz0 : (va_up (hall TC X S o) (1200 + cnt X 13) (some (.inr (3, [.null, .null, .null, .int 0, .int 0, .int 0, .int 0, .null, .int 0, .int 0, .int 0])))) 0 ≠ none := by rw [HX _ _ hm_c]; simp
        have nz12 : (va_up (hall TC X S o) (1200 + cnt X 13) (some (.inr (3, [.null, .null, .null, .int 0, .int 0, .int 0, .int 0, .null, .int 0, .int 0, .int 0])))) 12 ≠ none := by rw [HX _ _ hm_a2]; simp
        have nzx : (va_up (hall TC X S o) (1200 + cnt X 13) (some (.inr (3, [.null, .null, .null, .int 0, .int 0, .int 0, .int 0, .null, .int 0, .int 0, .int 0])))) (1200 + cnt X 13) ≠ none := by rw [va_up_at]; simp
        refine wa_callI F [.ref (1200 + cnt X 13), .int (X 13 0), .ref 12] (c_X3_init hst D TC H0 (va_up ad (1200 + cnt X 13) q0) X S o (hall TC X S o) (1200 + cnt X 13) (1500 + cnt X 13) (1600 + cnt X 13) (1700 + cnt X 13) n1 n2 n3 (by omega) (by omega) (by omega) (by omega) (by omega) (by omega) (hall_nr (by omega) n1 hb2 hb9 hb13 hb25 hb28 hbo) (hall_nr (by omega) n2 hb2 hb9 hb13 hb25 hb28 hbo) (hall_nr (by omega) n3 hb2 hb9 hb13 hb25 hb28 hbo) b) mw_X3_init ml_X5_105 rfl (Nat.le_of_ble_eq_true rfl) ⟨Nat.le_of_ble_eq_true rfl, Nat.le_of_ble_eq_true rfl⟩ ⟨Nat.le_of_ble_eq_true rfl, Nat.le_of_ble_eq_true rfl⟩ dX5_product_50 (PN_ag2 (by intro y hy; simp only [List.mem_cons, List.not_mem_nil, or_false] at hy; rcases hy with rfl | rfl <;> first | trivial | assumption) (by intro y hy; simp only [List.mem_cons, List.not_mem_nil, or_false] at hy; rcases hy with rfl | rfl | rfl <;> first | trivial | assumption)) (fun _ z => z.elim) ?_
        rintro _ ad2 _ ⟨rfl, had, rfl⟩
        refine wa_aast F 5 rfl LY_X3 ((vup_ne _ _ (by omega)).trans ((vup_ne _ _ (by omega)).trans ((vup_ne _ _ (by omega)).trans ((vup_ne _ _ (by omega)).trans (hm_a2 (TC := TC) (X := X) (S := S) (o := o)))))) (va_up_at _ _ _) (cnt X 13) hpp.1 hlt (by decide) dX5_product_53 rfl ?_
        refine wa_aload_n F dX5_product_54 (i := 0) rfl 0 rfl ?_
        refine wa_dup F dX5_product_55 rfl ?_
        refine wa_getf (v := .int (X 13 0)) F LY_X5 ((vup_ne _ _ (by omega)).trans ((vup_ne _ _ (by omega)).trans ((vup_ne _ _ (by omega)).trans ((vup_ne _ _ (by omega)).trans ((vup_ne _ _ (by omega)).trans (hm_c (TC := TC) (X := X) (S := S) (o := o))))))) 7 (by decide) fl_X5_100 rfl dX5_product_56 ?_
        refine wa_dup_x1 F dX5_product_59 rfl rfl ?_
        refine wa_iconst (v := 1) F dX5_product_60 (by decide) ?_
        refine wa_iadd F dX5_product_61 ?_
        refine wa_putf F LY_X5 ((vup_ne _ _ (by omega)).trans ((vup_ne _ _ (by omega)).trans ((vup_ne _ _ (by omega)).trans ((vup_ne _ _ (by omega)).trans ((vup_ne _ _ (by omega)).trans (hm_c (TC := TC) (X := X) (S := S) (o := o))))))) 7 (by decide) fl_X5_100 rfl rfl rfl (Nat.le_of_ble_eq_true rfl) dX5_product_62 (add_prd hpp.1 hlt (hze (cnt X 13) (Nat.le_refl _) hlt) b) ?_
        refine wa_iret F rfl (Nat.le_of_ble_eq_true rfl) (Nat.le_of_ble_eq_true rfl) dX5_product_65 ?_
        have ek : kPr X b = 0 := by simp [kPr, c5, hne]
        exact ⟨ek, rfl, fun n hn => (had n (by rw [vup_ne _ _ (fun z => hn (by rw [z]; exact hnb))]; exact hn)).trans (if_neg fun z => hn (by rw [z]; exact hnb)), rfl⟩
      · skip
        replace c24 := nlt_le c24
        have he6 : X 13 0 = 10 := by have : 10 ≤ cnt X 13 := (nI_leI (by omega) (by omega)).mp (by rw [← hpp.1]; exact c24); rw [hpp.1, show cnt X 13 = 10 by omega]; rfl
        have ek : kPr X b = 2 := by simp [kPr, c5, he6]
        exact wa_throwS F ft_IS cl_X5_47 in_IS sr_X5_103 at_IS gd_IS dX5_product_27 dX5_product_30 dX5_product_31 dX5_product_33 dX5_product_36 (Nat.le_of_ble_eq_true rfl) (Nat.le_of_ble_eq_true rfl) (Nat.le_of_ble_eq_true rfl) (Nat.le_of_ble_eq_true rfl) (Nat.le_of_ble_eq_true rfl) (Nat.le_of_ble_eq_true rfl) (Nat.le_of_ble_eq_true rfl) (Or.inr ⟨rfl, ek⟩) rfl rfl
  · skip
    replace c5 : sIn b 1 255 = false := Bool.eq_false_iff.mpr c5
    refine wa_callS F [] (c_X5_checkRange_no hst D (tysOf TC) H0 ad (hall TC X S o) b 1 255 c5) mw_X5_checkRange ml_X5_39 rfl (Nat.le_of_ble_eq_true rfl) ⟨(Nat.le_of_ble_eq_true rfl), (Nat.le_of_ble_eq_true rfl)⟩ ⟨(Nat.le_of_ble_eq_true rfl), (Nat.le_of_ble_eq_true rfl)⟩ dX5_product_5 (fun _ _ _ z => z.elim) (fun E hE => ?_) (fun _ _ _ z => z.elim)
    subst hE
    have ek : kPr X b = 1 := by simp [kPr, c5]
    exact wx_out F (Nat.le_of_ble_eq_true rfl) (Nat.le_of_ble_eq_true rfl) (Or.inl ⟨rfl, ek⟩) rfl rfl
