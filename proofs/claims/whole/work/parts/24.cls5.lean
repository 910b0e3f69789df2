theorem sU_comm {S : St} {f g i j : Nat} {v w : Int32} (h : f ≠ g) : sU (sU S f i v) g j w = sU (sU S g j w) f i v := by
  funext x
  unfold sU
  by_cases h1 : x = g
  · subst h1
    rw [if_pos rfl, if_neg (fun z => h z.symm), if_neg (fun z => h z.symm), if_pos rfl]
  · by_cases h2 : x = f
    · subst h2
      rw [if_neg h1, if_pos rfl, if_pos rfl, if_neg h1]
    · rw [if_neg h1, if_neg h2, if_neg h2, if_neg h1]
theorem va_up_up {α : Type} (h : Nat → α) (m : Nat) (a b : α) : va_up (va_up h m a) m b = va_up h m b := by
  funext n; unfold va_up
  by_cases e : n = m
  · rw [if_pos e, if_pos e]
  · rw [if_neg e, if_neg e, if_neg e]
theorem va_up_at {α : Type} (h : Nat → α) (m : Nat) (a : α) : va_up h m a m = a := if_pos rfl
theorem vup_ne {α : Type} (h : Nat → α) {m n : Nat} (a : α) (e : n ≠ m) : va_up h m a n = h n := if_neg e
theorem va_up_comm {α : Type} (h : Nat → α) {m n : Nat} (a b : α) (e : m ≠ n) : va_up (va_up h m a) n b = va_up (va_up h n b) m a := by
  funext x; unfold va_up
  by_cases h1 : x = n
  · subst h1; rw [if_pos rfl, if_neg (fun z => e z.symm), if_pos rfl]
  · rw [if_neg h1]
    by_cases h2 : x = m
    · rw [if_pos h2, if_pos h2]
    · rw [if_neg h2, if_neg h2, if_neg h1]
theorem cnt_z {X : St} {g f b : Nat} (h : (g != f) = true) : ∀ k, cnt X g = cnt (zF X f b k) g
  | 0 => rfl
  | k + 1 => (cnt_z h k).trans (cnt_u h)
theorem lt_z {X : St} {i g f b k : Nat} (hi : i < cnt X g) (h : (g != f) = true := by decide) : i < cnt (zF X f b k) g := (cnt_z h k) ▸ hi
theorem le_z {X : St} {n g f b k : Nat} (hi : cnt X g ≤ n) (h : (g != f) = true := by decide) : cnt (zF X f b k) g ≤ n := (cnt_z h k) ▸ hi
theorem cert_of {b : Nat} (hb : b < 5) : (if nI b = -1 then Value.null else .ref (1300 + (nI b).toNatClampNeg)) = .ref (1300 + b) := by
  rw [if_neg (fun z => by have := nI_toInt (n := b) (by omega); rw [z, show (-1 : Int32).toInt = -1 from rfl] at this; omega), tn_nI (by omega)]
theorem not_mil {v : Int32} (h : v ≤ 5000) : ¬ v = 1000000 := fun z => by rw [z, le_toInt] at h; exact absurd h (by decide)
set_option maxHeartbeats 2000000 in
set_option maxRecDepth 20000 in
theorem c_X3_endCertificate {l : Launch} (hst : l.stackTraces = false) (D : va_G) (TC : Nat → ClassId) (H0 : Heap) (ad : Nat → Nat) (X S : St) (o : Nat → Int64) (q : Nat) (hq : q < cnt X 13) (hb13 : cnt X 13 ≤ 10) : CC l D (tysOf TC) H0 yX3_endCertificate cX3_endCertificate 1 none 0 0 0 [.ref (1200 + q)] ad (hall TC X S o) (PR ad none (hall TC (sU (sU X 20 q (-1)) 21 q (-1)) S o)) (fun _ => False) := by
  refine cc_intro hst (by decide +kernel) (Nat.le_of_ble_eq_true rfl) ?_
  intro p e s m args below meth c F
  rw [show lv_args 0 [.ref (1200 + q)] = [(0, .ref (1200 + q))] from rfl]
  refine wa_aload_n F dX3_endCertificate_0 (i := 0) rfl 0 rfl ?_
  refine wa_null F dX3_endCertificate_1 ?_
  refine wa_putf F LY_X3 (hm_prd (TC := TC) (X := X) (S := S) (o := o) hq hb13) 7 (by decide) fl_X3_43 rfl rfl rfl (Nat.le_of_ble_eq_true rfl) dX3_endCertificate_2 (pu_prd_7 (-1) .null rfl hq hb13) ?_
  refine wa_aload_n F dX3_endCertificate_5 (i := 0) rfl 0 rfl ?_
  refine wa_iconst (v := (-1)) F dX3_endCertificate_6 (by decide) ?_
  refine wa_putf F LY_X3 (hm_prd (TC := TC) (X := (sU X 20 q (-1))) (S := S) (o := o) (lt_u hq) (le_u hb13)) 8 (by decide) fl_X3_28 rfl rfl rfl (Nat.le_of_ble_eq_true rfl) dX3_endCertificate_7 (pu_prd_8 (-1) (lt_u hq) (le_u hb13)) ?_
  refine wa_vret F (Nat.le_of_ble_eq_true rfl) (Nat.le_of_ble_eq_true rfl) dX3_endCertificate_10 ?_
  exact ⟨rfl, rfl, rfl⟩
set_option maxHeartbeats 2000000 in
set_option maxRecDepth 20000 in
theorem c_X3_startNextVersion {l : Launch} (hst : l.stackTraces = false) (D : va_G) (TC : Nat → ClassId) (H0 : Heap) (ad : Nat → Nat) (X S : St) (o : Nat → Int64) (q : Nat) (hq : q < cnt X 13) (hb13 : cnt X 13 ≤ 10) : CC l D (tysOf TC) H0 yX3_startNextVersion cX3_startNextVersion 2 none 1 0 0 [.ref (1200 + q)] ad (hall TC X S o) (PR ad none (hall TC (uNext q X) S o)) (fun _ => False) := by
  refine cc_intro hst (by decide +kernel) (Nat.le_of_ble_eq_true rfl) ?_
  intro p e s m args below meth c F
  rw [show lv_args 0 [.ref (1200 + q)] = [(0, .ref (1200 + q))] from rfl]
  refine wa_aload_n F dX3_startNextVersion_0 (i := 0) rfl 0 rfl ?_
  refine wa_dup F dX3_startNextVersion_1 rfl ?_
  refine wa_getf (v := .int (X 15 q)) F LY_X3 (hm_prd (TC := TC) (X := X) (S := S) (o := o) hq hb13) 4 (by decide) fl_X3_34 rfl dX3_startNextVersion_2 ?_
  refine wa_iconst (v := 1) F dX3_startNextVersion_5 (by decide) ?_
  refine wa_iadd F dX3_startNextVersion_6 ?_
  refine wa_putf F LY_X3 (hm_prd (TC := TC) (X := X) (S := S) (o := o) hq hb13) 4 (by decide) fl_X3_34 rfl rfl rfl (Nat.le_of_ble_eq_true rfl) dX3_startNextVersion_7 (pu_prd_4 ((X 15 q) + 1) hq hb13) ?_
  refine wa_iconst (v := 0) F dX3_startNextVersion_10 (by decide) ?_
  refine wa_istore_n (lv' := [(1, .int 0), (0, .ref (1200 + q))]) F dX3_startNextVersion_11 (i := 1) rfl (by decide) rfl ?_
  have loop12 : ∀ (n k : Nat), k ≤ 12 → 12 - k < n → WA D H0 p l e (RM 1 0 0) s m args below meth c 2 (vx_MQ below (QC0 D H0 (PR ad none (hall TC (uNext q X) S o))) (XC0 D H0 (fun _ => False) ad (hall TC X S o)) args s 0 0 (hA0 H0)) ad (hall TC (zF (sU X 15 q ((X 15 q) + 1)) 18 (12 * q) k) S o) 0 0 12 [(1, .int (nI k)), (0, .ref (1200 + q))] [] := by
    intro n
    induction n with
    | zero => intro k h1 h2; omega
    | succ n ih_k =>
      intro k hk_k hn_k
      refine wa_iload_n F dX3_startNextVersion_12 (i := 1) rfl 0 rfl ?_
      refine wa_aload_n F dX3_startNextVersion_13 (i := 0) rfl 1 rfl ?_
      refine wa_getf (v := .ref (1700 + q)) F LY_X3 (hm_prd (TC := TC) (X := (zF (sU X 15 q ((X 15 q) + 1)) 18 (12 * q) k)) (S := S) (o := o) (lt_z (lt_u hq)) (le_z (le_u hb13))) 2 (by decide) fl_X3_22 rfl dX3_startNextVersion_14 ?_
      refine wa_alen F 0 rfl (hm_fo (TC := TC) (X := (zF (sU X 15 q ((X 15 q) + 1)) 18 (12 * q) k)) (S := S) (o := o) (lt_z (lt_u hq)) (le_z (le_u hb13))) dX3_startNextVersion_17 ?_
      refine wa_icmp_ge (tgt := 34) F dX3_startNextVersion_18 (by decide) (fun c18 => ?_) (fun c18 => ?_)
      · skip
        have he_k : k = 12 := Nat.le_antisymm hk_k (nle_k rfl (by omega) (by omega) c18)
        subst he_k
        refine wa_aload_n F dX3_startNextVersion_34 (i := 0) rfl 1 rfl ?_
        refine wa_iconst (v := 0) F dX3_startNextVersion_35 (by decide) ?_
        refine wa_putf F LY_X3 (hm_prd (TC := TC) (X := (zF (sU X 15 q ((X 15 q) + 1)) 18 (12 * q) 12)) (S := S) (o := o) (lt_z (lt_u hq)) (le_z (le_u hb13))) 5 (by decide) fl_X3_37 rfl rfl rfl (Nat.le_of_ble_eq_true rfl) dX3_startNextVersion_36 (pu_prd_5 0 (lt_z (lt_u hq)) (le_z (le_u hb13))) ?_
        refine wa_aload_n F dX3_startNextVersion_39 (i := 0) rfl 1 rfl ?_
        refine wa_iconst (v := (-1)) F dX3_startNextVersion_40 (by decide) ?_
        refine wa_putf F LY_X3 (hm_prd (TC := TC) (X := (sU (zF (sU X 15 q ((X 15 q) + 1)) 18 (12 * q) 12) 19 q 0)) (S := S) (o := o) (lt_u (lt_z (lt_u hq))) (le_u (le_z (le_u hb13)))) 6 (by decide) fl_X3_25 rfl rfl rfl (Nat.le_of_ble_eq_true rfl) dX3_startNextVersion_41 (pu_prd_6 (-1) (lt_u (lt_z (lt_u hq))) (le_u (le_z (le_u hb13)))) ?_
        refine wa_aload_n F dX3_startNextVersion_44 (i := 0) rfl 1 rfl ?_
        refine wa_iconst (v := (-1)) F dX3_startNextVersion_45 (by decide) ?_
        refine wa_putf F LY_X3 (hm_prd (TC := TC) (X := (sU (sU (zF (sU X 15 q ((X 15 q) + 1)) 18 (12 * q) 12) 19 q 0) 23 q (-1))) (S := S) (o := o) (lt_u (lt_u (lt_z (lt_u hq)))) (le_u (le_u (le_z (le_u hb13))))) 9 (by decide) fl_X3_31 rfl rfl rfl (Nat.le_of_ble_eq_true rfl) dX3_startNextVersion_46 (pu_prd_9 (-1) (lt_u (lt_u (lt_z (lt_u hq)))) (le_u (le_u (le_z (le_u hb13))))) ?_
        refine wa_aload_n F dX3_startNextVersion_49 (i := 0) rfl 1 rfl ?_
        refine wa_callV F [] (c_X3_endCertificate hst D TC H0 ad (sU (sU (sU (zF (sU X 15 q ((X 15 q) + 1)) 18 (12 * q) 12) 19 q 0) 23 q (-1)) 22 q (-1)) S o q (lt_u (lt_u (lt_u (lt_z (lt_u hq))))) (le_u (le_u (le_u (le_z (le_u hb13)))))) mw_X3_endCertificate ml_X3_40 (hm_prd (TC := TC) (X := (sU (sU (sU (zF (sU X 15 q ((X 15 q) + 1)) 18 (12 * q) 12) 19 q 0) 23 q (-1)) 22 q (-1))) (S := S) (o := o) (lt_u (lt_u (lt_u (lt_z (lt_u hq))))) (le_u (le_u (le_u (le_z (le_u hb13)))))) rfl rfl (Nat.le_of_ble_eq_true rfl) ⟨Nat.le_of_ble_eq_true rfl, Nat.le_of_ble_eq_true rfl⟩ ⟨Nat.le_of_ble_eq_true rfl, Nat.le_of_ble_eq_true rfl⟩ dX3_startNextVersion_50 PR_ag (fun _ z => z.elim) ?_
        rintro _ _ _ ⟨rfl, rfl, rfl⟩
        refine wa_vret F (Nat.le_of_ble_eq_true rfl) (Nat.le_of_ble_eq_true rfl) dX3_startNextVersion_53 ?_
        refine ⟨rfl, rfl, ?_⟩
        refine congrArg (fun z => hall TC z S o) ?_
        unfold uNext
        generalize zF (sU X 15 q (X 15 q + 1)) 18 (12 * q) 12 = Z
        funext g; unfold sU; by_cases h20 : g = 20 <;> by_cases h21 : g = 21 <;> by_cases h22 : g = 22 <;> by_cases h23 : g = 23 <;> simp [h20, h21, h22, h23]
      · skip
        have hl_k : k < 12 := knle rfl (by omega) (by omega) c18
        refine wa_aload_n F dX3_startNextVersion_21 (i := 0) rfl 1 rfl ?_
        refine wa_getf (v := .ref (1700 + q)) F LY_X3 (hm_prd (TC := TC) (X := (zF (sU X 15 q ((X 15 q) + 1)) 18 (12 * q) k)) (S := S) (o := o) (lt_z (lt_u hq)) (le_z (le_u hb13))) 2 (by decide) fl_X3_22 rfl dX3_startNextVersion_22 ?_
        refine wa_iload_n F dX3_startNextVersion_25 (i := 1) rfl 0 rfl ?_
        refine wa_iconst (v := 0) F dX3_startNextVersion_26 (by decide) ?_
        refine wa_iast F 0 rfl (hm_fo (TC := TC) (X := (zF (sU X 15 q ((X 15 q) + 1)) 18 (12 * q) k)) (S := S) (o := o) (lt_z (lt_u hq)) (le_z (le_u hb13))) k rfl (by omega) (by decide) dX3_startNextVersion_27 (pu_fo k 0 (by omega) (lt_z (lt_u hq)) (le_z (le_u hb13))) ?_
        refine wa_iinc (v := (nI (k + 1))) (j := 0) (lv' := [(1, .int (nI (k + 1))), (0, .ref (1200 + q))]) F dX3_startNextVersion_28 rfl ((nI_succ k).symm) (by decide) rfl ?_
        refine wa_goto (tgt := 12) F dX3_startNextVersion_31 (by decide) ?_
        refine wa_lv (lv' := [(1, .int (nI (k + 1))), (0, .ref (1200 + q))]) [0, 1] rfl ?_
        rw [← zF_s]
        exact ih_k (k + 1) (by omega) (by omega)
  exact loop12 (12 + 1) 0 (Nat.zero_le _) (by omega)
set_option maxHeartbeats 2000000 in
set_option maxRecDepth 20000 in
theorem c_X0_init {l : Launch} (hst : l.stackTraces = false) (D : va_G) (TC : Nat → ClassId) (H0 : Heap) (ad : Nat → Nat) (X S : St) (o : Nat → Int64) (h0 : Hp) (x : Nat) (a b u v : Int32) : CC l D (tysOf TC) H0 yX0_init cX0_init 5 none 1 0 0 [.ref x, .int a, .int b, .int u, .int v] ad (va_up h0 x (some (.inr (0, [.int 0, .int 0, .int 0, .int 0, .int 0])))) (PR ad none (va_up h0 x (some (.inr (0, [.int a, .int b, .int u, .int v, .int 0]))))) (fun _ => False) := by
  refine cc_intro hst (by decide +kernel) (Nat.le_of_ble_eq_true rfl) ?_
  intro p e s m args below meth c F
  rw [show lv_args 0 [.ref x, .int a, .int b, .int u, .int v] = [(0, .ref x), (1, .int a), (2, .int b), (3, .int u), (4, .int v)] from rfl]
  refine wa_aload_n F dX0_init_0 (i := 0) rfl 0 rfl ?_
  refine wa_objInit F ml_X0_1 w_oi1 w_oi2 ⟨Nat.le_of_ble_eq_true rfl, Nat.le_of_ble_eq_true rfl⟩ (Nat.le_of_ble_eq_true rfl) dX0_init_1 ?_
  refine wa_aload_n F dX0_init_4 (i := 0) rfl 0 rfl ?_
  refine wa_iload_n F dX0_init_5 (i := 1) rfl 1 rfl ?_
  refine wa_putF F rfl rfl LY_X0 (va_up_at h0 x (some (.inr (0, [.int 0, .int 0, .int 0, .int 0, .int 0])))) 0 (by decide) fl_X0_7 rfl rfl rfl (Nat.le_of_ble_eq_true rfl) dX0_init_6 (h' := va_up h0 x (some (.inr (0, [.int a, .int 0, .int 0, .int 0, .int 0])))) (va_up_up _ _ _ _) ?_
  refine wa_aload_n F dX0_init_9 (i := 0) rfl 0 rfl ?_
  refine wa_iload_n F dX0_init_10 (i := 2) rfl 2 rfl ?_
  refine wa_putF F rfl rfl LY_X0 (va_up_at h0 x (some (.inr (0, [.int a, .int 0, .int 0, .int 0, .int 0])))) 1 (by decide) fl_X0_13 rfl rfl rfl (Nat.le_of_ble_eq_true rfl) dX0_init_11 (h' := va_up h0 x (some (.inr (0, [.int a, .int b, .int 0, .int 0, .int 0])))) (va_up_up _ _ _ _) ?_
  refine wa_aload_n F dX0_init_14 (i := 0) rfl 0 rfl ?_
  refine wa_iload_n F dX0_init_15 (i := 3) rfl 3 rfl ?_
  refine wa_putF F rfl rfl LY_X0 (va_up_at h0 x (some (.inr (0, [.int a, .int b, .int 0, .int 0, .int 0])))) 2 (by decide) fl_X0_16 rfl rfl rfl (Nat.le_of_ble_eq_true rfl) dX0_init_16 (h' := va_up h0 x (some (.inr (0, [.int a, .int b, .int u, .int 0, .int 0])))) (va_up_up _ _ _ _) ?_
  refine wa_aload_n F dX0_init_19 (i := 0) rfl 0 rfl ?_
  refine wa_iload F dX0_init_20 4 rfl ?_
  refine wa_putF F rfl rfl LY_X0 (va_up_at h0 x (some (.inr (0, [.int a, .int b, .int u, .int 0, .int 0])))) 3 (by decide) fl_X0_19 rfl rfl rfl (Nat.le_of_ble_eq_true rfl) dX0_init_22 (h' := va_up h0 x (some (.inr (0, [.int a, .int b, .int u, .int v, .int 0])))) (va_up_up _ _ _ _) ?_
  refine wa_vret F (Nat.le_of_ble_eq_true rfl) (Nat.le_of_ble_eq_true rfl) dX0_init_25 ?_
  exact ⟨rfl, rfl, rfl⟩
set_option maxHeartbeats 2000000 in
set_option maxRecDepth 20000 in
theorem c_X4_init {l : Launch} (hst : l.stackTraces = false) (D : va_G) (TC : Nat → ClassId) (H0 : Heap) (ad : Nat → Nat) (X S : St) (o : Nat → Int64) (h0 : Hp) (x : Nat) (a b : Int32) : CC l D (tysOf TC) H0 yX4_init cX4_init 3 none 1 0 0 [.ref x, .int a, .int b] ad (va_up h0 x (some (.inr (4, [.int 0, .int 0, .int 0])))) (PR ad none (va_up h0 x (some (.inr (4, [.int b, .int a, .int (-1)]))))) (fun _ => False) := by
  refine cc_intro hst (by decide +kernel) (Nat.le_of_ble_eq_true rfl) ?_
  intro p e s m args below meth c F
  rw [show lv_args 0 [.ref x, .int a, .int b] = [(0, .ref x), (1, .int a), (2, .int b)] from rfl]
  refine wa_aload_n F dX4_init_0 (i := 0) rfl 0 rfl ?_
  refine wa_objInit F ml_X4_3 w_oi1 w_oi2 ⟨Nat.le_of_ble_eq_true rfl, Nat.le_of_ble_eq_true rfl⟩ (Nat.le_of_ble_eq_true rfl) dX4_init_1 ?_
  refine wa_aload_n F dX4_init_4 (i := 0) rfl 0 rfl ?_
  refine wa_iload_n F dX4_init_5 (i := 1) rfl 1 rfl ?_
  refine wa_putf F LY_X4 (va_up_at h0 x (some (.inr (4, [.int 0, .int 0, .int 0])))) 1 (by decide) fl_X4_9 rfl rfl rfl (Nat.le_of_ble_eq_true rfl) dX4_init_6 (h' := va_up h0 x (some (.inr (4, [.int 0, .int a, .int 0])))) (va_up_up _ _ _ _) ?_
  refine wa_aload_n F dX4_init_9 (i := 0) rfl 0 rfl ?_
  refine wa_iload_n F dX4_init_10 (i := 2) rfl 2 rfl ?_
  refine wa_putF F rfl rfl LY_X4 (va_up_at h0 x (some (.inr (4, [.int 0, .int a, .int 0])))) 0 (by decide) fl_X4_15 rfl rfl rfl (Nat.le_of_ble_eq_true rfl) dX4_init_11 (h' := va_up h0 x (some (.inr (4, [.int b, .int a, .int 0])))) (va_up_up _ _ _ _) ?_
  refine wa_aload_n F dX4_init_14 (i := 0) rfl 0 rfl ?_
  refine wa_iconst (v := (-1)) F dX4_init_15 (by decide) ?_
  refine wa_putf F LY_X4 (va_up_at h0 x (some (.inr (4, [.int b, .int a, .int 0])))) 2 (by decide) fl_X4_18 rfl rfl rfl (Nat.le_of_ble_eq_true rfl) dX4_init_16 (h' := va_up h0 x (some (.inr (4, [.int b, .int a, .int (-1)])))) (va_up_up _ _ _ _) ?_
  refine wa_vret F (Nat.le_of_ble_eq_true rfl) (Nat.le_of_ble_eq_true rfl) dX4_init_19 ?_
  exact ⟨rfl, rfl, rfl⟩
set_option maxHeartbeats 2000000 in
set_option maxRecDepth 20000 in
theorem c_X2_init {l : Launch} (hst : l.stackTraces = false) (D : va_G) (TC : Nat → ClassId) (H0 : Heap) (ad : Nat → Nat) (X S : St) (o : Nat → Int64) (h0 : Hp) (x : Nat) (a b : Int32) : CC l D (tysOf TC) H0 yX2_init cX2_init 3 none 1 0 0 [.ref x, .int a, .int b] ad (va_up h0 x (some (.inr (2, [.int 0, .int 0, .int 0])))) (PR ad none (va_up h0 x (some (.inr (2, [.int a, .int b, .int (-1)]))))) (fun _ => False) := by
  refine cc_intro hst (by decide +kernel) (Nat.le_of_ble_eq_true rfl) ?_
  intro p e s m args below meth c F
  rw [show lv_args 0 [.ref x, .int a, .int b] = [(0, .ref x), (1, .int a), (2, .int b)] from rfl]
  refine wa_aload_n F dX2_init_0 (i := 0) rfl 0 rfl ?_
  refine wa_objInit F ml_X2_3 w_oi1 w_oi2 ⟨Nat.le_of_ble_eq_true rfl, Nat.le_of_ble_eq_true rfl⟩ (Nat.le_of_ble_eq_true rfl) dX2_init_1 ?_
  refine wa_aload_n F dX2_init_4 (i := 0) rfl 0 rfl ?_
  refine wa_iload_n F dX2_init_5 (i := 1) rfl 1 rfl ?_
  refine wa_putF F rfl rfl LY_X2 (va_up_at h0 x (some (.inr (2, [.int 0, .int 0, .int 0])))) 0 (by decide) fl_X2_9 rfl rfl rfl (Nat.le_of_ble_eq_true rfl) dX2_init_6 (h' := va_up h0 x (some (.inr (2, [.int a, .int 0, .int 0])))) (va_up_up _ _ _ _) ?_
  refine wa_aload_n F dX2_init_9 (i := 0) rfl 0 rfl ?_
  refine wa_iload_n F dX2_init_10 (i := 2) rfl 2 rfl ?_
  refine wa_putF F rfl rfl LY_X2 (va_up_at h0 x (some (.inr (2, [.int a, .int 0, .int 0])))) 1 (by decide) fl_X2_15 rfl rfl rfl (Nat.le_of_ble_eq_true rfl) dX2_init_11 (h' := va_up h0 x (some (.inr (2, [.int a, .int b, .int 0])))) (va_up_up _ _ _ _) ?_
  refine wa_aload_n F dX2_init_14 (i := 0) rfl 0 rfl ?_
  refine wa_iconst (v := (-1)) F dX2_init_15 (by decide) ?_
  refine wa_putf F LY_X2 (va_up_at h0 x (some (.inr (2, [.int a, .int b, .int 0])))) 2 (by decide) fl_X2_18 rfl rfl rfl (Nat.le_of_ble_eq_true rfl) dX2_init_16 (h' := va_up h0 x (some (.inr (2, [.int a, .int b, .int (-1)])))) (va_up_up _ _ _ _) ?_
  refine wa_vret F (Nat.le_of_ble_eq_true rfl) (Nat.le_of_ble_eq_true rfl) dX2_init_19 ?_
  exact ⟨rfl, rfl, rfl⟩
set_option maxHeartbeats 2000000 in
set_option maxRecDepth 20000 in
theorem c_X1_init {l : Launch} (hst : l.stackTraces = false) (D : va_G) (TC : Nat → ClassId) (H0 : Heap) (ad : Nat → Nat) (X S : St) (o : Nat → Int64) (h0 : Hp) (x : Nat) (a b u v w : Int32) : CC l D (tysOf TC) H0 yX1_init cX1_init 6 none 1 0 0 [.ref x, .int a, .int b, .int u, .int v, .int w] ad (va_up h0 x (some (.inr (1, [.int 0, .int 0, .int 0, .int 0, .int 0, .int 0, .int 0, .int 0, .int 0])))) (PR ad none (va_up h0 x (some (.inr (1, [.int a, .int b, .int u, .int v, .int w, .int 0, .int (-1), .int 0, .int 0]))))) (fun _ => False) := by
  refine cc_intro hst (by decide +kernel) (Nat.le_of_ble_eq_true rfl) ?_
  intro p e s m args below meth c F
  rw [show lv_args 0 [.ref x, .int a, .int b, .int u, .int v, .int w] = [(0, .ref x), (1, .int a), (2, .int b), (3, .int u), (4, .int v), (5, .int w)] from rfl]
  refine wa_aload_n F dX1_init_0 (i := 0) rfl 0 rfl ?_
  refine wa_objInit F ml_X1_3 w_oi1 w_oi2 ⟨Nat.le_of_ble_eq_true rfl, Nat.le_of_ble_eq_true rfl⟩ (Nat.le_of_ble_eq_true rfl) dX1_init_1 ?_
  refine wa_aload_n F dX1_init_4 (i := 0) rfl 0 rfl ?_
  refine wa_iload_n F dX1_init_5 (i := 1) rfl 1 rfl ?_
  refine wa_putF F rfl rfl LY_X1 (va_up_at h0 x (some (.inr (1, [.int 0, .int 0, .int 0, .int 0, .int 0, .int 0, .int 0, .int 0, .int 0])))) 0 (by decide) fl_X1_9 rfl rfl rfl (Nat.le_of_ble_eq_true rfl) dX1_init_6 (h' := va_up h0 x (some (.inr (1, [.int a, .int 0, .int 0, .int 0, .int 0, .int 0, .int 0, .int 0, .int 0])))) (va_up_up _ _ _ _) ?_
  refine wa_aload_n F dX1_init_9 (i := 0) rfl 0 rfl ?_
  refine wa_iload_n F dX1_init_10 (i := 2) rfl 2 rfl ?_
  refine wa_putF F rfl rfl LY_X1 (va_up_at h0 x (some (.inr (1, [.int a, .int 0, .int 0, .int 0, .int 0, .int 0, .int 0, .int 0, .int 0])))) 1 (by decide) fl_X1_15 rfl rfl rfl (Nat.le_of_ble_eq_true rfl) dX1_init_11 (h' := va_up h0 x (some (.inr (1, [.int a, .int b, .int 0, .int 0, .int 0, .int 0, .int 0, .int 0, .int 0])))) (va_up_up _ _ _ _) ?_
  refine wa_aload_n F dX1_init_14 (i := 0) rfl 0 rfl ?_
  refine wa_iload_n F dX1_init_15 (i := 3) rfl 3 rfl ?_
  refine wa_putF F rfl rfl LY_X1 (va_up_at h0 x (some (.inr (1, [.int a, .int b, .int 0, .int 0, .int 0, .int 0, .int 0, .int 0, .int 0])))) 2 (by decide) fl_X1_18 rfl rfl rfl (Nat.le_of_ble_eq_true rfl) dX1_init_16 (h' := va_up h0 x (some (.inr (1, [.int a, .int b, .int u, .int 0, .int 0, .int 0, .int 0, .int 0, .int 0])))) (va_up_up _ _ _ _) ?_
  refine wa_aload_n F dX1_init_19 (i := 0) rfl 0 rfl ?_
  refine wa_iload F dX1_init_20 4 rfl ?_
  refine wa_putF F rfl rfl LY_X1 (va_up_at h0 x (some (.inr (1, [.int a, .int b, .int u, .int 0, .int 0, .int 0, .int 0, .int 0, .int 0])))) 3 (by decide) fl_X1_21 rfl rfl rfl (Nat.le_of_ble_eq_true rfl) dX1_init_22 (h' := va_up h0 x (some (.inr (1, [.int a, .int b, .int u, .int v, .int 0, .int 0, .int 0, .int 0, .int 0])))) (va_up_up _ _ _ _) ?_
  refine wa_aload_n F dX1_init_25 (i := 0) rfl 0 rfl ?_
  refine wa_iload F dX1_init_26 5 rfl ?_
  refine wa_putF F rfl rfl LY_X1 (va_up_at h0 x (some (.inr (1, [.int a, .int b, .int u, .int v, .int 0, .int 0, .int 0, .int 0, .int 0])))) 4 (by decide) fl_X1_24 rfl rfl rfl (Nat.le_of_ble_eq_true rfl) dX1_init_28 (h' := va_up h0 x (some (.inr (1, [.int a, .int b, .int u, .int v, .int w, .int 0, .int 0, .int 0, .int 0])))) (va_up_up _ _ _ _) ?_
  refine wa_aload_n F dX1_init_31 (i := 0) rfl 0 rfl ?_
  refine wa_iconst (v := 0) F dX1_init_32 (by decide) ?_
  refine wa_putf F LY_X1 (va_up_at h0 x (some (.inr (1, [.int a, .int b, .int u, .int v, .int w, .int 0, .int 0, .int 0, .int 0])))) 5 (by decide) fl_X1_27 rfl rfl rfl (Nat.le_of_ble_eq_true rfl) dX1_init_33 (h' := va_up h0 x (some (.inr (1, [.int a, .int b, .int u, .int v, .int w, .int 0, .int 0, .int 0, .int 0])))) (va_up_up _ _ _ _) ?_
  refine wa_aload_n F dX1_init_36 (i := 0) rfl 0 rfl ?_
  refine wa_iconst (v := (-1)) F dX1_init_37 (by decide) ?_
  refine wa_putf F LY_X1 (va_up_at h0 x (some (.inr (1, [.int a, .int b, .int u, .int v, .int w, .int 0, .int 0, .int 0, .int 0])))) 6 (by decide) fl_X1_30 rfl rfl rfl (Nat.le_of_ble_eq_true rfl) dX1_init_38 (h' := va_up h0 x (some (.inr (1, [.int a, .int b, .int u, .int v, .int w, .int 0, .int (-1), .int 0, .int 0])))) (va_up_up _ _ _ _) ?_
  refine wa_vret F (Nat.le_of_ble_eq_true rfl) (Nat.le_of_ble_eq_true rfl) dX1_init_41 ?_
  exact ⟨rfl, rfl, rfl⟩
