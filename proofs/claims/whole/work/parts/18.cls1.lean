section V
variable {D : va_G} {tys : List (ClassId × FieldType)} {H0 : Heap} {p : Program} {l : Launch} {e : Env} {R : Room} {s : State} {m : MethodId} {args : Array Value} {below : List Frame} {meth : Method} {c : Code} {own : String} {cc : ByteArray} {nL : Nat} {ret : Option FieldType} {nm : String} {tb : List ExceptionTableEntry} {Q : State → Prop} {ad : Nat → Nat} {h : Hp} {cells slots pc : Nat} {lv lv' : List (Nat × Value)} {st : List Value}
theorem wa_ialV (F : FX D tys H0 p l s m args meth c own cc nL ret nm tb) (t : Nat) {cI : ClassId} (ht : tys[t]? = some (cI, .int)) {a N0 : Nat} {f : Nat → Int32} (he : h a = some (.inl (cI, N0, .inl f))) {i : Int32} (k : Nat) (hi : i = nI k) (hk : k < N0) (hN : N0 < 2 ^ 31) {v : Int32} (hv : f k = v) (d : decode cc pc = .ok (.iaload, 1))
    (K : WA D H0 p l e R s m args below meth c nL Q ad h cells slots (pc + 1) lv (.int v :: st)) : WA D H0 p l e R s m args below meth c nL Q ad h cells slots pc lv (.int i :: .ref a :: st) := by
  subst hv
  exact wa_iald F t ht he k hi hk hN d K
end V
/-! what the class finds -/
def gB (X : St) (p : Nat) (w : Int32) (h : Nat) : Bool := decide (¬ X 16 (8 * p + h) ≤ w)
def gA (X : St) (p : Nat) (w : Int32) (h : Nat) : Bool := decide (¬ X 17 (8 * p + h) ≤ w)
def hB (x w : Int32) : Bool := decide (¬ (x >>> (w &&& 31)) &&& 1 = 0)
theorem lt_u {X : St} {i g f a : Nat} {v : Int32} (hi : i < cnt X g) (h : (g != f) = true := by decide) : i < cnt (sU X f a v) g := (cnt_u h) ▸ hi
theorem le_u {X : St} {n g f a : Nat} {v : Int32} (hi : cnt X g ≤ n) (h : (g != f) = true := by decide) : cnt (sU X f a v) g ≤ n := (cnt_u h) ▸ hi
theorem nlt_u {X : St} {i g f a : Nat} {v : Int32} (hi : ¬ i < cnt X g) (h : (g != f) = true := by decide) : ¬ i < cnt (sU X f a v) g := (cnt_u h) ▸ hi
set_option maxHeartbeats 2000000 in
set_option maxRecDepth 20000 in
theorem c_X0_isForByItself {l : Launch} (hst : l.stackTraces = false) (D : va_G) (TC : Nat → ClassId) (H0 : Heap) (ad : Nat → Nat) (X S : St) (o : Nat → Int64) (i : Nat) (hi : i < cnt X 2) (hb2 : cnt X 2 ≤ 6) (fn td : Int32) (h : Hp) (HX : ∀ n e, hall TC X S o n = some e → h n = some e) : CC l D (tysOf TC) H0 yX0_isForByItself cX0_isForByItself 3 (some .boolean) 0 0 0 [.ref (1000 + i), .int fn, .int td] ad h (PR ad (some (.int (bI (decide (X 6 i ≤ td) && (decide (¬ X 3 i &&& fn = 0) && decide (X 4 i &&& fn = 0)))))) h) (fun _ => False) := by
  refine cc_intro hst (by decide +kernel) (Nat.le_of_ble_eq_true rfl) ?_
  intro p e s m args below meth c F
  rw [show lv_args 0 [.ref (1000 + i), .int fn, .int td] = [(0, .ref (1000 + i)), (1, .int fn), (2, .int td)] from rfl]
  refine wa_iload_n F dX0_isForByItself_0 (i := 2) rfl 2 rfl ?_
  refine wa_aload_n F dX0_isForByItself_1 (i := 0) rfl 0 rfl ?_
  refine wa_getf (v := .int (X 6 i)) F LY_X0 (HX _ _ (hm_act (TC := TC) (X := X) (S := S) (o := o) hi hb2)) 3 (by decide) fl_X0_19 rfl dX0_isForByItself_2 ?_
  refine wa_icmp_lt (tgt := 30) F dX0_isForByItself_5 (by decide) (fun c5 => ?_) (fun c5 => ?_)
  · skip
    replace c5 := lt_nle c5
    refine wa_iconst (v := 0) F dX0_isForByItself_30 (by decide) ?_
    refine wa_iret F rfl (Nat.le_of_ble_eq_true rfl) (Nat.le_of_ble_eq_true rfl) dX0_isForByItself_31 ?_
    exact ⟨congrArg (fun z => some (Value.int z)) (by simp [bI, c5]), rfl, rfl⟩
  · skip
    replace c5 := nlt_le c5
    refine wa_aload_n F dX0_isForByItself_8 (i := 0) rfl 0 rfl ?_
    refine wa_getf (v := .int (X 3 i)) F LY_X0 (HX _ _ (hm_act (TC := TC) (X := X) (S := S) (o := o) hi hb2)) 0 (by decide) fl_X0_7 rfl dX0_isForByItself_9 ?_
    refine wa_iload_n F dX0_isForByItself_12 (i := 1) rfl 1 rfl ?_
    refine wa_iand F dX0_isForByItself_13 ?_
    refine wa_if_eq (tgt := 30) F dX0_isForByItself_14 (by decide) (fun c14 => ?_) (fun c14 => ?_)
    · skip
      refine wa_iconst (v := 0) F dX0_isForByItself_30 (by decide) ?_
      refine wa_iret F rfl (Nat.le_of_ble_eq_true rfl) (Nat.le_of_ble_eq_true rfl) dX0_isForByItself_31 ?_
      exact ⟨congrArg (fun z => some (Value.int z)) (by simp [bI, c5, c14]), rfl, rfl⟩
    · skip
      refine wa_aload_n F dX0_isForByItself_17 (i := 0) rfl 0 rfl ?_
      refine wa_getf (v := .int (X 4 i)) F LY_X0 (HX _ _ (hm_act (TC := TC) (X := X) (S := S) (o := o) hi hb2)) 1 (by decide) fl_X0_13 rfl dX0_isForByItself_18 ?_
      refine wa_iload_n F dX0_isForByItself_21 (i := 1) rfl 1 rfl ?_
      refine wa_iand F dX0_isForByItself_22 ?_
      refine wa_if_ne (tgt := 30) F dX0_isForByItself_23 (by decide) (fun c23 => ?_) (fun c23 => ?_)
      · skip
        refine wa_iconst (v := 0) F dX0_isForByItself_30 (by decide) ?_
        refine wa_iret F rfl (Nat.le_of_ble_eq_true rfl) (Nat.le_of_ble_eq_true rfl) dX0_isForByItself_31 ?_
        exact ⟨congrArg (fun z => some (Value.int z)) (by simp [bI, c5, c14, c23]), rfl, rfl⟩
      · skip
        refine wa_iconst (v := 1) F dX0_isForByItself_26 (by decide) ?_
        refine wa_goto (tgt := 31) F dX0_isForByItself_27 (by decide) ?_
        refine wa_iret F rfl (Nat.le_of_ble_eq_true rfl) (Nat.le_of_ble_eq_true rfl) dX0_isForByItself_31 ?_
        exact ⟨congrArg (fun z => some (Value.int z)) (by simp [bI, c5, c14, c23]), rfl, rfl⟩
set_option maxHeartbeats 2000000 in
set_option maxRecDepth 20000 in
theorem c_X4_isListedOn {l : Launch} (hst : l.stackTraces = false) (D : va_G) (TC : Nat → ClassId) (H0 : Heap) (ad : Nat → Nat) (X S : St) (o : Nat → Int64) (i : Nat) (hi : i < cnt X 9) (hb9 : cnt X 9 ≤ 12) (td : Int32) (h : Hp) (HX : ∀ n e, hall TC X S o n = some e → h n = some e) : CC l D (tysOf TC) H0 yX4_isListedOn cX4_isListedOn 2 (some .boolean) 0 0 0 [.ref (1100 + i), .int td] ad h (PR ad (some (.int (bI (decide (X 11 i ≤ td) && (decide (unt X i = -1) || decide (td ≤ unt X i)))))) h) (fun _ => False) := by
  refine cc_intro hst (by decide +kernel) (Nat.le_of_ble_eq_true rfl) ?_
  intro p e s m args below meth c F
  rw [show lv_args 0 [.ref (1100 + i), .int td] = [(0, .ref (1100 + i)), (1, .int td)] from rfl]
  refine wa_iload_n F dX4_isListedOn_0 (i := 1) rfl 1 rfl ?_
  refine wa_aload_n F dX4_isListedOn_1 (i := 0) rfl 0 rfl ?_
  refine wa_getf (v := .int (X 11 i)) F LY_X4 (HX _ _ (hm_std (TC := TC) (X := X) (S := S) (o := o) hi hb9)) 0 (by decide) fl_X4_15 rfl dX4_isListedOn_2 ?_
  refine wa_icmp_lt (tgt := 28) F dX4_isListedOn_5 (by decide) (fun c5 => ?_) (fun c5 => ?_)
  · skip
    replace c5 := lt_nle c5
    refine wa_iconst (v := 0) F dX4_isListedOn_28 (by decide) ?_
    refine wa_iret F rfl (Nat.le_of_ble_eq_true rfl) (Nat.le_of_ble_eq_true rfl) dX4_isListedOn_29 ?_
    exact ⟨congrArg (fun z => some (Value.int z)) (by simp [bI, c5]), rfl, rfl⟩
  · skip
    replace c5 := nlt_le c5
    refine wa_aload_n F dX4_isListedOn_8 (i := 0) rfl 0 rfl ?_
    refine wa_getf (v := .int (unt X i)) F LY_X4 (HX _ _ (hm_std (TC := TC) (X := X) (S := S) (o := o) hi hb9)) 2 (by decide) fl_X4_18 rfl dX4_isListedOn_9 ?_
    refine wa_iconst (v := (-1)) F dX4_isListedOn_12 (by decide) ?_
    refine wa_icmp_eq (tgt := 24) F dX4_isListedOn_13 (by decide) (fun c13 => ?_) (fun c13 => ?_)
    · skip
      refine wa_iconst (v := 1) F dX4_isListedOn_24 (by decide) ?_
      refine wa_goto (tgt := 29) F dX4_isListedOn_25 (by decide) ?_
      refine wa_iret F rfl (Nat.le_of_ble_eq_true rfl) (Nat.le_of_ble_eq_true rfl) dX4_isListedOn_29 ?_
      exact ⟨congrArg (fun z => some (Value.int z)) (by simp [bI, c5, c13]), rfl, rfl⟩
    · skip
      refine wa_iload_n F dX4_isListedOn_16 (i := 1) rfl 1 rfl ?_
      refine wa_aload_n F dX4_isListedOn_17 (i := 0) rfl 0 rfl ?_
      refine wa_getf (v := .int (unt X i)) F LY_X4 (HX _ _ (hm_std (TC := TC) (X := X) (S := S) (o := o) hi hb9)) 2 (by decide) fl_X4_18 rfl dX4_isListedOn_18 ?_
      refine wa_icmp_gt (tgt := 28) F dX4_isListedOn_21 (by decide) (fun c21 => ?_) (fun c21 => ?_)
      · skip
        replace c21 := lt_nle c21
        refine wa_iconst (v := 0) F dX4_isListedOn_28 (by decide) ?_
        refine wa_iret F rfl (Nat.le_of_ble_eq_true rfl) (Nat.le_of_ble_eq_true rfl) dX4_isListedOn_29 ?_
        exact ⟨congrArg (fun z => some (Value.int z)) (by simp [bI, c5, c13, c21]), rfl, rfl⟩
      · skip
        replace c21 := nlt_le c21
        refine wa_iconst (v := 1) F dX4_isListedOn_24 (by decide) ?_
        refine wa_goto (tgt := 29) F dX4_isListedOn_25 (by decide) ?_
        refine wa_iret F rfl (Nat.le_of_ble_eq_true rfl) (Nat.le_of_ble_eq_true rfl) dX4_isListedOn_29 ?_
        exact ⟨congrArg (fun z => some (Value.int z)) (by simp [bI, c5, c13, c21]), rfl, rfl⟩
set_option maxHeartbeats 2000000 in
set_option maxRecDepth 20000 in
theorem c_X3_isVisitCounted {l : Launch} (hst : l.stackTraces = false) (D : va_G) (TC : Nat → ClassId) (H0 : Heap) (ad : Nat → Nat) (X S : St) (o : Nat → Int64) (q : Nat) (hq : q < cnt X 13) (hb13 : cnt X 13 ≤ 10) (td : Int32) (h : Hp) (HX : ∀ n e, hall TC X S o n = some e → h n = some e) : CC l D (tysOf TC) H0 yX3_isVisitCounted cX3_isVisitCounted 2 (some .boolean) 0 0 0 [.ref (1200 + q), .int td] ad h (PR ad (some (.int (bI (decide (¬ X 22 q = -1) && decide (td ≤ X 22 q + 365))))) h) (fun _ => False) := by
  refine cc_intro hst (by decide +kernel) (Nat.le_of_ble_eq_true rfl) ?_
  intro p e s m args below meth c F
  rw [show lv_args 0 [.ref (1200 + q), .int td] = [(0, .ref (1200 + q)), (1, .int td)] from rfl]
  refine wa_aload_n F dX3_isVisitCounted_0 (i := 0) rfl 0 rfl ?_
  refine wa_getf (v := .int (X 22 q)) F LY_X3 (HX _ _ (hm_prd (TC := TC) (X := X) (S := S) (o := o) hq hb13)) 9 (by decide) fl_X3_31 rfl dX3_isVisitCounted_1 ?_
  refine wa_iconst (v := (-1)) F dX3_isVisitCounted_4 (by decide) ?_
  refine wa_icmp_eq (tgt := 24) F dX3_isVisitCounted_5 (by decide) (fun c5 => ?_) (fun c5 => ?_)
  · skip
    refine wa_iconst (v := 0) F dX3_isVisitCounted_24 (by decide) ?_
    refine wa_iret F rfl (Nat.le_of_ble_eq_true rfl) (Nat.le_of_ble_eq_true rfl) dX3_isVisitCounted_25 ?_
    exact ⟨congrArg (fun z => some (Value.int z)) (by simp [bI, c5]), rfl, rfl⟩
  · skip
    refine wa_iload_n F dX3_isVisitCounted_8 (i := 1) rfl 1 rfl ?_
    refine wa_aload_n F dX3_isVisitCounted_9 (i := 0) rfl 0 rfl ?_
    refine wa_getf (v := .int (X 22 q)) F LY_X3 (HX _ _ (hm_prd (TC := TC) (X := X) (S := S) (o := o) hq hb13)) 9 (by decide) fl_X3_31 rfl dX3_isVisitCounted_10 ?_
    refine wa_sipush (v := 365) F dX3_isVisitCounted_13 (by decide) ?_
    refine wa_iadd F dX3_isVisitCounted_16 ?_
    refine wa_icmp_gt (tgt := 24) F dX3_isVisitCounted_17 (by decide) (fun c17 => ?_) (fun c17 => ?_)
    · skip
      replace c17 := lt_nle c17
      refine wa_iconst (v := 0) F dX3_isVisitCounted_24 (by decide) ?_
      refine wa_iret F rfl (Nat.le_of_ble_eq_true rfl) (Nat.le_of_ble_eq_true rfl) dX3_isVisitCounted_25 ?_
      exact ⟨congrArg (fun z => some (Value.int z)) (by simp [bI, c5, c17]), rfl, rfl⟩
    · skip
      replace c17 := nlt_le c17
      refine wa_iconst (v := 1) F dX3_isVisitCounted_20 (by decide) ?_
      refine wa_goto (tgt := 25) F dX3_isVisitCounted_21 (by decide) ?_
      refine wa_iret F rfl (Nat.le_of_ble_eq_true rfl) (Nat.le_of_ble_eq_true rfl) dX3_isVisitCounted_25 ?_
      exact ⟨congrArg (fun z => some (Value.int z)) (by simp [bI, c5, c17]), rfl, rfl⟩
set_option maxHeartbeats 2000000 in
set_option maxRecDepth 20000 in
theorem c_X3_hazardsAbove_rb {l : Launch} (hst : l.stackTraces = false) (D : va_G) (TC : Nat → ClassId) (H0 : Heap) (ad : Nat → Nat) (X S : St) (o : Nat → Int64) (q : Nat) (hq : q < cnt X 13) (hb13 : cnt X 13 ≤ 10) (w : Int32) (h : Hp) (HX : ∀ n e, hall TC X S o n = some e → h n = some e) : CC l D (tysOf TC) H0 yX3_hazardsAbove cX3_hazardsAbove 4 (some .int) 0 0 0 [.int w, .ref (1500 + q)] ad h (PR ad (some (.int (bm (gB X q w) 8))) h) (fun _ => False) := by
  refine cc_intro hst (by decide +kernel) (Nat.le_of_ble_eq_true rfl) ?_
  intro p e s m args below meth c F
  rw [show lv_args 0 [.int w, .ref (1500 + q)] = [(0, .int w), (1, .ref (1500 + q))] from rfl]
  refine wa_iconst (v := 0) F dX3_hazardsAbove_0 (by decide) ?_
  refine wa_istore_n (lv' := [(2, .int 0), (0, .int w), (1, .ref (1500 + q))]) F dX3_hazardsAbove_1 (i := 2) rfl (by decide) rfl ?_
  refine wa_iconst (v := 0) F dX3_hazardsAbove_2 (by decide) ?_
  refine wa_istore_n (lv' := [(3, .int 0), (2, .int 0), (0, .int w), (1, .ref (1500 + q))]) F dX3_hazardsAbove_3 (i := 3) rfl (by decide) rfl ?_
  have loop4 : ∀ (n k : Nat), k ≤ 8 → 8 - k < n → WA D H0 p l e (RM 0 0 0) s m args below meth c 4 (vx_MQ below (QC0 D H0 (PR ad (some (.int (bm (gB X q w) 8))) h)) (XC0 D H0 (fun _ => False) ad h) args s 0 0 (hA0 H0)) ad h 0 0 4 [(3, .int (nI k)), (2, .int (bm (gB X q w) k)), (0, .int w), (1, .ref (1500 + q))] [] := by
    intro n
    induction n with
    | zero => intro k h1 h2; omega
    | succ n ih_k =>
      intro k hk_k hn_k
      refine wa_iload_n F dX3_hazardsAbove_4 (i := 3) rfl 0 rfl ?_
      refine wa_aload_n F dX3_hazardsAbove_5 (i := 1) rfl 3 rfl ?_
      refine wa_alen F 0 rfl (HX _ _ (hm_rb (TC := TC) (X := X) (S := S) (o := o) hq hb13)) dX3_hazardsAbove_6 ?_
      refine wa_icmp_ge (tgt := 29) F dX3_hazardsAbove_7 (by decide) (fun c7 => ?_) (fun c7 => ?_)
      · skip
        have he_k : k = 8 := Nat.le_antisymm hk_k (nle_k rfl (by omega) (by omega) c7)
        subst he_k
        refine wa_iload_n F dX3_hazardsAbove_29 (i := 2) rfl 1 rfl ?_
        refine wa_iret F rfl (Nat.le_of_ble_eq_true rfl) (Nat.le_of_ble_eq_true rfl) dX3_hazardsAbove_30 ?_
        exact ⟨rfl, rfl, rfl⟩
      · skip
        have hl_k : k < 8 := knle rfl (by omega) (by omega) c7
        refine wa_aload_n F dX3_hazardsAbove_10 (i := 1) rfl 3 rfl ?_
        refine wa_iload_n F dX3_hazardsAbove_11 (i := 3) rfl 0 rfl ?_
        refine wa_ialV F 0 rfl (HX _ _ (hm_rb (TC := TC) (X := X) (S := S) (o := o) hq hb13)) k rfl (by omega) (by decide) (v := (X 16 (8 * q + k))) (mk_lt (by omega)) dX3_hazardsAbove_12 ?_
        refine wa_iload_n F dX3_hazardsAbove_13 (i := 0) rfl 2 rfl ?_
        refine wa_icmp_le (tgt := 23) F dX3_hazardsAbove_14 (by decide) (fun c14 => ?_) (fun c14 => ?_)
        · skip
          refine wa_iinc (v := (nI (k + 1))) (j := 0) (lv' := [(3, .int (nI (k + 1))), (2, .int (bm (gB X q w) k)), (0, .int w), (1, .ref (1500 + q))]) F dX3_hazardsAbove_23 rfl ((nI_succ k).symm) (by decide) rfl ?_
          refine wa_goto (tgt := 4) F dX3_hazardsAbove_26 (by decide) ?_
          have ea1 : (bm (gB X q w) k) = (bm (gB X q w) (k + 1)) := by simp [bm, gB, c14]
          refine wa_lv (lv' := [(3, .int (nI (k + 1))), (2, .int (bm (gB X q w) (k + 1))), (0, .int w), (1, .ref (1500 + q))]) [0, 1, 2, 3] (by rw [← ea1]; rfl) ?_
          exact ih_k (k + 1) (by omega) (by omega)
        · skip
          refine wa_iload_n F dX3_hazardsAbove_17 (i := 2) rfl 1 rfl ?_
          refine wa_iconst (v := 1) F dX3_hazardsAbove_18 (by decide) ?_
          refine wa_iload_n F dX3_hazardsAbove_19 (i := 3) rfl 0 rfl ?_
          refine wa_ishl F dX3_hazardsAbove_20 ?_
          refine wa_ior F dX3_hazardsAbove_21 ?_
          refine wa_istore_n (lv' := [(2, .int ((bm (gB X q w) k) ||| (1 <<< ((nI k) &&& 31)))), (3, .int (nI k)), (0, .int w), (1, .ref (1500 + q))]) F dX3_hazardsAbove_22 (i := 2) rfl (by decide) rfl ?_
          refine wa_iinc (v := (nI (k + 1))) (j := 1) (lv' := [(3, .int (nI (k + 1))), (2, .int ((bm (gB X q w) k) ||| (1 <<< ((nI k) &&& 31)))), (0, .int w), (1, .ref (1500 + q))]) F dX3_hazardsAbove_23 rfl ((nI_succ k).symm) (by decide) rfl ?_
          refine wa_goto (tgt := 4) F dX3_hazardsAbove_26 (by decide) ?_
          have ea2 : ((bm (gB X q w) k) ||| (1 <<< ((nI k) &&& 31))) = (bm (gB X q w) (k + 1)) := by simp [bm, gB, c14]
          refine wa_lv (lv' := [(3, .int (nI (k + 1))), (2, .int (bm (gB X q w) (k + 1))), (0, .int w), (1, .ref (1500 + q))]) [0, 1, 2, 3] (by rw [← ea2]; rfl) ?_
          exact ih_k (k + 1) (by omega) (by omega)
  exact loop4 (8 + 1) 0 (Nat.zero_le _) (by omega)
set_option maxHeartbeats 2000000 in
set_option maxRecDepth 20000 in
theorem c_X3_hazardsAbove_ra {l : Launch} (hst : l.stackTraces = false) (D : va_G) (TC : Nat → ClassId) (H0 : Heap) (ad : Nat → Nat) (X S : St) (o : Nat → Int64) (q : Nat) (hq : q < cnt X 13) (hb13 : cnt X 13 ≤ 10) (w : Int32) (h : Hp) (HX : ∀ n e, hall TC X S o n = some e → h n = some e) : CC l D (tysOf TC) H0 yX3_hazardsAbove cX3_hazardsAbove 4 (some .int) 0 0 0 [.int w, .ref (1600 + q)] ad h (PR ad (some (.int (bm (gA X q w) 8))) h) (fun _ => False) := by
  refine cc_intro hst (by decide +kernel) (Nat.le_of_ble_eq_true rfl) ?_
  intro p e s m args below meth c F
  rw [show lv_args 0 [.int w, .ref (1600 + q)] = [(0, .int w), (1, .ref (1600 + q))] from rfl]
  refine wa_iconst (v := 0) F dX3_hazardsAbove_0 (by decide) ?_
  refine wa_istore_n (lv' := [(2, .int 0), (0, .int w), (1, .ref (1600 + q))]) F dX3_hazardsAbove_1 (i := 2) rfl (by decide) rfl ?_
  refine wa_iconst (v := 0) F dX3_hazardsAbove_2 (by decide) ?_
  refine wa_istore_n (lv' := [(3, .int 0), (2, .int 0), (0, .int w), (1, .ref (1600 + q))]) F dX3_hazardsAbove_3 (i := 3) rfl (by decide) rfl ?_
  have loop4 : ∀ (n k : Nat), k ≤ 8 → 8 - k < n → WA D H0 p l e (RM 0 0 0) s m args below meth c 4 (vx_MQ below (QC0 D H0 (PR ad (some (.int (bm (gA X q w) 8))) h)) (XC0 D H0 (fun _ => False) ad h) args s 0 0 (hA0 H0)) ad h 0 0 4 [(3, .int (nI k)), (2, .int (bm (gA X q w) k)), (0, .int w), (1, .ref (1600 + q))] [] := by
    intro n
    induction n with
    | zero => intro k h1 h2; omega
    | succ n ih_k =>
      intro k hk_k hn_k
      refine wa_iload_n F dX3_hazardsAbove_4 (i := 3) rfl 0 rfl ?_
      refine wa_aload_n F dX3_hazardsAbove_5 (i := 1) rfl 3 rfl ?_
      refine wa_alen F 0 rfl (HX _ _ (hm_ra (TC := TC) (X := X) (S := S) (o := o) hq hb13)) dX3_hazardsAbove_6 ?_
      refine wa_icmp_ge (tgt := 29) F dX3_hazardsAbove_7 (by decide) (fun c7 => ?_) (fun c7 => ?_)
      · skip
        have he_k : k = 8 := Nat.le_antisymm hk_k (nle_k rfl (by omega) (by omega) c7)
        subst he_k
        refine wa_iload_n F dX3_hazardsAbove_29 (i := 2) rfl 1 rfl ?_
        refine wa_iret F rfl (Nat.le_of_ble_eq_true rfl) (Nat.le_of_ble_eq_true rfl) dX3_hazardsAbove_30 ?_
        exact ⟨rfl, rfl, rfl⟩
      · skip
        have hl_k : k < 8 := knle rfl (by omega) (by omega) c7
        refine wa_aload_n F dX3_hazardsAbove_10 (i := 1) rfl 3 rfl ?_
        refine wa_iload_n F dX3_hazardsAbove_11 (i := 3) rfl 0 rfl ?_
        refine wa_ialV F 0 rfl (HX _ _ (hm_ra (TC := TC) (X := X) (S := S) (o := o) hq hb13)) k rfl (by omega) (by decide) (v := (X 17 (8 * q + k))) (mk_lt (by omega)) dX3_hazardsAbove_12 ?_
        refine wa_iload_n F dX3_hazardsAbove_13 (i := 0) rfl 2 rfl ?_
        refine wa_icmp_le (tgt := 23) F dX3_hazardsAbove_14 (by decide) (fun c14 => ?_) (fun c14 => ?_)
        · skip
          refine wa_iinc (v := (nI (k + 1))) (j := 0) (lv' := [(3, .int (nI (k + 1))), (2, .int (bm (gA X q w) k)), (0, .int w), (1, .ref (1600 + q))]) F dX3_hazardsAbove_23 rfl ((nI_succ k).symm) (by decide) rfl ?_
          refine wa_goto (tgt := 4) F dX3_hazardsAbove_26 (by decide) ?_
          have ea1 : (bm (gA X q w) k) = (bm (gA X q w) (k + 1)) := by simp [bm, gA, c14]
          refine wa_lv (lv' := [(3, .int (nI (k + 1))), (2, .int (bm (gA X q w) (k + 1))), (0, .int w), (1, .ref (1600 + q))]) [0, 1, 2, 3] (by rw [← ea1]; rfl) ?_
          exact ih_k (k + 1) (by omega) (by omega)
        · skip
          refine wa_iload_n F dX3_hazardsAbove_17 (i := 2) rfl 1 rfl ?_
          refine wa_iconst (v := 1) F dX3_hazardsAbove_18 (by decide) ?_
          refine wa_iload_n F dX3_hazardsAbove_19 (i := 3) rfl 0 rfl ?_
          refine wa_ishl F dX3_hazardsAbove_20 ?_
          refine wa_ior F dX3_hazardsAbove_21 ?_
          refine wa_istore_n (lv' := [(2, .int ((bm (gA X q w) k) ||| (1 <<< ((nI k) &&& 31)))), (3, .int (nI k)), (0, .int w), (1, .ref (1600 + q))]) F dX3_hazardsAbove_22 (i := 2) rfl (by decide) rfl ?_
          refine wa_iinc (v := (nI (k + 1))) (j := 1) (lv' := [(3, .int (nI (k + 1))), (2, .int ((bm (gA X q w) k) ||| (1 <<< ((nI k) &&& 31)))), (0, .int w), (1, .ref (1600 + q))]) F dX3_hazardsAbove_23 rfl ((nI_succ k).symm) (by decide) rfl ?_
          refine wa_goto (tgt := 4) F dX3_hazardsAbove_26 (by decide) ?_
          have ea2 : ((bm (gA X q w) k) ||| (1 <<< ((nI k) &&& 31))) = (bm (gA X q w) (k + 1)) := by simp [bm, gA, c14]
          refine wa_lv (lv' := [(3, .int (nI (k + 1))), (2, .int (bm (gA X q w) (k + 1))), (0, .int w), (1, .ref (1600 + q))]) [0, 1, 2, 3] (by rw [← ea2]; rfl) ?_
          exact ih_k (k + 1) (by omega) (by omega)
  exact loop4 (8 + 1) 0 (Nat.zero_le _) (by omega)
set_option maxHeartbeats 2000000 in
set_option maxRecDepth 20000 in
theorem c_X3_hazardsBeforeAbove {l : Launch} (hst : l.stackTraces = false) (D : va_G) (TC : Nat → ClassId) (H0 : Heap) (ad : Nat → Nat) (X S : St) (o : Nat → Int64) (q : Nat) (hq : q < cnt X 13) (hb13 : cnt X 13 ≤ 10) (w : Int32) (h : Hp) (HX : ∀ n e, hall TC X S o n = some e → h n = some e) : CC l D (tysOf TC) H0 yX3_hazardsBeforeAbove cX3_hazardsBeforeAbove 2 (some .int) 1 0 0 [.ref (1200 + q), .int w] ad h (PR ad (some (.int (bm (gB X q w) 8))) h) (fun _ => False) := by
  refine cc_intro hst (by decide +kernel) (Nat.le_of_ble_eq_true rfl) ?_
  intro p e s m args below meth c F
  rw [show lv_args 0 [.ref (1200 + q), .int w] = [(0, .ref (1200 + q)), (1, .int w)] from rfl]
  refine wa_iload_n F dX3_hazardsBeforeAbove_0 (i := 1) rfl 1 rfl ?_
  refine wa_aload_n F dX3_hazardsBeforeAbove_1 (i := 0) rfl 0 rfl ?_
  refine wa_getf (v := .ref (1500 + q)) F LY_X3 (HX _ _ (hm_prd (TC := TC) (X := X) (S := S) (o := o) hq hb13)) 0 (by decide) fl_X3_15 rfl dX3_hazardsBeforeAbove_2 ?_
  refine wa_callS F [] (c_X3_hazardsAbove_rb hst D TC H0 ad X S o q hq hb13 w h HX) mw_X3_hazardsAbove ml_X3_47 rfl (Nat.le_of_ble_eq_true rfl) ⟨Nat.le_of_ble_eq_true rfl, Nat.le_of_ble_eq_true rfl⟩ ⟨Nat.le_of_ble_eq_true rfl, Nat.le_of_ble_eq_true rfl⟩ dX3_hazardsBeforeAbove_5 PR_ag (fun _ z => z.elim) ?_
  rintro _ _ _ ⟨rfl, rfl, rfl⟩
  refine wa_iret F rfl (Nat.le_of_ble_eq_true rfl) (Nat.le_of_ble_eq_true rfl) dX3_hazardsBeforeAbove_8 ?_
  exact ⟨rfl, rfl, rfl⟩
set_option maxHeartbeats 2000000 in
set_option maxRecDepth 20000 in
theorem c_X3_hazardsAfterAbove {l : Launch} (hst : l.stackTraces = false) (D : va_G) (TC : Nat → ClassId) (H0 : Heap) (ad : Nat → Nat) (X S : St) (o : Nat → Int64) (q : Nat) (hq : q < cnt X 13) (hb13 : cnt X 13 ≤ 10) (w : Int32) (h : Hp) (HX : ∀ n e, hall TC X S o n = some e → h n = some e) : CC l D (tysOf TC) H0 yX3_hazardsAfterAbove cX3_hazardsAfterAbove 2 (some .int) 1 0 0 [.ref (1200 + q), .int w] ad h (PR ad (some (.int (bm (gA X q w) 8))) h) (fun _ => False) := by
  refine cc_intro hst (by decide +kernel) (Nat.le_of_ble_eq_true rfl) ?_
  intro p e s m args below meth c F
  rw [show lv_args 0 [.ref (1200 + q), .int w] = [(0, .ref (1200 + q)), (1, .int w)] from rfl]
  refine wa_iload_n F dX3_hazardsAfterAbove_0 (i := 1) rfl 1 rfl ?_
  refine wa_aload_n F dX3_hazardsAfterAbove_1 (i := 0) rfl 0 rfl ?_
  refine wa_getf (v := .ref (1600 + q)) F LY_X3 (HX _ _ (hm_prd (TC := TC) (X := X) (S := S) (o := o) hq hb13)) 1 (by decide) fl_X3_19 rfl dX3_hazardsAfterAbove_2 ?_
  refine wa_callS F [] (c_X3_hazardsAbove_ra hst D TC H0 ad X S o q hq hb13 w h HX) mw_X3_hazardsAbove ml_X3_47 rfl (Nat.le_of_ble_eq_true rfl) ⟨Nat.le_of_ble_eq_true rfl, Nat.le_of_ble_eq_true rfl⟩ ⟨Nat.le_of_ble_eq_true rfl, Nat.le_of_ble_eq_true rfl⟩ dX3_hazardsAfterAbove_5 PR_ag (fun _ z => z.elim) ?_
  rintro _ _ _ ⟨rfl, rfl, rfl⟩
  refine wa_iret F rfl (Nat.le_of_ble_eq_true rfl) (Nat.le_of_ble_eq_true rfl) dX3_hazardsAfterAbove_8 ?_
  exact ⟨rfl, rfl, rfl⟩
set_option maxHeartbeats 2000000 in
set_option maxRecDepth 20000 in
theorem c_X2_isSuspended {l : Launch} (hst : l.stackTraces = false) (D : va_G) (TC : Nat → ClassId) (H0 : Heap) (ad : Nat → Nat) (X S : St) (o : Nat → Int64) (b : Nat) (hb : b < cnt X 25) (hb25 : cnt X 25 ≤ 5) (h : Hp) (HX : ∀ n e, hall TC X S o n = some e → h n = some e) : CC l D (tysOf TC) H0 yX2_isSuspended cX2_isSuspended 1 (some .boolean) 0 0 0 [.ref (1300 + b)] ad h (PR ad (some (.int (bI (decide (¬ X 27 b = -1))))) h) (fun _ => False) := by
  refine cc_intro hst (by decide +kernel) (Nat.le_of_ble_eq_true rfl) ?_
  intro p e s m args below meth c F
  rw [show lv_args 0 [.ref (1300 + b)] = [(0, .ref (1300 + b))] from rfl]
  refine wa_aload_n F dX2_isSuspended_0 (i := 0) rfl 0 rfl ?_
  refine wa_getf (v := .int (X 27 b)) F LY_X2 (HX _ _ (hm_bod (TC := TC) (X := X) (S := S) (o := o) hb hb25)) 2 (by decide) fl_X2_18 rfl dX2_isSuspended_1 ?_
  refine wa_iconst (v := (-1)) F dX2_isSuspended_4 (by decide) ?_
  refine wa_icmp_eq (tgt := 12) F dX2_isSuspended_5 (by decide) (fun c5 => ?_) (fun c5 => ?_)
  · skip
    refine wa_iconst (v := 0) F dX2_isSuspended_12 (by decide) ?_
    refine wa_iret F rfl (Nat.le_of_ble_eq_true rfl) (Nat.le_of_ble_eq_true rfl) dX2_isSuspended_13 ?_
    exact ⟨congrArg (fun z => some (Value.int z)) (by simp [bI, c5]), rfl, rfl⟩
  · skip
    refine wa_iconst (v := 1) F dX2_isSuspended_8 (by decide) ?_
    refine wa_goto (tgt := 13) F dX2_isSuspended_9 (by decide) ?_
    refine wa_iret F rfl (Nat.le_of_ble_eq_true rfl) (Nat.le_of_ble_eq_true rfl) dX2_isSuspended_13 ?_
    exact ⟨congrArg (fun z => some (Value.int z)) (by simp [bI, c5]), rfl, rfl⟩
set_option maxHeartbeats 2000000 in
set_option maxRecDepth 20000 in
theorem c_X2_hasInScope {l : Launch} (hst : l.stackTraces = false) (D : va_G) (TC : Nat → ClassId) (H0 : Heap) (ad : Nat → Nat) (X S : St) (o : Nat → Int64) (b : Nat) (hb : b < cnt X 25) (hb25 : cnt X 25 ≤ 5) (w : Int32) (h : Hp) (HX : ∀ n e, hall TC X S o n = some e → h n = some e) : CC l D (tysOf TC) H0 yX2_hasInScope cX2_hasInScope 2 (some .boolean) 0 0 0 [.ref (1300 + b), .int w] ad h (PR ad (some (.int (bI (decide (w &&& (X 26 b ^^^ (-1)) = 0))))) h) (fun _ => False) := by
  refine cc_intro hst (by decide +kernel) (Nat.le_of_ble_eq_true rfl) ?_
  intro p e s m args below meth c F
  rw [show lv_args 0 [.ref (1300 + b), .int w] = [(0, .ref (1300 + b)), (1, .int w)] from rfl]
  refine wa_iload_n F dX2_hasInScope_0 (i := 1) rfl 1 rfl ?_
  refine wa_aload_n F dX2_hasInScope_1 (i := 0) rfl 0 rfl ?_
  refine wa_getf (v := .int (X 26 b)) F LY_X2 (HX _ _ (hm_bod (TC := TC) (X := X) (S := S) (o := o) hb hb25)) 1 (by decide) fl_X2_15 rfl dX2_hasInScope_2 ?_
  refine wa_iconst (v := (-1)) F dX2_hasInScope_5 (by decide) ?_
  refine wa_ixor F dX2_hasInScope_6 ?_
  refine wa_iand F dX2_hasInScope_7 ?_
  refine wa_if_ne (tgt := 15) F dX2_hasInScope_8 (by decide) (fun c8 => ?_) (fun c8 => ?_)
  · skip
    refine wa_iconst (v := 0) F dX2_hasInScope_15 (by decide) ?_
    refine wa_iret F rfl (Nat.le_of_ble_eq_true rfl) (Nat.le_of_ble_eq_true rfl) dX2_hasInScope_16 ?_
    exact ⟨congrArg (fun z => some (Value.int z)) (by rw [decide_eq_false c8]; rfl), rfl, rfl⟩
  · skip
    refine wa_iconst (v := 1) F dX2_hasInScope_11 (by decide) ?_
    refine wa_goto (tgt := 16) F dX2_hasInScope_12 (by decide) ?_
    refine wa_iret F rfl (Nat.le_of_ble_eq_true rfl) (Nat.le_of_ble_eq_true rfl) dX2_hasInScope_16 ?_
    exact ⟨congrArg (fun z => some (Value.int z)) (by rw [decide_eq_true c8]; rfl), rfl, rfl⟩
set_option maxHeartbeats 2000000 in
set_option maxRecDepth 20000 in
theorem c_X2_isCertificateUpheld {l : Launch} (hst : l.stackTraces = false) (D : va_G) (TC : Nat → ClassId) (H0 : Heap) (ad : Nat → Nat) (X S : St) (o : Nat → Int64) (b : Nat) (hb : b < cnt X 25) (hb25 : cnt X 25 ≤ 5) (td : Int32) (h : Hp) (HX : ∀ n e, hall TC X S o n = some e → h n = some e) : CC l D (tysOf TC) H0 yX2_isCertificateUpheld cX2_isCertificateUpheld 2 (some .boolean) 1 0 0 [.ref (1300 + b), .int td] ad h (PR ad (some (.int (bI (decide (X 27 b = -1) || decide (td ≤ X 27 b + 100))))) h) (fun _ => False) := by
  refine cc_intro hst (by decide +kernel) (Nat.le_of_ble_eq_true rfl) ?_
  intro p e s m args below meth c F
  rw [show lv_args 0 [.ref (1300 + b), .int td] = [(0, .ref (1300 + b)), (1, .int td)] from rfl]
  refine wa_aload_n F dX2_isCertificateUpheld_0 (i := 0) rfl 0 rfl ?_
  refine wa_callV F [] (c_X2_isSuspended hst D TC H0 ad X S o b hb hb25 h HX) mw_X2_isSuspended ml_X2_21 (HX _ _ (hm_bod (TC := TC) (X := X) (S := S) (o := o) hb hb25)) rfl rfl (Nat.le_of_ble_eq_true rfl) ⟨Nat.le_of_ble_eq_true rfl, Nat.le_of_ble_eq_true rfl⟩ ⟨Nat.le_of_ble_eq_true rfl, Nat.le_of_ble_eq_true rfl⟩ dX2_isCertificateUpheld_1 PR_ag (fun _ z => z.elim) ?_
  rintro _ _ _ ⟨rfl, rfl, rfl⟩
  refine wa_if_eq (tgt := 18) F dX2_isCertificateUpheld_4 (by decide) (fun c4 => ?_) (fun c4 => ?_)
  · skip
    replace c4 : (decide (¬ X 27 b = -1)) = false := bI_f c4
    refine wa_iconst (v := 1) F dX2_isCertificateUpheld_18 (by decide) ?_
    refine wa_goto (tgt := 23) F dX2_isCertificateUpheld_19 (by decide) ?_
    refine wa_iret F rfl (Nat.le_of_ble_eq_true rfl) (Nat.le_of_ble_eq_true rfl) dX2_isCertificateUpheld_23 ?_
    simp at c4
    exact ⟨congrArg (fun z => some (Value.int z)) (by simp [bI, c4]), rfl, rfl⟩
  · skip
    replace c4 : (decide (¬ X 27 b = -1)) = true := bI_t c4
    refine wa_iload_n F dX2_isCertificateUpheld_7 (i := 1) rfl 1 rfl ?_
    refine wa_aload_n F dX2_isCertificateUpheld_8 (i := 0) rfl 0 rfl ?_
    refine wa_getf (v := .int (X 27 b)) F LY_X2 (HX _ _ (hm_bod (TC := TC) (X := X) (S := S) (o := o) hb hb25)) 2 (by decide) fl_X2_18 rfl dX2_isCertificateUpheld_9 ?_
    refine wa_bipush (v := 100) F dX2_isCertificateUpheld_12 (by decide) ?_
    refine wa_iadd F dX2_isCertificateUpheld_14 ?_
    refine wa_icmp_gt (tgt := 22) F dX2_isCertificateUpheld_15 (by decide) (fun c15 => ?_) (fun c15 => ?_)
    · skip
      replace c15 := lt_nle c15
      refine wa_iconst (v := 0) F dX2_isCertificateUpheld_22 (by decide) ?_
      refine wa_iret F rfl (Nat.le_of_ble_eq_true rfl) (Nat.le_of_ble_eq_true rfl) dX2_isCertificateUpheld_23 ?_
      simp at c4
      exact ⟨congrArg (fun z => some (Value.int z)) (by simp [bI, c4, c15]), rfl, rfl⟩
    · skip
      replace c15 := nlt_le c15
      refine wa_iconst (v := 1) F dX2_isCertificateUpheld_18 (by decide) ?_
      refine wa_goto (tgt := 23) F dX2_isCertificateUpheld_19 (by decide) ?_
      refine wa_iret F rfl (Nat.le_of_ble_eq_true rfl) (Nat.le_of_ble_eq_true rfl) dX2_isCertificateUpheld_23 ?_
      simp at c4
      exact ⟨congrArg (fun z => some (Value.int z)) (by simp [bI, c4, c15]), rfl, rfl⟩
set_option maxHeartbeats 2000000 in
set_option maxRecDepth 20000 in
theorem c_X1_isOnMarketOf {l : Launch} (hst : l.stackTraces = false) (D : va_G) (TC : Nat → ClassId) (H0 : Heap) (ad : Nat → Nat) (X S : St) (o : Nat → Int64) (i : Nat) (hi : i < cnt X 28) (hb28 : cnt X 28 ≤ 40) (w : Int32) (h : Hp) (HX : ∀ n e, hall TC X S o n = some e → h n = some e) : CC l D (tysOf TC) H0 yX1_isOnMarketOf cX1_isOnMarketOf 2 (some .boolean) 0 0 0 [.ref (1400 + i), .int w] ad h (PR ad (some (.int (bI (decide (X 29 i = w) && decide (X 34 i = 0))))) h) (fun _ => False) := by
  refine cc_intro hst (by decide +kernel) (Nat.le_of_ble_eq_true rfl) ?_
  intro p e s m args below meth c F
  rw [show lv_args 0 [.ref (1400 + i), .int w] = [(0, .ref (1400 + i)), (1, .int w)] from rfl]
  refine wa_aload_n F dX1_isOnMarketOf_0 (i := 0) rfl 0 rfl ?_
  refine wa_getf (v := .int (X 29 i)) F LY_X1 (HX _ _ (hm_bat (TC := TC) (X := X) (S := S) (o := o) hi hb28)) 0 (by decide) fl_X1_9 rfl dX1_isOnMarketOf_1 ?_
  refine wa_iload_n F dX1_isOnMarketOf_4 (i := 1) rfl 1 rfl ?_
  refine wa_icmp_ne (tgt := 19) F dX1_isOnMarketOf_5 (by decide) (fun c5 => ?_) (fun c5 => ?_)
  · skip
    refine wa_iconst (v := 0) F dX1_isOnMarketOf_19 (by decide) ?_
    refine wa_iret F rfl (Nat.le_of_ble_eq_true rfl) (Nat.le_of_ble_eq_true rfl) dX1_isOnMarketOf_20 ?_
    exact ⟨congrArg (fun z => some (Value.int z)) (by simp [bI, c5]), rfl, rfl⟩
  · skip
    refine wa_aload_n F dX1_isOnMarketOf_8 (i := 0) rfl 0 rfl ?_
    refine wa_getf (v := .int (X 34 i)) F LY_X1 (HX _ _ (hm_bat (TC := TC) (X := X) (S := S) (o := o) hi hb28)) 5 (by decide) fl_X1_27 rfl dX1_isOnMarketOf_9 ?_
    refine wa_if_ne (tgt := 19) F dX1_isOnMarketOf_12 (by decide) (fun c12 => ?_) (fun c12 => ?_)
    · skip
      refine wa_iconst (v := 0) F dX1_isOnMarketOf_19 (by decide) ?_
      refine wa_iret F rfl (Nat.le_of_ble_eq_true rfl) (Nat.le_of_ble_eq_true rfl) dX1_isOnMarketOf_20 ?_
      exact ⟨congrArg (fun z => some (Value.int z)) (by simp [bI, c5, c12]), rfl, rfl⟩
    · skip
      refine wa_iconst (v := 1) F dX1_isOnMarketOf_15 (by decide) ?_
      refine wa_goto (tgt := 20) F dX1_isOnMarketOf_16 (by decide) ?_
      refine wa_iret F rfl (Nat.le_of_ble_eq_true rfl) (Nat.le_of_ble_eq_true rfl) dX1_isOnMarketOf_20 ?_
      exact ⟨congrArg (fun z => some (Value.int z)) (by simp [bI, c5, c12]), rfl, rfl⟩
set_option maxHeartbeats 2000000 in
set_option maxRecDepth 20000 in
theorem c_X5_hasBit {l : Launch} (hst : l.stackTraces = false) (D : va_G) (tys : List (ClassId × FieldType)) (H0 : Heap) (ad : Nat → Nat) (h : Hp) (x w : Int32) : CC l D tys H0 yX5_hasBit cX5_hasBit 2 (some .boolean) 0 0 0 [.int x, .int w] ad h (PR ad (some (.int (bI (hB x w)))) h) (fun _ => False) := by
  refine cc_intro hst (by decide +kernel) (Nat.le_of_ble_eq_true rfl) ?_
  intro p e s m args below meth c F
  rw [show lv_args 0 [.int x, .int w] = [(0, .int x), (1, .int w)] from rfl]
  refine wa_iload_n F dX5_hasBit_0 (i := 0) rfl 0 rfl ?_
  refine wa_iload_n F dX5_hasBit_1 (i := 1) rfl 1 rfl ?_
  refine wa_ishr F dX5_hasBit_2 ?_
  refine wa_iconst (v := 1) F dX5_hasBit_3 (by decide) ?_
  refine wa_iand F dX5_hasBit_4 ?_
  refine wa_if_eq (tgt := 12) F dX5_hasBit_5 (by decide) (fun c5 => ?_) (fun c5 => ?_)
  · skip
    refine wa_iconst (v := 0) F dX5_hasBit_12 (by decide) ?_
    refine wa_iret F rfl (Nat.le_of_ble_eq_true rfl) (Nat.le_of_ble_eq_true rfl) dX5_hasBit_13 ?_
    exact ⟨congrArg (fun z => some (Value.int z)) (by simp [bI, hB, c5]), rfl, rfl⟩
  · skip
    refine wa_iconst (v := 1) F dX5_hasBit_8 (by decide) ?_
    refine wa_goto (tgt := 13) F dX5_hasBit_9 (by decide) ?_
    refine wa_iret F rfl (Nat.le_of_ble_eq_true rfl) (Nat.le_of_ble_eq_true rfl) dX5_hasBit_13 ?_
    exact ⟨congrArg (fun z => some (Value.int z)) (by simp [bI, hB, c5]), rfl, rfl⟩
