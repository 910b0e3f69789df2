/-! contracts over the abstract heap -/
def GW : List Cond := lw_tbl.filter goodWord
def PC0 (D : va_G) (tys : List (ClassId × FieldType)) (H0 : Heap) (ad : Nat → Nat) (h : Hp) (As : List Value) : Array Value → State → Prop := fun v U => v = (As.map (cV ad)).toArray ∧ ST D tys H0 U ∧ HP D H0 ad h U.heap
def QC0 (D : va_G) (H0 : Heap) (post : Option Value → (Nat → Nat) → Hp → Prop) : Array Value → State → Outcome → State → Prop := fun _ st o t => (∃ (v : Option Value) (ad' : Nat → Nat) (h' : Hp), o = .returned (Option.map (cV ad') v) ∧ post v ad' h' ∧ HP D H0 ad' h' t.heap) ∧ va_F (hA0 H0) st t
def XC0 (D : va_G) (H0 : Heap) (px : String → Prop) (ad : Nat → Nat) (h : Hp) : String → State → State → Prop := fun E st t => px E ∧ HP D H0 ad h t.heap ∧ va_F (hA0 H0) st t
/-- method y returns as post says, or throws one of px and leaves the abstract heap as it was -/
def CC (l : Launch) (D : va_G) (tys : List (ClassId × FieldType)) (H0 : Heap) (y : MethodName) (cc : ByteArray) (nL : Nat) (ret : Option FieldType) (k mc ms : Nat) (As : List Value) (ad : Nat → Nat) (h : Hp) (post : Option Value → (Nat → Nat) → Hp → Prop) (px : String → Prop) : Prop :=
  vx_Met l y (Cond.code y cc nL ret :: GW) (RM k mc ms) (PC0 D tys H0 ad h As) (QC0 D H0 post) (XC0 D H0 px ad h) mc ms (hA0 H0)
def CCH (l : Launch) (D : va_G) (tys : List (ClassId × FieldType)) (H0 : Heap) (y : MethodName) (cc : ByteArray) (nL : Nat) (ret : Option FieldType) (hh : List (Nat × Nat × Nat × Nat)) (k mc ms : Nat) (As : List Value) (ad : Nat → Nat) (h : Hp) (post : Option Value → (Nat → Nat) → Hp → Prop) (px : String → Prop) : Prop :=
  vx_Met l y (Cond.codeWith y cc nL ret hh :: GW) (RM k mc ms) (PC0 D tys H0 ad h As) (QC0 D H0 post) (XC0 D H0 px ad h) mc ms (hA0 H0)
/-- an answer r, the new abstract heap h1 -/
def PR (ad : Nat → Nat) (r : Option Value) (h1 : Hp) : Option Value → (Nat → Nat) → Hp → Prop := fun v ad' h' => r = v ∧ ad = ad' ∧ h1 = h'
/-- the same, new cells may have come -/
def PN (ad : Nat → Nat) (h : Hp) (r : Option Value) (h1 : Hp) : Option Value → (Nat → Nat) → Hp → Prop := fun v ad' h' => r = v ∧ (∀ n, h n ≠ none → ad' n = ad n) ∧ h1 = h'
theorem PC0_blind (D : va_G) (tys : List (ClassId × FieldType)) (H0 : Heap) (ad : Nat → Nat) (h : Hp) (As : List Value) : FrameBlind (PC0 D tys H0 ad h As) := fun a U g mk q => ⟨q.1, q.2.1.calling, q.2.2⟩
theorem lgsl_len (ad : Nat → Nat) (vs : List Value) : (lg_sl (vs.map (cV ad))).length = (lg_sl vs).length := by
  induction vs with
  | nil => rfl
  | cons v t ih =>
    simp only [lg_sl, List.map_cons, List.flatMap_cons, List.length_append, cat_cV] at ih ⊢
    rw [ih]
    split <;> rfl
theorem lvargs_map (ad : Nat → Nat) (vs : List Value) : ∀ i, lv_args i (vs.map (cV ad)) = (lv_args i vs).map (cL ad) := by
  induction vs with
  | nil => intro i; rfl
  | cons v t ih =>
    intro i
    simp only [List.map_cons, lv_args, cat_cV, ih]
    rfl
section CALLS
variable {D : va_G} {tys : List (ClassId × FieldType)} {H0 : Heap} {p : Program} {l : Launch} {e : Env} {R : Room} {s : State} {m : MethodId} {args : Array Value} {below : List Frame} {meth : Method} {c : Code} {own : String} {cc : ByteArray} {nL : Nat} {ret : Option FieldType} {nm : String} {tb : List ExceptionTableEntry} {Q : State → Prop} {ad : Nat → Nat} {h : Hp} {cells slots pc : Nat} {lv lv' : List (Nat × Value)} {st : List Value}
theorem cc_intro {y : MethodName} {k mc ms : Nat} {As : List Value} {post : Option Value → (Nat → Nat) → Hp → Prop} {px : String → Prop} (hst : l.stackTraces = false) (hy : plainName y.cls = true) (hAs : (lg_sl As).length ≤ nL)
    (body : ∀ p e s m args below meth c, FX D tys H0 p l s m args meth c y.cls cc nL ret y.name [] → WA D H0 p l e (RM k mc ms) s m args below meth c nL (vx_MQ below (QC0 D H0 post) (XC0 D H0 px ad h) args s mc ms (hA0 H0)) ad h 0 0 0 (lv_args 0 As) []) : CC l D tys H0 y cc nL ret k mc ms As ad h post px := by
  refine vx_ofW hy rfl ?_
  intro p e s m args below meth c s₁ B hml htb hP
  obtain ⟨rfl, hST, hHP⟩ := hP
  have hts := atoms_spec (ws := Cond.code y cc nL ret :: GW) B.pre
  have F : FX D tys H0 p l s m (As.map (cV ad)).toArray meth c y.cls cc nL ret y.name [] := ⟨B.exec, B.bytes, hml, findClass_of_methodNamed B.named, fun w hw hg => hts w (List.mem_cons_of_mem _ (List.mem_filter.mpr ⟨hw, hg⟩)), hST, B.notSynchronized, B.returns, hst, (name_of_methodNamed B.named B.method).1, List.eq_nil_iff_forall_not_mem.mpr htb, hHP.1, hHP.2.1⟩
  rw [lg_entry_eq]
  refine body p e s m _ below meth c F s.heap [] _ hHP va_S.rf ?_
  rw [← lvargs_map]
  exact lv_entry (As.map (cV ad)) (by rw [lgsl_len]; exact hAs)
theorem cc_introH {y : MethodName} {hh : List (Nat × Nat × Nat × Nat)} {k mc ms : Nat} {As : List Value} {post : Option Value → (Nat → Nat) → Hp → Prop} {px : String → Prop} (hst : l.stackTraces = false) (hy : plainName y.cls = true) (hAs : (lg_sl As).length ≤ nL)
    (body : ∀ p e s m args below meth c, FX D tys H0 p l s m args meth c y.cls cc nL ret y.name (tableOf hh) → WA D H0 p l e (RM k mc ms) s m args below meth c nL (vx_MQ below (QC0 D H0 post) (XC0 D H0 px ad h) args s mc ms (hA0 H0)) ad h 0 0 0 (lv_args 0 As) []) : CCH l D tys H0 y cc nL ret hh k mc ms As ad h post px := by
  refine vx_ofWH hy rfl ?_
  intro p e s m args below meth c s₁ B hml hP
  obtain ⟨rfl, hST, hHP⟩ := hP
  have hts := atoms_spec (ws := Cond.codeWith y cc nL ret hh :: GW) B.pre
  have F : FX D tys H0 p l s m (As.map (cV ad)).toArray meth c y.cls cc nL ret y.name (tableOf hh) := ⟨B.exec, B.bytes, hml, findClass_of_methodNamed B.named, fun w hw hg => hts w (List.mem_cons_of_mem _ (List.mem_filter.mpr ⟨hw, hg⟩)), hST, B.notSynchronized, B.returns, hst, (name_of_methodNamed B.named B.method).1, vx_table (x := y) B (hts _ List.mem_cons_self), hHP.1, hHP.2.1⟩
  rw [lg_entry_eq]
  refine body p e s m _ below meth c F s.heap [] _ hHP va_S.rf ?_
  rw [← lvargs_map]
  exact lv_entry (As.map (cV ad)) (by rw [lgsl_len]; exact hAs)
/-! ends -/
section ENDS
variable {mc ms : Nat} {post : Option Value → (Nat → Nat) → Hp → Prop} {px : String → Prop} {ad0 : Nat → Nat} {h0 : Hp}
theorem wa_iret {v : Int32} {rt : FieldType} (F : FX D tys H0 p l s m args meth c own cc nL (some rt) nm tb) (hn : narrow rt (.int v) = .int v) (hc : cells ≤ mc) (hs : slots ≤ ms) (d : decode cc pc = .ok (.ireturn, 1)) (hp : post (some (.int v)) ad h) :
    WA D H0 p l e R s m args below meth c nL (vx_MQ below (QC0 D H0 post) (XC0 D H0 px ad0 h0) args s mc ms (hA0 H0)) ad h cells slots pc lv [.int v] := fun H locs ls hH hS hl =>
  vx_ret (W.widen hc hs (W.zret F.1 F.2.1 F.2.2.2.2.2.2.2.1 hn (fun t ht hW => ⟨⟨some (.int v), ad, h, rfl, hp, by rw [ht]; exact hH⟩, hS.F ht⟩) hS.2.2 d (hlocks := F.2.2.2.2.2.2.1)))
theorem wa_vret (F : FX D tys H0 p l s m args meth c own cc nL none nm tb) (hc : cells ≤ mc) (hs : slots ≤ ms) (d : decode cc pc = .ok (.return_, 1)) (hp : post none ad h) :
    WA D H0 p l e R s m args below meth c nL (vx_MQ below (QC0 D H0 post) (XC0 D H0 px ad0 h0) args s mc ms (hA0 H0)) ad h cells slots pc lv [] := fun H locs ls hH hS hl =>
  vx_ret (W.widen hc hs (W.vret F.1 F.2.1 F.2.2.2.2.2.2.2.1 (fun t ht hW => ⟨⟨none, ad, h, rfl, hp, by rw [ht]; exact hH⟩, hS.F ht⟩) hS.2.2 d (hlocks := F.2.2.2.2.2.2.1)))
theorem wa_aret {n : Nat} {C0 : String} (F : FX D tys H0 p l s m args meth c own cc nL (some (.object C0)) nm tb) (hc : cells ≤ mc) (hs : slots ≤ ms) (d : decode cc pc = .ok (.areturn, 1)) (hp : post (some (.ref n)) ad h) :
    WA D H0 p l e R s m args below meth c nL (vx_MQ below (QC0 D H0 post) (XC0 D H0 px ad0 h0) args s mc ms (hA0 H0)) ad h cells slots pc lv [.ref n] := fun H locs ls hH hS hl =>
  vx_ret (W.widen hc hs (W.aret F.1 F.2.1 F.2.2.2.2.2.2.2.1 (Or.inl ⟨_, rfl⟩) (Or.inr ⟨ad n, rfl⟩) (fun t ht hW => ⟨⟨some (.ref n), ad, h, rfl, hp, by rw [ht]; exact hH⟩, hS.F ht⟩) hS.2.2 d (hlocks := F.2.2.2.2.2.2.1)))
/-- a throw that this method doesn't catch -/
theorem wx_out {E : String} (F : FX D tys H0 p l s m args meth c own cc nL ret nm []) (hc : cells ≤ mc) (hs : slots ≤ ms) (hp : px E) (hh : h = h0) (ha : ad = ad0) :
    WX D H0 p l e R s m args below meth c nL (vx_MQ below (QC0 D H0 post) (XC0 D H0 px ad0 h0) args s mc ms (hA0 H0)) ad h cells slots pc lv E := by
  subst hh; subst ha
  intro H locs ls rest q ce hH hS hl hce hcv hcl
  exact vx_out (fun x hx => by rw [F.2.2.2.2.2.2.2.2.2.2.1] at hx; cases hx) F.2.2.2.2.2.2.1 hce hcv hcl (fun t ht hW => ⟨hp, by rw [ht]; exact hH, hS.F ht⟩) hS.2.2 hc hs
theorem wa_throwS {cls text : String} {ik is ic : Nat} (F : FX D tys H0 p l s m args meth c own cc nL ret nm []) (hcls : Bundle.fit cls = true) (w1 : Cond.classLink own ik cls ∈ lw_tbl) (w2 : Cond.initialized cls ∈ lw_tbl) (w3 : Cond.stringRef own is text ∈ lw_tbl)
    (hat : ∀ w ∈ vx_atS own ic cls ["java/lang/RuntimeException", "java/lang/Exception"], w ∈ lw_tbl ∧ (goodWord w || dcW w) = true)
    (hgood : ∀ w ∈ Cond.classLink own ik cls :: Cond.initialized cls :: vx_atS own ic cls ["java/lang/RuntimeException", "java/lang/Exception"], vx_ot w = true)
    (d0 : decode cc pc = .ok (.new ik, 3)) (d3 : decode cc (pc + 3) = .ok (.dup, 1)) (d4 : decode cc (pc + 4) = .ok (.ldc is, 2)) (d6 : decode cc (pc + 6) = .ok (.invokespecial ic, 3)) (d9 : decode cc (pc + 9) = .ok (.athrow, 1))
    (hRf : 5 < R.frames) (hRl : 8 + 82 ≤ R.locals) (hcat : (st.map fun v => v.category).sum ≤ 8) (hRc : cells + 1 ≤ R.cells) (hRs : slots + 6 ≤ R.slots) (hc : cells + 1 ≤ mc) (hs : slots + 6 ≤ ms) (hp : px cls) (hh : h = h0) (ha : ad = ad0) :
    WA D H0 p l e R s m args below meth c nL (vx_MQ below (QC0 D H0 post) (XC0 D H0 px ad0 h0) args s mc ms (hA0 H0)) ad h cells slots pc lv st := by
  subst hh; subst ha
  intro H locs ls hH hS hl
  obtain ⟨sa, hsa⟩ := F.2.2.2.2.2.1.2.2.1 _ _ _ w3
  have hkeep : ∀ q : Nat, q < H0.size → ¬ hA0 H0 q → s.heap[q]? = H0[q]? := fun q hq _ => F.2.2.2.2.2.2.2.2.2.2.2.2 q hq
  refine vx_throwS F.1 F.2.1 F.2.2.2.2.2.2.2.2.1 F.2.2.2.1 hcls (names := ["java/lang/RuntimeException", "java/lang/Exception"]) (by decide +kernel) (F.2.2.2.2.1 _ w1 rfl) (F.2.2.2.2.1 _ w2 rfl) hsa (fun w hw => ?_) hgood (F.2.2.2.2.2.1.2.2.2.2.1.kept hkeep) (F.2.2.2.2.2.1.2.2.2.2.2.1.kept hkeep) hS (hl.1.trans F.2.2.1.symm) d0 d3 d4 d6 d9 (fun x hx => by rw [F.2.2.2.2.2.2.2.2.2.2.1] at hx; cases hx) hRf ?_ hRc hRs F.2.2.2.2.2.2.1 (fun t hal hz hq => ⟨hp, hH.grow hz hq, ?_⟩) hS.2.2 hc hs
  · obtain ⟨h1, h2⟩ := hat w hw
    by_cases g : goodWord w = true
    · exact F.2.2.2.2.1 w h1 g
    · have g2 : dcW w = true := by simpa [g] using h2
      exact va_Nw.use (dcW_on g2) (F.2.2.2.2.2.1.2.2.2.2.2.2.1 w h1 g2)
  · have e1 : ((st.map (cV ad)).map fun v => v.category) = st.map fun v => v.category := by
      rw [List.map_map]; exact List.map_congr_left fun v _ => cat_cV ad v
    rw [e1]
    simp only [List.length_cons, List.length_nil]
    omega
  · exact ⟨Nat.le_trans hS.1 hz, fun q h1 h2 => (hq q (Nat.lt_of_lt_of_le h1 hS.1)).trans (hS.2.1 q h1 h2)⟩
theorem wa_throwSW {cls text : String} {ik is ic : Nat} (F : FX D tys H0 p l s m args meth c own cc nL ret nm []) (hcls : Bundle.fit cls = true) (w1 : Cond.classLink own ik cls ∈ lw_tbl) (w2 : Cond.initialized cls ∈ lw_tbl) (w3 : Cond.stringRef own is text ∈ lw_tbl)
    (hat : ∀ w ∈ vx_atS own ic cls ["java/lang/RuntimeException", "java/lang/Exception"], w ∈ lw_tbl ∧ (goodWord w || dcW w) = true)
    (hgood : ∀ w ∈ Cond.classLink own ik cls :: Cond.initialized cls :: vx_atS own ic cls ["java/lang/RuntimeException", "java/lang/Exception"], vx_ot w = true)
    (d0 : decode cc pc = .ok (.new ik, 3)) (d3 : decode cc (pc + 3) = .ok (.dup, 1)) (d4 : decode cc (pc + 4) = .ok (.ldc_w is, 3)) (d7 : decode cc (pc + 7) = .ok (.invokespecial ic, 3)) (d10 : decode cc (pc + 10) = .ok (.athrow, 1))
    (hRf : 5 < R.frames) (hRl : 8 + 82 ≤ R.locals) (hcat : (st.map fun v => v.category).sum ≤ 8) (hRc : cells + 1 ≤ R.cells) (hRs : slots + 6 ≤ R.slots) (hc : cells + 1 ≤ mc) (hs : slots + 6 ≤ ms) (hp : px cls) (hh : h = h0) (ha : ad = ad0) :
    WA D H0 p l e R s m args below meth c nL (vx_MQ below (QC0 D H0 post) (XC0 D H0 px ad0 h0) args s mc ms (hA0 H0)) ad h cells slots pc lv st := by
  subst hh; subst ha
  intro H locs ls hH hS hl
  obtain ⟨sa, hsa⟩ := F.2.2.2.2.2.1.2.2.1 _ _ _ w3
  have hkeep : ∀ q : Nat, q < H0.size → ¬ hA0 H0 q → s.heap[q]? = H0[q]? := fun q hq _ => F.2.2.2.2.2.2.2.2.2.2.2.2 q hq
  refine vx_throwSW F.1 F.2.1 F.2.2.2.2.2.2.2.2.1 F.2.2.2.1 hcls (names := ["java/lang/RuntimeException", "java/lang/Exception"]) (by decide +kernel) (F.2.2.2.2.1 _ w1 rfl) (F.2.2.2.2.1 _ w2 rfl) hsa (fun w hw => ?_) hgood (F.2.2.2.2.2.1.2.2.2.2.1.kept hkeep) (F.2.2.2.2.2.1.2.2.2.2.2.1.kept hkeep) hS (hl.1.trans F.2.2.1.symm) d0 d3 d4 d7 d10 (fun x hx => by rw [F.2.2.2.2.2.2.2.2.2.2.1] at hx; cases hx) hRf ?_ hRc hRs F.2.2.2.2.2.2.1 (fun t hal hz hq => ⟨hp, hH.grow hz hq, ?_⟩) hS.2.2 hc hs
  · obtain ⟨h1, h2⟩ := hat w hw
    by_cases g : goodWord w = true
    · exact F.2.2.2.2.1 w h1 g
    · have g2 : dcW w = true := by simpa [g] using h2
      exact va_Nw.use (dcW_on g2) (F.2.2.2.2.2.1.2.2.2.2.2.2.1 w h1 g2)
  · have e1 : ((st.map (cV ad)).map fun v => v.category) = st.map fun v => v.category := by
      rw [List.map_map]; exact List.map_congr_left fun v _ => cat_cV ad v
    rw [e1]
    simp only [List.length_cons, List.length_nil]
    omega
  · exact ⟨Nat.le_trans hS.1 hz, fun q h1 h2 => (hq q (Nat.lt_of_lt_of_le h1 hS.1)).trans (hS.2.1 q h1 h2)⟩
end ENDS
/-! calls -/
theorem cat_st (ad : Nat → Nat) (st : List Value) : ((st.map (cV ad)).map fun v => v.category) = st.map fun v => v.category := by
  rw [List.map_map]; exact List.map_congr_left fun v _ => cat_cV ad v
theorem wa_of_run {mc ms : Nat} {post : Option Value → (Nat → Nat) → Hp → Prop} {px : String → Prop} {rest : List Value} {a : Array Value}
    (hr : ∀ (H : Heap) (locs : List Loc) (ls : Array Slot), HP D H0 ad h H → va_S (hA0 H0) s.heap H locs → lv_has ls nL (lv.map (cL ad)) → vx_Run p l e R s m args below meth c H locs cells slots mc ms (F0 m pc ls (st.map (cV ad))) (rest.map (cV ad)) (QC0 D H0 post a) (XC0 D H0 px ad h) (hA0 H0))
    (hag : ∀ v ad' h', post v ad' h' → lv.map (cL ad') = lv.map (cL ad) ∧ rest.map (cV ad') = rest.map (cV ad))
    (kx : ∀ E, px E → WX D H0 p l e R s m args below meth c nL Q ad h (cells + mc) (slots + ms) pc lv E)
    (kk : ∀ v ad' h', post v ad' h' → WA D H0 p l e R s m args below meth c nL Q ad' h' (cells + mc) (slots + ms) (pc + 3) lv (v.toList ++ rest)) :
    WA D H0 p l e R s m args below meth c nL Q ad h cells slots pc lv st := by
  intro H locs ls hH hS hl T hT X
  rcases hr H locs ls hH hS hl T hT X with ⟨v, st₀, t, T', L, h0, X', hL, e1, e2, ⟨⟨v', ad', h', hv, hpost, hHP⟩, hF⟩, stp⟩ | ⟨q, st₀, t, T', L, E, ce, h0, X', hL, e1, e2, ⟨hpx, hHP, hF⟩, hce, hcv, hcl, stp⟩
  · obtain ⟨-, -, k3⟩ := vx_keep h0 e1 hS (fun _ _ z => z) (fun _ z => z) hL hF
    have hv2 : v = Option.map (cV ad') v' := by injection hv
    obtain ⟨g1, g2⟩ := hag v' ad' h' hpost
    obtain ⟨t2, a1, b1⟩ := kk v' ad' h' hpost T'.heap (locs ++ L) ls (by rw [e1]; exact hHP) k3 (by rw [g1]; exact hl) T' rfl X'
    have e3 : (v'.toList ++ rest).map (cV ad') = v.toList ++ rest.map (cV ad) := by
      rw [List.map_append, g2, hv2]
      cases v' <;> rfl
    rw [e3] at a1
    exact ⟨t2, stp t2 a1, b1⟩
  · obtain ⟨-, -, k3⟩ := vx_keep h0 e1 hS (fun _ _ z => z) (fun _ z => z) hL hF
    obtain ⟨t2, a1, b1⟩ := kx E hpx T'.heap (locs ++ L) ls (rest.map (cV ad)) q ce (by rw [e1]; exact hHP) k3 hl (by rw [e1]; exact hce) hcv hcl T' rfl X'
    exact ⟨t2, stp.trans a1, b1⟩
theorem PR_ag {r : Option Value} {h1 : Hp} {lv : List (Nat × Value)} {rest : List Value} : ∀ v ad' h', PR ad r h1 v ad' h' → lv.map (cL ad') = lv.map (cL ad) ∧ rest.map (cV ad') = rest.map (cV ad) := by
  rintro v ad' h' ⟨-, rfl, -⟩
  exact ⟨rfl, rfl⟩
theorem PN_ag {r : Option Value} {h1 : Hp} {lv : List (Nat × Value)} {rest : List Value} (hlv : ∀ x ∈ lv, ∀ n, x.2 = .ref n → h n ≠ none) (hrs : ∀ x ∈ rest, ∀ n, x = .ref n → h n ≠ none) : ∀ v ad' h', PN ad h r h1 v ad' h' → lv.map (cL ad') = lv.map (cL ad) ∧ rest.map (cV ad') = rest.map (cV ad) := by
  rintro v ad' h' ⟨-, ha, -⟩
  have key : ∀ v : Value, (∀ n, v = .ref n → h n ≠ none) → cV ad' v = cV ad v := by
    intro v hv
    cases v with
    | ref n => show Value.ref (ad' n) = Value.ref (ad n); rw [ha n (hv n rfl)]
    | _ => rfl
  exact ⟨List.map_congr_left fun x hx => by unfold cL; rw [key _ (hlv x hx)], List.map_congr_left fun x hx => key _ (hrs x hx)⟩
def MWV (y : MethodName) (bytes : ByteArray) (maxL : Nat) (rt : Option FieldType) (n : Nat) : Prop := Cond.instanceMethod y ∈ lw_tbl ∧ Cond.selects y.cls y y ∈ lw_tbl ∧ Cond.code y bytes maxL rt ∈ lw_tbl ∧ Cond.initialized y.cls ∈ lw_tbl ∧ (y.cls ≠ "java/lang/invoke/MethodHandle" ∧ y.cls ≠ "java/lang/invoke/VarHandle" ∧ (parseMethodDescriptor y.desc).map (fun d => d.parameters.length) = some n)
def MWI (y : MethodName) (bytes : ByteArray) (maxL : Nat) (n : Nat) : Prop := Cond.instanceMethod y ∈ lw_tbl ∧ Cond.code y bytes maxL none ∈ lw_tbl ∧ Cond.initialized y.cls ∈ lw_tbl ∧ y.name = "<init>" ∧ (y.cls ≠ "java/lang/invoke/MethodHandle" ∧ y.cls ≠ "java/lang/invoke/VarHandle" ∧ (parseMethodDescriptor y.desc).map (fun d => d.parameters.length) = some n)
def MWS (y : MethodName) (bytes : ByteArray) (maxL : Nat) (rt : Option FieldType) (n : Nat) : Prop := Cond.static y ∈ lw_tbl ∧ Cond.code y bytes maxL rt ∈ lw_tbl ∧ Cond.initialized y.cls ∈ lw_tbl ∧ (y.cls ≠ "java/lang/invoke/MethodHandle" ∧ y.cls ≠ "java/lang/invoke/VarHandle" ∧ (parseMethodDescriptor y.desc).map (fun d => d.parameters.length) = some n)
def MWH (y : MethodName) (bytes : ByteArray) (maxL : Nat) (rt : Option FieldType) (hh : List (Nat × Nat × Nat × Nat)) (n : Nat) : Prop := Cond.static y ∈ lw_tbl ∧ Cond.codeWith y bytes maxL rt hh ∈ lw_tbl ∧ Cond.initialized y.cls ∈ lw_tbl ∧ (y.cls ≠ "java/lang/invoke/MethodHandle" ∧ y.cls ≠ "java/lang/invoke/VarHandle" ∧ (parseMethodDescriptor y.desc).map (fun d => d.parameters.length) = some n)
theorem FX.gw (F : FX D tys H0 p l s m args meth c own cc nL ret nm tb) : ∀ w ∈ GW, w.before args s = true := fun w hw => F.2.2.2.2.1 w (List.mem_filter.mp hw).1 (List.mem_filter.mp hw).2
theorem gin {w : Cond} {ws : List Cond} (h1 : w ∈ lw_tbl) (h2 : goodWord w = true) (hs : GoodIn GW ws) : GoodIn GW (w :: ws) := fun x hx => (List.mem_cons.mp hx).elim (fun z => by rw [z]; exact ⟨List.mem_filter.mpr ⟨h1, h2⟩, good_of_word h2⟩) (hs x)
theorem gin0 : GoodIn GW GW := fun x hx => ⟨hx, good_of_word (List.mem_filter.mp hx).2⟩
theorem PC0_pre {As : List Value} (F : FX D tys H0 p l s m args meth c own cc nL ret nm tb) {H : Heap} (hH : HP D H0 ad h H) : ∀ U : State, U.heap = H → s.WarmedH U.vm → PC0 D tys H0 ad h As (As.map (cV ad)).toArray U := fun U hU hW => ⟨rfl, F.2.2.2.2.2.1.warm hW, by rw [hU]; exact hH⟩
theorem wa_callV (F : FX D tys H0 p l s m args meth c own cc nL ret nm tb) {y : MethodName} {bytes : ByteArray} {maxL : Nat} {rt : Option FieldType} {k mc ms : Nat} {As : List Value} {b : Nat} {post : Option Value → (Nat → Nat) → Hp → Prop} {px : String → Prop} (rest : List Value)
    (M : CC l D tys H0 y bytes maxL rt k mc ms (.ref b :: As) ad h post px) (mw : MWV y bytes maxL rt As.length) {index : Nat} (w : Cond.methodLink own index y ∈ lw_tbl) {ci N : Nat} {T : u_T} {fs : List Value} (he : h b = some (.inr (ci, fs))) (hcl : vwCl[ci]? = some (y.cls, T, N))
    (hst : st = As.reverse ++ .ref b :: rest) (hcat : (rest.map fun v => v.category).sum ≤ 8) (hR : k + 1 ≤ R.frames ∧ 8 + (maxL + 11) + (28 * k + 60) ≤ R.locals) (hcs : cells + mc ≤ R.cells ∧ slots + ms ≤ R.slots) (d : decode cc pc = .ok (.invokevirtual index, 3))
    (hag : ∀ v ad' h', post v ad' h' → lv.map (cL ad') = lv.map (cL ad) ∧ rest.map (cV ad') = rest.map (cV ad))
    (kx : ∀ E, px E → WX D H0 p l e R s m args below meth c nL Q ad h (cells + mc) (slots + ms) pc lv E)
    (kk : ∀ v ad' h', post v ad' h' → WA D H0 p l e R s m args below meth c nL Q ad' h' (cells + mc) (slots + ms) (pc + 3) lv (v.toList ++ rest)) :
    WA D H0 p l e R s m args below meth c nL Q ad h cells slots pc lv st := by
  refine wa_of_run (a := (Value.ref (ad b) :: As.map (cV ad)).toArray) (fun H locs ls hH hS hl => ?_) hag kx kk
  refine vx_runV (Ts := GW) ⟨F.1, F.2.1, F.2.2.1, F.2.2.2.1, F.gw⟩ M (C := y.cls) (cwV As.length F.gw ?_ rfl rfl rfl ⟨rfl, mw.2.2.2.2⟩ ⟨hR.1, hR.2⟩) ⟨PC0_blind _ _ _ _ _ _, ?_, fun U hU hW => PC0_pre F hH U hU hW⟩ rfl (by simp) hl.1 ?_ ?_ d hcs
  · exact gin w rfl (gin mw.1 rfl (gin mw.2.1 rfl (gin mw.2.2.2.1 rfl (gin mw.2.2.1 rfl gin0))))
  · exact va_recv F.2.2.2.2.2.1.1 (hH.get he) (q0 := 0) hcl rfl
  · show st.map (cV ad) = _
    rw [hst]
    simp [cV]
  · rw [cat_st]
    show 2 * 0 + _ ≤ 8
    omega
theorem wa_callS (F : FX D tys H0 p l s m args meth c own cc nL ret nm tb) {y : MethodName} {bytes : ByteArray} {maxL : Nat} {rt : Option FieldType} {k mc ms : Nat} {As : List Value} {post : Option Value → (Nat → Nat) → Hp → Prop} {px : String → Prop} (rest : List Value)
    (M : CC l D tys H0 y bytes maxL rt k mc ms As ad h post px) (mw : MWS y bytes maxL rt As.length) {index : Nat} (w : Cond.methodLink own index y ∈ lw_tbl)
    (hst : st = As.reverse ++ rest) (hcat : (rest.map fun v => v.category).sum ≤ 8) (hR : k + 1 ≤ R.frames ∧ 8 + (maxL + 11) + (28 * k + 60) ≤ R.locals) (hcs : cells + mc ≤ R.cells ∧ slots + ms ≤ R.slots) (d : decode cc pc = .ok (.invokestatic index, 3))
    (hag : ∀ v ad' h', post v ad' h' → lv.map (cL ad') = lv.map (cL ad) ∧ rest.map (cV ad') = rest.map (cV ad))
    (kx : ∀ E, px E → WX D H0 p l e R s m args below meth c nL Q ad h (cells + mc) (slots + ms) pc lv E)
    (kk : ∀ v ad' h', post v ad' h' → WA D H0 p l e R s m args below meth c nL Q ad' h' (cells + mc) (slots + ms) (pc + 3) lv (v.toList ++ rest)) :
    WA D H0 p l e R s m args below meth c nL Q ad h cells slots pc lv st := by
  refine wa_of_run (a := (As.map (cV ad)).toArray) (fun H locs ls hH hS hl => ?_) hag kx kk
  refine vx_runS (Ts := GW) (n := As.length) ⟨F.1, F.2.1, F.2.2.1, F.2.2.2.1, F.gw⟩ M ⟨callB_of As.length F.gw (gin mw.2.1 rfl gin0) rfl rfl rfl (F.2.2.2.2.1 _ mw.2.2.1 rfl) (F.2.2.2.2.1 _ w rfl) mw.2.2.2 ⟨hR.1, hR.2⟩, F.2.2.2.2.1 _ mw.1 rfl⟩ ⟨PC0_blind _ _ _ _ _ _, fun U hU hW => PC0_pre F hH U hU hW⟩ rfl (by simp) hl.1 ?_ ?_ d hcs
  · show st.map (cV ad) = _
    rw [hst]
    simp
  · rw [cat_st]
    show 2 * 0 + _ ≤ 8
    omega
theorem wa_callH (F : FX D tys H0 p l s m args meth c own cc nL ret nm tb) {y : MethodName} {bytes : ByteArray} {maxL : Nat} {rt : Option FieldType} {hh : List (Nat × Nat × Nat × Nat)} {k mc ms : Nat} {As : List Value} {post : Option Value → (Nat → Nat) → Hp → Prop} {px : String → Prop} (rest : List Value)
    (M : CCH l D tys H0 y bytes maxL rt hh k mc ms As ad h post px) (mw : MWH y bytes maxL rt hh As.length) {index : Nat} (w : Cond.methodLink own index y ∈ lw_tbl)
    (hst : st = As.reverse ++ rest) (hcat : (rest.map fun v => v.category).sum ≤ 8) (hR : k + 1 ≤ R.frames ∧ 8 + (maxL + 11) + (28 * k + 60) ≤ R.locals) (hcs : cells + mc ≤ R.cells ∧ slots + ms ≤ R.slots) (d : decode cc pc = .ok (.invokestatic index, 3))
    (hag : ∀ v ad' h', post v ad' h' → lv.map (cL ad') = lv.map (cL ad) ∧ rest.map (cV ad') = rest.map (cV ad))
    (kx : ∀ E, px E → WX D H0 p l e R s m args below meth c nL Q ad h (cells + mc) (slots + ms) pc lv E)
    (kk : ∀ v ad' h', post v ad' h' → WA D H0 p l e R s m args below meth c nL Q ad' h' (cells + mc) (slots + ms) (pc + 3) lv (v.toList ++ rest)) :
    WA D H0 p l e R s m args below meth c nL Q ad h cells slots pc lv st := by
  refine wa_of_run (a := (As.map (cV ad)).toArray) (fun H locs ls hH hS hl => ?_) hag kx kk
  refine vx_runSX (Ts := GW) (n := As.length) ⟨F.1, F.2.1, F.2.2.1, F.2.2.2.1, F.gw⟩ M (vx_cwSW As.length F.gw (gin w rfl (gin mw.1 rfl (gin mw.2.2.1 rfl (gin mw.2.1 rfl gin0)))) rfl rfl rfl mw.2.2.2 ⟨hR.1, hR.2⟩) ⟨PC0_blind _ _ _ _ _ _, fun U hU hW => PC0_pre F hH U hU hW⟩ rfl (by simp) hl.1 ?_ ?_ d hcs
  · show st.map (cV ad) = _
    rw [hst]
    simp
  · rw [cat_st]
    show 2 * 0 + _ ≤ 8
    omega
theorem wa_callI (F : FX D tys H0 p l s m args meth c own cc nL ret nm tb) {y : MethodName} {bytes : ByteArray} {maxL : Nat} {k mc ms : Nat} {As : List Value} {b : Nat} {post : Option Value → (Nat → Nat) → Hp → Prop} {px : String → Prop} (rest : List Value)
    (M : CC l D tys H0 y bytes maxL none k mc ms (.ref b :: As) ad h post px) (mw : MWI y bytes maxL As.length) {index : Nat} (w : Cond.methodLink own index y ∈ lw_tbl)
    (hst : st = As.reverse ++ .ref b :: rest) (hcat : (rest.map fun v => v.category).sum ≤ 8) (hR : k + 1 ≤ R.frames ∧ 8 + (maxL + 11) + (28 * k + 60) ≤ R.locals) (hcs : cells + mc ≤ R.cells ∧ slots + ms ≤ R.slots) (d : decode cc pc = .ok (.invokespecial index, 3))
    (hag : ∀ v ad' h', post v ad' h' → lv.map (cL ad') = lv.map (cL ad) ∧ rest.map (cV ad') = rest.map (cV ad))
    (kx : ∀ E, px E → WX D H0 p l e R s m args below meth c nL Q ad h (cells + mc) (slots + ms) pc lv E)
    (kk : ∀ v ad' h', post v ad' h' → WA D H0 p l e R s m args below meth c nL Q ad' h' (cells + mc) (slots + ms) (pc + 3) lv (v.toList ++ rest)) :
    WA D H0 p l e R s m args below meth c nL Q ad h cells slots pc lv st := by
  refine wa_of_run (a := (Value.ref (ad b) :: As.map (cV ad)).toArray) (fun H locs ls hH hS hl => ?_) hag kx kk
  refine vx_runI (Ts := GW) (n := As.length) ⟨F.1, F.2.1, F.2.2.1, F.2.2.2.1, F.gw⟩ M (cwI As.length F.gw (gin mw.2.1 rfl gin0) rfl rfl rfl (F.2.2.2.2.1 _ mw.2.2.1 rfl) (F.2.2.2.2.1 _ w rfl) (F.2.2.2.2.1 _ mw.1 rfl) mw.2.2.2.1 mw.2.2.2.2 ⟨hR.1, hR.2⟩) ⟨PC0_blind _ _ _ _ _ _, fun U hU hW => PC0_pre F hH U hU hW⟩ rfl (by simp) hl.1 ?_ ?_ d hcs
  · show st.map (cV ad) = _
    rw [hst]
    simp [cV]
  · rw [cat_st]
    show 2 * 0 + _ ≤ 8
    omega
theorem wa_objInit (F : FX D tys H0 p l s m args meth c own cc nL ret nm tb) {index : Nat} (w1 : Cond.methodLink own index objectInit ∈ lw_tbl) (w2 : Cond.instanceMethod objectInit ∈ lw_tbl) (w3 : Cond.code objectInit ⟨#[0xb1]⟩ 1 none ∈ lw_tbl) {n : Nat} (hR : 1 ≤ R.frames ∧ 8 + 12 ≤ R.locals) (hcat : (st.map fun v => v.category).sum ≤ 8) (d : decode cc pc = .ok (.invokespecial index, 3))
    (K : WA D H0 p l e R s m args below meth c nL Q ad h cells slots (pc + 3) lv st) : WA D H0 p l e R s m args below meth c nL Q ad h cells slots pc lv (.ref n :: st) := fun H locs ls hH hS hl => by
  refine W.objInit F.1 F.2.1 F.2.2.2.1 (F.2.2.2.2.1 _ w1 rfl) (F.2.2.2.2.1 _ w2 rfl) (F.2.2.2.2.1 _ w3 rfl) rfl (hl.1.trans F.2.2.1.symm) rfl d hR.1 ?_ (K H locs ls hH hS hl)
  rw [cat_st]
  show 2 * 0 + _ + 12 ≤ _
  omega
theorem wa_max (F : FX D tys H0 p l s m args meth c own cc nL ret nm tb) {index : Nat} (w1 : Cond.methodLink own index Lib.Math.max.name ∈ lw_tbl) (w2 : Cond.static Lib.Math.max.name ∈ lw_tbl) (w3 : Cond.initialized "java/lang/Math" ∈ lw_tbl) (w4 : Cond.code Lib.Math.max.name Lib.Math.max.code 2 (some .int) ∈ lw_tbl) {x y : Int32} (hR : 1 ≤ R.frames ∧ 8 + 13 ≤ R.locals) (hcat : (st.map fun v => v.category).sum ≤ 8) (hcs : cells ≤ R.cells ∧ slots ≤ R.slots) (d : decode cc pc = .ok (.invokestatic index, 3))
    (K : WA D H0 p l e R s m args below meth c nL Q ad h cells slots (pc + 3) lv (.int (if x < y then y else x) :: st)) : WA D H0 p l e R s m args below meth c nL Q ad h cells slots pc lv (.int y :: .int x :: st) := fun H locs ls hH hS hl => by
  refine va_mmax F.1 F.2.1 (F.2.2.1.trans hl.1.symm) F.2.2.2.1 (F.2.2.2.2.1 _ w1 rfl) (F.2.2.2.2.1 _ w2 rfl) (F.2.2.2.2.1 _ w3 rfl) (F.2.2.2.2.1 _ w4 rfl) hR.1 ?_ hcs.1 hcs.2 d (K H locs ls hH hS hl)
  rw [cat_st]
  omega
/-- a thrown object is caught by the row x of this method's table; the rows ahead of it are for other classes -/
theorem wx_catch {nameX E : String} (F : FX D tys H0 p l s m args meth c own cc nL ret nm tb) (pre : List ExceptionTableEntry) (x : ExceptionTableEntry) (suf : List ExceptionTableEntry) (hsplit : tb = pre ++ x :: suf)
    (hpass : ∀ z ∈ pre, z.catchType ≠ 0 ∧ ∃ nm0 : String, Cond.classLink own z.catchType nm0 ∈ lw_tbl ∧ E ∈ xcs ∧ nm0 ∈ xcs ∧ E ≠ nm0) (hx : covers x pc = true) (h0 : x.catchType ≠ 0) (w1 : Cond.classLink own x.catchType nameX ∈ lw_tbl) (w2 : Cond.castable E nameX ∈ lw_tbl)
    (n : Nat) (hpc : x.handlerPc = n) (K : ∀ q : Nat, ∀ H : Heap, ∀ locs : List Loc, ∀ ls : Array Slot, HP D H0 ad h H → va_S (hA0 H0) s.heap H locs → lv_has ls nL (lv.map (cL ad)) → W p l e R s m args below meth c H locs cells slots Q (F0 m n ls [.ref q])) :
    WX D H0 p l e R s m args below meth c nL Q ad h cells slots pc lv E := by
  subst hpc
  intro H locs ls rest q ce hH hS hl hce hcv hcl
  refine vx_catch F.2.2.2.1 pre x suf (F.2.2.2.2.2.2.2.2.2.2.1.trans hsplit) (fun z hz => ?_) hx h0 (F.2.2.2.2.1 _ w1 rfl) (va_Nw.use rfl (F.2.2.2.2.2.1.2.2.2.2.2.2.1 _ w2 rfl)) hce hcv hcl (K q H locs ls hH hS hl)
  obtain ⟨z0, nm0, h1, h2, h3, h4⟩ := hpass z hz
  exact Or.inr ⟨z0, nm0, F.2.2.2.2.1 _ h1 rfl, F.2.2.2.2.2.1.2.2.2.2.2.2.2 E h2 nm0 h3 h4⟩
/-- the handler's first step: the thrown object goes into a place that nobody reads -/
theorem wa_drop_n (F : FX D tys H0 p l s m args meth c own cc nL ret nm tb) {k : Fin 4} {i : Nat} (d : decode cc pc = .ok (.astore_n k, 1)) (hi : (k : Nat) = i) (hn : i < nL) (hv : lv.filter (lvP i) = lv') (K : WA D H0 p l e R s m args below meth c nL Q ad h cells slots (pc + 1) lv' []) :
    ∀ q : Nat, ∀ H : Heap, ∀ locs : List Loc, ∀ ls : Array Slot, HP D H0 ad h H → va_S (hA0 H0) s.heap H locs → lv_has ls nL (lv.map (cL ad)) → W p l e R s m args below meth c H locs cells slots Q (F0 m pc ls [.ref q]) := fun q H locs ls hH hS hl => by
  refine lv_astore_n F.1 F.2.1 d hi hl hn rfl (fun ls' hl' => K H locs ls' hH hS ?_)
  subst hv
  rw [← filt_map ad (lvP i) (fun q => by unfold lvP cL; rw [cat_cV]) lv]
  exact ⟨hl'.1, hl'.2.1, fun z hz => hl'.2.2 z (List.mem_cons_of_mem _ hz)⟩
theorem wa_drop (F : FX D tys H0 p l s m args meth c own cc nL ret nm tb) {i : Nat} (d : decode cc pc = .ok (.astore i, 2)) (hn : i < nL) (hv : lv.filter (lvP i) = lv') (K : WA D H0 p l e R s m args below meth c nL Q ad h cells slots (pc + 2) lv' []) :
    ∀ q : Nat, ∀ H : Heap, ∀ locs : List Loc, ∀ ls : Array Slot, HP D H0 ad h H → va_S (hA0 H0) s.heap H locs → lv_has ls nL (lv.map (cL ad)) → W p l e R s m args below meth c H locs cells slots Q (F0 m pc ls [.ref q]) := fun q H locs ls hH hS hl => by
  refine lv_astore F.1 F.2.1 d hl hn rfl (fun ls' hl' => K H locs ls' hH hS ?_)
  subst hv
  rw [← filt_map ad (lvP i) (fun q => by unfold lvP cL; rw [cat_cV]) lv]
  exact ⟨hl'.1, hl'.2.1, fun z hz => hl'.2.2 z (List.mem_cons_of_mem _ hz)⟩
end CALLS
