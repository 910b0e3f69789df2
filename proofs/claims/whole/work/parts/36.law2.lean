/-! the law's own steps: the script, calls of its helpers -/
section LAW2
variable {D : va_G} {tys : List (ClassId × FieldType)} {H0 : Heap} {p : Program} {l : Launch} {e : Env} {R : Room} {s : State} {m : MethodId} {args : Array Value} {below : List Frame} {meth : Method} {c : Code} {own : String} {cc : ByteArray} {nL : Nat} {ret : Option FieldType} {nm : String} {tb : List ExceptionTableEntry} {Q : State → Prop} {ad : Nat → Nat} {h : Hp} {cells slots pc : Nat} {lv lv' : List (Nat × Value)} {st : List Value}
theorem wa_sld (F : FX D tys H0 p l s m args meth c own cc nL ret nm tb) {b L : Nat} {xs : Nat → Int32} (hX : va_X b L xs s s.heap) (hbs : b < s.heap.size) (hbl : b < H0.size) (had : ad 3 = b) {i : Int32} (k : Nat) (hi : i = nI k) (hk : k < L) (hL : L < 2 ^ 31) (d : decode cc pc = .ok (.iaload, 1))
    (K : WA D H0 p l e R s m args below meth c nL Q ad h cells slots (pc + 1) lv (.int (xs k) :: st)) : WA D H0 p l e R s m args below meth c nL Q ad h cells slots pc lv (.int i :: .ref 3 :: st) := fun H locs ls hH hS hl => by
  subst hi
  have K' := K H locs ls hH hS hl
  have e1 : (nI k).toNatClampNeg = k := nI_clamp (by omega)
  have z := va_sld (A := hA0 H0) F.1 F.2.1 hX hbs (fun q => by unfold hA0 at q; omega) hS (vp_in_nI hk hL) d (by rw [e1]; exact K')
  rw [← had] at z
  exact z
theorem wa_slen (F : FX D tys H0 p l s m args meth c own cc nL ret nm tb) {b L : Nat} {xs : Nat → Int32} (hX : va_X b L xs s s.heap) (hbs : b < s.heap.size) (hbl : b < H0.size) (had : ad 3 = b) (d : decode cc pc = .ok (.arraylength, 1))
    (K : WA D H0 p l e R s m args below meth c nL Q ad h cells slots (pc + 1) lv (.int (nI L) :: st)) : WA D H0 p l e R s m args below meth c nL Q ad h cells slots pc lv (.ref 3 :: st) := fun H locs ls hH hS hl => by
  have z := va_slen (A := hA0 H0) F.1 F.2.1 hX hbs (fun q => by unfold hA0 at q; omega) hS d (K H locs ls hH hS hl)
  rw [← had] at z
  exact z
theorem HP.ad3 {H : Heap} {ad' : Nat → Nat} {q : Nat} (hH : HP D H0 ad' h H) (h3 : h 3 = none) (hr : noRef h 3) : HP D H0 (va_up ad' 3 q) h H := by
  obtain ⟨h1, h2, h4, h5⟩ := hH
  have ne : ∀ n e', h n = some e' → n ≠ 3 := fun n e' he z => by rw [z, h3] at he; cases he
  refine ⟨h1, h2, fun n e' he => ?_, fun n n' e1 e2 g1 g2 hq => ?_⟩
  · rw [show va_up ad' 3 q n = ad' n from if_neg (ne n e' he), hr n e' he]
    exact h4 n e' he
  · rw [show va_up ad' 3 q n = ad' n from if_neg (ne n e1 g1), show va_up ad' 3 q n' = ad' n' from if_neg (ne n' e2 g2)] at hq
    exact h5 n n' e1 e2 g1 g2 hq
theorem wa_callH3 (F : FX D tys H0 p l s m args meth c own cc nL ret nm tb) {y : MethodName} {bytes : ByteArray} {maxL : Nat} {rt : Option FieldType} {hh : List (Nat × Nat × Nat × Nat)} {k mc ms : Nat} {As : List Value} {r : Int32} {h1 : Hp} (rest : List Value)
    (M : CCH l D tys H0 y bytes maxL rt hh k mc ms As ad h (PN ad h (some (.int r)) h1) (fun _ => False)) (mw : MWH y bytes maxL rt hh As.length) {index : Nat} (w : Cond.methodLink own index y ∈ lw_tbl) (h3 : h1 3 = none) (hr : noRef h1 3)
    (hst : st = As.reverse ++ rest) (hcat : (rest.map fun v => v.category).sum ≤ 8) (hR : k + 1 ≤ R.frames ∧ 8 + (maxL + 11) + (28 * k + 60) ≤ R.locals) (hcs : cells + mc ≤ R.cells ∧ slots + ms ≤ R.slots) (d : decode cc pc = .ok (.invokestatic index, 3))
    (hlv : ∀ x ∈ lv, ∀ n, x.2 = .ref n → n = 3 ∨ h n ≠ none) (hrs : rest = [])
    (kk : ∀ ad', ad' 3 = ad 3 → WA D H0 p l e R s m args below meth c nL Q ad' h1 (cells + mc) (slots + ms) (pc + 3) lv (.int r :: rest)) :
    WA D H0 p l e R s m args below meth c nL Q ad h cells slots pc lv st := by
  subst hrs
  intro H locs ls hH hS hl T hT X
  have hrun : vx_Run p l e R s m args below meth c H locs cells slots mc ms (F0 m pc ls (st.map (cV ad))) (([] : List Value).map (cV ad)) (QC0 D H0 (PN ad h (some (.int r)) h1) (As.map (cV ad)).toArray) (XC0 D H0 (fun _ => False) ad h) (hA0 H0) := by
    refine vx_runSX (Ts := GW) (n := As.length) ⟨F.1, F.2.1, F.2.2.1, F.2.2.2.1, F.gw⟩ M (vx_cwSW As.length F.gw (gin w rfl (gin mw.1 rfl (gin mw.2.2.1 rfl (gin mw.2.1 rfl gin0)))) rfl rfl rfl mw.2.2.2 ⟨hR.1, hR.2⟩) ⟨PC0_blind _ _ _ _ _ _, fun U hU hW => PC0_pre F hH U hU hW⟩ rfl (by simp) hl.1 ?_ ?_ d hcs
    · show st.map (cV ad) = _
      rw [hst]
      simp
    · rw [cat_st]
      show 2 * 0 + _ ≤ 8
      omega
  rcases hrun T hT X with ⟨v, st₀, t, T', L, h0, X', hL, e1, e2, ⟨⟨v', ad', h', hv, hpost, hHP⟩, hF⟩, stp⟩ | ⟨q, st₀, t, T', L, E, ce, h0, X', hL, e1, e2, ⟨hpx, hHP, hF⟩, hce, hcv, hcl, stp⟩
  · obtain ⟨-, -, k3⟩ := vx_keep h0 e1 hS (fun _ _ z => z) (fun _ z => z) hL hF
    have hv2 : v = Option.map (cV ad') v' := by injection hv
    obtain ⟨rfl, ha, rfl⟩ := hpost
    have g1 : lv.map (cL (va_up ad' 3 (ad 3))) = lv.map (cL ad) := List.map_congr_left fun x hx => by
      have key : cV (va_up ad' 3 (ad 3)) x.2 = cV ad x.2 := by
        have := hlv x hx
        revert this
        cases x.2 with
        | ref n =>
          intro this
          show Value.ref (va_up ad' 3 (ad 3) n) = Value.ref (ad n)
          by_cases hn : n = 3
          · rw [hn]; exact congrArg _ (if_pos rfl)
          · rw [show va_up ad' 3 (ad 3) n = ad' n from if_neg hn, ha n ((this n rfl).resolve_left hn)]
        | _ => intro _; rfl
      unfold cL; rw [key]
    obtain ⟨t2, a1, b1⟩ := kk (va_up ad' 3 (ad 3)) (if_pos rfl) T'.heap (locs ++ L) ls (by rw [e1]; exact hHP.ad3 h3 hr) k3 (by rw [g1]; exact hl) T' rfl X'
    have e3 : (Value.int r :: ([] : List Value)).map (cV (va_up ad' 3 (ad 3))) = v.toList ++ ([] : List Value) := by rw [hv2]; rfl
    rw [e3] at a1
    exact ⟨t2, stp t2 a1, b1⟩
  · exact hpx.elim
end LAW2
