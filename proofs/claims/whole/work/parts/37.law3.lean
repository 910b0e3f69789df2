theorem st_spX {n : Nat} {S : St} {a b : Int32} (h : INV n S) : INV (n + 1) (kU (kSpc S a b) (uSpc a b) S) := st_of h fun e => by
  obtain ⟨c, _⟩ := if1 (by decide) e
  obtain ⟨c1, c2⟩ := and2 c
  exact iv_special h (sIn_tn (cn2 h).1 (bd (cn2 h) (by decide)) c1) (sIn_tn (cn2 h).1 (bd (cn2 h) (by decide)) c2)
set_option maxHeartbeats 4000000 in
set_option maxRecDepth 20000 in
theorem law_0 {p : Program} {l : Launch} {e : Env} {s : State} {m : MethodId} {below : List Frame} {meth : Method} {c : Code} {b L : Nat} {xs : Nat → Int32} {D : va_G} {TC : Nat → ClassId} {Q : State → Prop} {ret : Option FieldType} {nm : String} {tb : List ExceptionTableEntry} (F : FX D (tysOf TC) s.heap p l s m #[.ref b] meth c RL cL_law 7 ret nm tb) (hst : l.stackTraces = false) (hX : va_X b L xs s s.heap) (hbs : b < s.heap.size) (hbl : b < s.heap.size) (hL : L < 2 ^ 31)
    (ad : Nat → Nat) (had : ad 3 = b) (S : St) (o : Nat → Int64) (t : Nat) (hi : INV t S) (ht : t < 512) (h5 : 5 * t + 5 ≤ L) (cells slots : Nat) (hcl : cells + 4 ≤ 601024) (hsl : slots + 39 ≤ 7293034)
    (K : ∀ (S1 : St) (o1 : Nat → Int64) (ad1 : Nat → Nat), INV (t + 1) S1 → ad1 3 = b → WA D s.heap p l e room_1 s m #[.ref b] below meth c 7 Q ad1 (hall TC S1 S1 o1) (cells + 4) (slots + 39) 2469 [(4, .int (nI (5 * t))), (3, .ref 1), (2, .ref 2), (1, .ref 0), (0, .ref 3)] []) : WA D s.heap p l e room_1 s m #[.ref b] below meth c 7 Q ad (hall TC S S o) cells slots 180 [(4, .int (nI (5 * t))), (3, .ref 1), (2, .ref 2), (1, .ref 0), (0, .ref 3)] [] := by
  refine wa_aload_n F dL_law_180 (i := 1) rfl 3 rfl ?_
  refine wa_aload_n F dL_law_181 (i := 0) rfl 4 rfl ?_
  refine wa_iload F dL_law_182 0 rfl ?_
  refine wa_iconst (v := 1) F dL_law_184 (by decide) ?_
  refine wa_iaddN F dL_law_185 (a := 5 * t) (b := 1) rfl rfl ?_
  refine wa_sld F hX hbs hbl had ((5 * t) + 1) rfl (by omega) hL dL_law_186 ?_
  refine wa_aload_n F dL_law_187 (i := 0) rfl 4 rfl ?_
  refine wa_iload F dL_law_188 0 rfl ?_
  refine wa_iconst (v := 2) F dL_law_190 (by decide) ?_
  refine wa_iaddN F dL_law_191 (a := 5 * t) (b := 2) rfl rfl ?_
  refine wa_sld F hX hbs hbl had ((5 * t) + 2) rfl (by omega) hL dL_law_192 ?_
  refine wa_aload_n F dL_law_193 (i := 0) rfl 4 rfl ?_
  refine wa_iload F dL_law_194 0 rfl ?_
  refine wa_iconst (v := 3) F dL_law_196 (by decide) ?_
  refine wa_iaddN F dL_law_197 (a := 5 * t) (b := 3) rfl rfl ?_
  refine wa_sld F hX hbs hbl had ((5 * t) + 3) rfl (by omega) hL dL_law_198 ?_
  refine wa_aload_n F dL_law_199 (i := 0) rfl 4 rfl ?_
  refine wa_iload F dL_law_200 0 rfl ?_
  refine wa_iconst (v := 4) F dL_law_202 (by decide) ?_
  refine wa_iaddN F dL_law_203 (a := 5 * t) (b := 4) rfl rfl ?_
  refine wa_sld F hX hbs hbl had ((5 * t) + 4) rfl (by omega) hL dL_law_204 ?_
  refine wa_aload_n F dL_law_205 (i := 3) rfl 1 rfl ?_
  have hiX : INV (t + 1) (kU (kAct S (xs ((5 * t) + 1)) (xs ((5 * t) + 2)) (xs ((5 * t) + 3)) (xs ((5 * t) + 4))) (uAct (xs ((5 * t) + 1)) (xs ((5 * t) + 2)) (xs ((5 * t) + 3)) (xs ((5 * t) + 4))) S) := (st_act hi)
  have hnr3 : noRef (hall TC (kU (kAct S (xs ((5 * t) + 1)) (xs ((5 * t) + 2)) (xs ((5 * t) + 3)) (xs ((5 * t) + 4))) (uAct (xs ((5 * t) + 1)) (xs ((5 * t) + 2)) (xs ((5 * t) + 3)) (xs ((5 * t) + 4))) S) S (kO (kAct S (xs ((5 * t) + 1)) (xs ((5 * t) + 2)) (xs ((5 * t) + 3)) (xs ((5 * t) + 4))) (rAct S) o)) 3 := hall_nr (Or.inl rfl) rfl hiX.1.2 hiX.2.1.2 hiX.2.2.1.2 hiX.2.2.2.1.2 hiX.2.2.2.2.1.2 hiX.2.2.2.2.2.2.2.1
  refine wa_callH3 F [] (c_L_act hst D TC s.heap ad S S o (xs ((5 * t) + 1)) (xs ((5 * t) + 2)) (xs ((5 * t) + 3)) (xs ((5 * t) + 4)) t hi) mw_L_act ml_L_120 rfl hnr3 rfl (Nat.le_of_ble_eq_true rfl) ⟨(Nat.le_of_ble_eq_true rfl), (Nat.le_of_ble_eq_true rfl)⟩ ⟨show _ ≤ 601024 by omega, show _ ≤ 7293034 by omega⟩ dL_law_206 (by intro y hy; simp only [List.mem_cons, List.not_mem_nil, or_false] at hy; rcases hy with rfl | rfl | rfl | rfl | rfl <;> intro z hz <;> first | (cases hz; exact Or.inl rfl) | (cases hz; exact Or.inr (by simp [hm_c, hm_m, hm_o])) | cases hz) rfl ?_
  intro ad1 had1
  replace had1 : ad1 3 = b := had1.trans had
  refine wa_istore (lv' := [(5, .int (kAct S (xs ((5 * t) + 1)) (xs ((5 * t) + 2)) (xs ((5 * t) + 3)) (xs ((5 * t) + 4)))), (4, .int (nI (5 * t))), (3, .ref 1), (2, .ref 2), (1, .ref 0), (0, .ref 3)]) F dL_law_209 (by decide) rfl ?_
  refine wa_aload_n F dL_law_211 (i := 2) rfl 3 rfl ?_
  refine wa_aload_n F dL_law_212 (i := 0) rfl 5 rfl ?_
  refine wa_iload F dL_law_213 1 rfl ?_
  refine wa_iconst (v := 1) F dL_law_215 (by decide) ?_
  refine wa_iaddN F dL_law_216 (a := 5 * t) (b := 1) rfl rfl ?_
  refine wa_sld F hX hbs hbl had1 ((5 * t) + 1) rfl (by omega) hL dL_law_217 ?_
  refine wa_aload_n F dL_law_218 (i := 0) rfl 5 rfl ?_
  refine wa_iload F dL_law_219 1 rfl ?_
  refine wa_iconst (v := 2) F dL_law_221 (by decide) ?_
  refine wa_iaddN F dL_law_222 (a := 5 * t) (b := 2) rfl rfl ?_
  refine wa_sld F hX hbs hbl had1 ((5 * t) + 2) rfl (by omega) hL dL_law_223 ?_
  refine wa_aload_n F dL_law_224 (i := 0) rfl 5 rfl ?_
  refine wa_iload F dL_law_225 1 rfl ?_
  refine wa_iconst (v := 3) F dL_law_227 (by decide) ?_
  refine wa_iaddN F dL_law_228 (a := 5 * t) (b := 3) rfl rfl ?_
  refine wa_sld F hX hbs hbl had1 ((5 * t) + 3) rfl (by omega) hL dL_law_229 ?_
  refine wa_aload_n F dL_law_230 (i := 0) rfl 5 rfl ?_
  refine wa_iload F dL_law_231 1 rfl ?_
  refine wa_iconst (v := 4) F dL_law_233 (by decide) ?_
  refine wa_iaddN F dL_law_234 (a := 5 * t) (b := 4) rfl rfl ?_
  refine wa_sld F hX hbs hbl had1 ((5 * t) + 4) rfl (by omega) hL dL_law_235 ?_
  refine wa_callV F [] (c_X6_act hst D TC s.heap ad1 (kU (kAct S (xs ((5 * t) + 1)) (xs ((5 * t) + 2)) (xs ((5 * t) + 3)) (xs ((5 * t) + 4))) (uAct (xs ((5 * t) + 1)) (xs ((5 * t) + 2)) (xs ((5 * t) + 3)) (xs ((5 * t) + 4))) S) S (kO (kAct S (xs ((5 * t) + 1)) (xs ((5 * t) + 2)) (xs ((5 * t) + 3)) (xs ((5 * t) + 4))) (rAct S) o) (xs ((5 * t) + 1)) (xs ((5 * t) + 2)) (xs ((5 * t) + 3)) (xs ((5 * t) + 4)) t hi) mw_X6_act ml_L_125 hm_m rfl rfl (Nat.le_of_ble_eq_true rfl) ⟨(Nat.le_of_ble_eq_true rfl), (Nat.le_of_ble_eq_true rfl)⟩ ⟨show _ ≤ 601024 by omega, show _ ≤ 7293034 by omega⟩ dL_law_236 PR_ag (fun _ z => z.elim) ?_
  rintro _ _ _ ⟨rfl, rfl, rfl⟩
  rw [mS_eq (S := S) (fun w => c0_act), hall_ag (X := (kU (kAct S (xs ((5 * t) + 1)) (xs ((5 * t) + 2)) (xs ((5 * t) + 3)) (xs ((5 * t) + 4))) (uAct (xs ((5 * t) + 1)) (xs ((5 * t) + 2)) (xs ((5 * t) + 3)) (xs ((5 * t) + 4))) S)) ag_0]
  refine wa_istore (lv' := [(6, .int (mR (kAct S (xs ((5 * t) + 1)) (xs ((5 * t) + 2)) (xs ((5 * t) + 3)) (xs ((5 * t) + 4))) (rAct S))), (5, .int (kAct S (xs ((5 * t) + 1)) (xs ((5 * t) + 2)) (xs ((5 * t) + 3)) (xs ((5 * t) + 4)))), (4, .int (nI (5 * t))), (3, .ref 1), (2, .ref 2), (1, .ref 0), (0, .ref 3)]) F dL_law_239 (by decide) rfl ?_
  refine wa_aload_n F dL_law_241 (i := 2) rfl 4 rfl ?_
  refine wa_callV F [] (c_X6_thrown hst D TC s.heap ad1 (sU (kU (kAct S (xs ((5 * t) + 1)) (xs ((5 * t) + 2)) (xs ((5 * t) + 3)) (xs ((5 * t) + 4))) (uAct (xs ((5 * t) + 1)) (xs ((5 * t) + 2)) (xs ((5 * t) + 3)) (xs ((5 * t) + 4))) S) 0 0 (kAct S (xs ((5 * t) + 1)) (xs ((5 * t) + 2)) (xs ((5 * t) + 3)) (xs ((5 * t) + 4)))) (sU (kU (kAct S (xs ((5 * t) + 1)) (xs ((5 * t) + 2)) (xs ((5 * t) + 3)) (xs ((5 * t) + 4))) (uAct (xs ((5 * t) + 1)) (xs ((5 * t) + 2)) (xs ((5 * t) + 3)) (xs ((5 * t) + 4))) S) 0 0 (kAct S (xs ((5 * t) + 1)) (xs ((5 * t) + 2)) (xs ((5 * t) + 3)) (xs ((5 * t) + 4)))) (kO (kAct S (xs ((5 * t) + 1)) (xs ((5 * t) + 2)) (xs ((5 * t) + 3)) (xs ((5 * t) + 4))) (rAct S) o)) mw_X6_thrown ml_L_126 hm_m rfl rfl (Nat.le_of_ble_eq_true rfl) ⟨(Nat.le_of_ble_eq_true rfl), (Nat.le_of_ble_eq_true rfl)⟩ ⟨show _ ≤ 601024 by omega, show _ ≤ 7293034 by omega⟩ dL_law_242 PR_ag (fun _ z => z.elim) ?_
  rintro _ _ _ ⟨rfl, rfl, rfl⟩
  rw [show (sU (kU (kAct S (xs ((5 * t) + 1)) (xs ((5 * t) + 2)) (xs ((5 * t) + 3)) (xs ((5 * t) + 4))) (uAct (xs ((5 * t) + 1)) (xs ((5 * t) + 2)) (xs ((5 * t) + 3)) (xs ((5 * t) + 4))) S) 0 0 (kAct S (xs ((5 * t) + 1)) (xs ((5 * t) + 2)) (xs ((5 * t) + 3)) (xs ((5 * t) + 4)))) 0 0 = kAct S (xs ((5 * t) + 1)) (xs ((5 * t) + 2)) (xs ((5 * t) + 3)) (xs ((5 * t) + 4)) from by rw [sU_eq, if_pos rfl]]
  refine wa_iload F dL_law_245 1 rfl ?_
  refine wa_icmp_eq (tgt := 252) F dL_law_247 (by decide) (fun _ => ?_) (fun z => absurd rfl z)
  refine wa_iload F dL_law_252 1 rfl ?_
  refine wa_if_ne (tgt := 269) F dL_law_254 (by decide) (fun c254 => ?_) (fun c254 => ?_)
  · skip
    refine wa_goto (tgt := 2469) F dL_law_269 (by decide) ?_
    refine wa_lv (lv' := [(4, .int (nI (5 * t))), (3, .ref 1), (2, .ref 2), (1, .ref 0), (0, .ref 3)]) [2, 3, 4, 5, 6] rfl ?_
    refine wa_widen (k := cells + 4) (n := slots + 39) (by omega) (by omega) ?_
    exact K _ _ _ (INV_0 hiX) had1
  · skip
    have eo : (kO (kAct S (xs ((5 * t) + 1)) (xs ((5 * t) + 2)) (xs ((5 * t) + 3)) (xs ((5 * t) + 4))) (rAct S) o) 0 = (rAct S).toInt64 := by rw [c254, kO_0]; exact if_pos rfl
    have er : mR (kAct S (xs ((5 * t) + 1)) (xs ((5 * t) + 2)) (xs ((5 * t) + 3)) (xs ((5 * t) + 4))) (rAct S) = rAct S := by rw [c254, mR_0]
    refine wa_aload_n F dL_law_257 (i := 3) rfl 3 rfl ?_
    refine wa_iconst (v := 0) F dL_law_258 (by decide) ?_
    refine wa_lald F 1 rfl (hm_o (TC := TC) (X := (sU (kU (kAct S (xs ((5 * t) + 1)) (xs ((5 * t) + 2)) (xs ((5 * t) + 3)) (xs ((5 * t) + 4))) (uAct (xs ((5 * t) + 1)) (xs ((5 * t) + 2)) (xs ((5 * t) + 3)) (xs ((5 * t) + 4))) S) 0 0 (kAct S (xs ((5 * t) + 1)) (xs ((5 * t) + 2)) (xs ((5 * t) + 3)) (xs ((5 * t) + 4))))) (S := (sU (kU (kAct S (xs ((5 * t) + 1)) (xs ((5 * t) + 2)) (xs ((5 * t) + 3)) (xs ((5 * t) + 4))) (uAct (xs ((5 * t) + 1)) (xs ((5 * t) + 2)) (xs ((5 * t) + 3)) (xs ((5 * t) + 4))) S) 0 0 (kAct S (xs ((5 * t) + 1)) (xs ((5 * t) + 2)) (xs ((5 * t) + 3)) (xs ((5 * t) + 4))))) (o := (kO (kAct S (xs ((5 * t) + 1)) (xs ((5 * t) + 2)) (xs ((5 * t) + 3)) (xs ((5 * t) + 4))) (rAct S) o))) 0 rfl (by decide) (by decide) dL_law_259 ?_
    refine wa_iload F dL_law_260 0 rfl ?_
    refine wa_i2l F dL_law_262 rfl ?_
    have eo1 : (kO (kAct S (xs ((5 * t) + 1)) (xs ((5 * t) + 2)) (xs ((5 * t) + 3)) (xs ((5 * t) + 4))) (rAct S) o) 0 = (mR (kAct S (xs ((5 * t) + 1)) (xs ((5 * t) + 2)) (xs ((5 * t) + 3)) (xs ((5 * t) + 4))) (rAct S)).toInt64 := by rw [er]; exact eo
    refine wa_lcmp F dL_law_263 ?_
    refine wa_if_eq (tgt := 269) F dL_law_264 (by decide) (fun _ => ?_) (fun z => absurd ((lg_cmp_eq _ _).mpr eo1) z)
    refine wa_goto (tgt := 2469) F dL_law_269 (by decide) ?_
    refine wa_lv (lv' := [(4, .int (nI (5 * t))), (3, .ref 1), (2, .ref 2), (1, .ref 0), (0, .ref 3)]) [2, 3, 4, 5, 6] rfl ?_
    refine wa_widen (k := cells + 4) (n := slots + 39) (by omega) (by omega) ?_
    exact K _ _ _ (INV_0 hiX) had1
set_option maxHeartbeats 4000000 in
set_option maxRecDepth 20000 in
theorem law_1 {p : Program} {l : Launch} {e : Env} {s : State} {m : MethodId} {below : List Frame} {meth : Method} {c : Code} {b L : Nat} {xs : Nat → Int32} {D : va_G} {TC : Nat → ClassId} {Q : State → Prop} {ret : Option FieldType} {nm : String} {tb : List ExceptionTableEntry} (F : FX D (tysOf TC) s.heap p l s m #[.ref b] meth c RL cL_law 7 ret nm tb) (hst : l.stackTraces = false) (hX : va_X b L xs s s.heap) (hbs : b < s.heap.size) (hbl : b < s.heap.size) (hL : L < 2 ^ 31)
    (ad : Nat → Nat) (had : ad 3 = b) (S : St) (o : Nat → Int64) (t : Nat) (hi : INV t S) (ht : t < 512) (h5 : 5 * t + 5 ≤ L) (cells slots : Nat) (hcl : cells + 4 ≤ 601024) (hsl : slots + 39 ≤ 7293034)
    (K : ∀ (S1 : St) (o1 : Nat → Int64) (ad1 : Nat → Nat), INV (t + 1) S1 → ad1 3 = b → WA D s.heap p l e room_1 s m #[.ref b] below meth c 7 Q ad1 (hall TC S1 S1 o1) (cells + 4) (slots + 39) 2469 [(4, .int (nI (5 * t))), (3, .ref 1), (2, .ref 2), (1, .ref 0), (0, .ref 3)] []) : WA D s.heap p l e room_1 s m #[.ref b] below meth c 7 Q ad (hall TC S S o) cells slots 272 [(4, .int (nI (5 * t))), (3, .ref 1), (2, .ref 2), (1, .ref 0), (0, .ref 3)] [] := by
  refine wa_aload_n F dL_law_272 (i := 1) rfl 3 rfl ?_
  refine wa_aload_n F dL_law_273 (i := 0) rfl 4 rfl ?_
  refine wa_iload F dL_law_274 0 rfl ?_
  refine wa_iconst (v := 1) F dL_law_276 (by decide) ?_
  refine wa_iaddN F dL_law_277 (a := 5 * t) (b := 1) rfl rfl ?_
  refine wa_sld F hX hbs hbl had ((5 * t) + 1) rfl (by omega) hL dL_law_278 ?_
  refine wa_aload_n F dL_law_279 (i := 0) rfl 4 rfl ?_
  refine wa_iload F dL_law_280 0 rfl ?_
  refine wa_iconst (v := 2) F dL_law_282 (by decide) ?_
  refine wa_iaddN F dL_law_283 (a := 5 * t) (b := 2) rfl rfl ?_
  refine wa_sld F hX hbs hbl had ((5 * t) + 2) rfl (by omega) hL dL_law_284 ?_
  refine wa_aload_n F dL_law_285 (i := 3) rfl 1 rfl ?_
  have hiX : INV (t + 1) (kU (kSpc S (xs ((5 * t) + 1)) (xs ((5 * t) + 2))) (uSpc (xs ((5 * t) + 1)) (xs ((5 * t) + 2))) S) := st_spX hi
  have hnr3 : noRef (hall TC (kU (kSpc S (xs ((5 * t) + 1)) (xs ((5 * t) + 2))) (uSpc (xs ((5 * t) + 1)) (xs ((5 * t) + 2))) S) S (kO (kSpc S (xs ((5 * t) + 1)) (xs ((5 * t) + 2))) (rSpc S (xs ((5 * t) + 1)) (xs ((5 * t) + 2))) o)) 3 := hall_nr (Or.inl rfl) rfl hiX.1.2 hiX.2.1.2 hiX.2.2.1.2 hiX.2.2.2.1.2 hiX.2.2.2.2.1.2 hiX.2.2.2.2.2.2.2.1
  refine wa_callH3 F [] (c_L_special hst D TC s.heap ad S S o (xs ((5 * t) + 1)) (xs ((5 * t) + 2)) t hi) mw_L_special ml_L_130 rfl hnr3 rfl (Nat.le_of_ble_eq_true rfl) ⟨(Nat.le_of_ble_eq_true rfl), (Nat.le_of_ble_eq_true rfl)⟩ ⟨show _ ≤ 601024 by omega, show _ ≤ 7293034 by omega⟩ dL_law_286 (by intro y hy; simp only [List.mem_cons, List.not_mem_nil, or_false] at hy; rcases hy with rfl | rfl | rfl | rfl | rfl <;> intro z hz <;> first | (cases hz; exact Or.inl rfl) | (cases hz; exact Or.inr (by simp [hm_c, hm_m, hm_o])) | cases hz) rfl ?_
  intro ad1 had1
  replace had1 : ad1 3 = b := had1.trans had
  refine wa_istore (lv' := [(5, .int (kSpc S (xs ((5 * t) + 1)) (xs ((5 * t) + 2)))), (4, .int (nI (5 * t))), (3, .ref 1), (2, .ref 2), (1, .ref 0), (0, .ref 3)]) F dL_law_289 (by decide) rfl ?_
  refine wa_aload_n F dL_law_291 (i := 2) rfl 3 rfl ?_
  refine wa_aload_n F dL_law_292 (i := 0) rfl 5 rfl ?_
  refine wa_iload F dL_law_293 1 rfl ?_
  refine wa_iconst (v := 1) F dL_law_295 (by decide) ?_
  refine wa_iaddN F dL_law_296 (a := 5 * t) (b := 1) rfl rfl ?_
  refine wa_sld F hX hbs hbl had1 ((5 * t) + 1) rfl (by omega) hL dL_law_297 ?_
  refine wa_aload_n F dL_law_298 (i := 0) rfl 5 rfl ?_
  refine wa_iload F dL_law_299 1 rfl ?_
  refine wa_iconst (v := 2) F dL_law_301 (by decide) ?_
  refine wa_iaddN F dL_law_302 (a := 5 * t) (b := 2) rfl rfl ?_
  refine wa_sld F hX hbs hbl had1 ((5 * t) + 2) rfl (by omega) hL dL_law_303 ?_
  refine wa_callV F [] (c_X6_special hst D TC s.heap ad1 (kU (kSpc S (xs ((5 * t) + 1)) (xs ((5 * t) + 2))) (uSpc (xs ((5 * t) + 1)) (xs ((5 * t) + 2))) S) S (kO (kSpc S (xs ((5 * t) + 1)) (xs ((5 * t) + 2))) (rSpc S (xs ((5 * t) + 1)) (xs ((5 * t) + 2))) o) (xs ((5 * t) + 1)) (xs ((5 * t) + 2)) t hi) mw_X6_special ml_L_133 hm_m rfl rfl (Nat.le_of_ble_eq_true rfl) ⟨(Nat.le_of_ble_eq_true rfl), (Nat.le_of_ble_eq_true rfl)⟩ ⟨show _ ≤ 601024 by omega, show _ ≤ 7293034 by omega⟩ dL_law_304 PR_ag (fun _ z => z.elim) ?_
  rintro _ _ _ ⟨rfl, rfl, rfl⟩
  rw [mS_eq (S := (sSpc S (xs ((5 * t) + 1)) (xs ((5 * t) + 2)))) (fun w => c0_special), hall_ag (X := (kU (kSpc S (xs ((5 * t) + 1)) (xs ((5 * t) + 2))) (uSpc (xs ((5 * t) + 1)) (xs ((5 * t) + 2))) S)) ag_spc]
  refine wa_istore (lv' := [(6, .int (mR (kSpc S (xs ((5 * t) + 1)) (xs ((5 * t) + 2))) (rSpc S (xs ((5 * t) + 1)) (xs ((5 * t) + 2))))), (5, .int (kSpc S (xs ((5 * t) + 1)) (xs ((5 * t) + 2)))), (4, .int (nI (5 * t))), (3, .ref 1), (2, .ref 2), (1, .ref 0), (0, .ref 3)]) F dL_law_307 (by decide) rfl ?_
  refine wa_aload_n F dL_law_309 (i := 2) rfl 4 rfl ?_
  refine wa_callV F [] (c_X6_thrown hst D TC s.heap ad1 (sU (kU (kSpc S (xs ((5 * t) + 1)) (xs ((5 * t) + 2))) (uSpc (xs ((5 * t) + 1)) (xs ((5 * t) + 2))) (sSpc S (xs ((5 * t) + 1)) (xs ((5 * t) + 2)))) 0 0 (kSpc S (xs ((5 * t) + 1)) (xs ((5 * t) + 2)))) (sU (kU (kSpc S (xs ((5 * t) + 1)) (xs ((5 * t) + 2))) (uSpc (xs ((5 * t) + 1)) (xs ((5 * t) + 2))) (sSpc S (xs ((5 * t) + 1)) (xs ((5 * t) + 2)))) 0 0 (kSpc S (xs ((5 * t) + 1)) (xs ((5 * t) + 2)))) (kO (kSpc S (xs ((5 * t) + 1)) (xs ((5 * t) + 2))) (rSpc S (xs ((5 * t) + 1)) (xs ((5 * t) + 2))) o)) mw_X6_thrown ml_L_126 hm_m rfl rfl (Nat.le_of_ble_eq_true rfl) ⟨(Nat.le_of_ble_eq_true rfl), (Nat.le_of_ble_eq_true rfl)⟩ ⟨show _ ≤ 601024 by omega, show _ ≤ 7293034 by omega⟩ dL_law_310 PR_ag (fun _ z => z.elim) ?_
  rintro _ _ _ ⟨rfl, rfl, rfl⟩
  rw [show (sU (kU (kSpc S (xs ((5 * t) + 1)) (xs ((5 * t) + 2))) (uSpc (xs ((5 * t) + 1)) (xs ((5 * t) + 2))) (sSpc S (xs ((5 * t) + 1)) (xs ((5 * t) + 2)))) 0 0 (kSpc S (xs ((5 * t) + 1)) (xs ((5 * t) + 2)))) 0 0 = kSpc S (xs ((5 * t) + 1)) (xs ((5 * t) + 2)) from by rw [sU_eq, if_pos rfl]]
  refine wa_iload F dL_law_313 1 rfl ?_
  refine wa_icmp_eq (tgt := 320) F dL_law_315 (by decide) (fun _ => ?_) (fun z => absurd rfl z)
  refine wa_iload F dL_law_320 1 rfl ?_
  refine wa_if_ne (tgt := 344) F dL_law_322 (by decide) (fun c322 => ?_) (fun c322 => ?_)
  · skip
    refine wa_goto (tgt := 2469) F dL_law_344 (by decide) ?_
    refine wa_lv (lv' := [(4, .int (nI (5 * t))), (3, .ref 1), (2, .ref 2), (1, .ref 0), (0, .ref 3)]) [2, 3, 4, 5, 6] rfl ?_
    refine wa_widen (k := cells + 4) (n := slots + 39) (by omega) (by omega) ?_
    exact K _ _ _ (INV_0 (st_special hi)) had1
  · skip
    have eo : (kO (kSpc S (xs ((5 * t) + 1)) (xs ((5 * t) + 2))) (rSpc S (xs ((5 * t) + 1)) (xs ((5 * t) + 2))) o) 0 = (rSpc S (xs ((5 * t) + 1)) (xs ((5 * t) + 2))).toInt64 := by rw [c322, kO_0]; exact if_pos rfl
    have er : mR (kSpc S (xs ((5 * t) + 1)) (xs ((5 * t) + 2))) (rSpc S (xs ((5 * t) + 1)) (xs ((5 * t) + 2))) = rSpc S (xs ((5 * t) + 1)) (xs ((5 * t) + 2)) := by rw [c322, mR_0]
    refine wa_aload_n F dL_law_325 (i := 3) rfl 3 rfl ?_
    refine wa_iconst (v := 0) F dL_law_326 (by decide) ?_
    refine wa_lald F 1 rfl (hm_o (TC := TC) (X := (sU (kU (kSpc S (xs ((5 * t) + 1)) (xs ((5 * t) + 2))) (uSpc (xs ((5 * t) + 1)) (xs ((5 * t) + 2))) (sSpc S (xs ((5 * t) + 1)) (xs ((5 * t) + 2)))) 0 0 (kSpc S (xs ((5 * t) + 1)) (xs ((5 * t) + 2))))) (S := (sU (kU (kSpc S (xs ((5 * t) + 1)) (xs ((5 * t) + 2))) (uSpc (xs ((5 * t) + 1)) (xs ((5 * t) + 2))) (sSpc S (xs ((5 * t) + 1)) (xs ((5 * t) + 2)))) 0 0 (kSpc S (xs ((5 * t) + 1)) (xs ((5 * t) + 2))))) (o := (kO (kSpc S (xs ((5 * t) + 1)) (xs ((5 * t) + 2))) (rSpc S (xs ((5 * t) + 1)) (xs ((5 * t) + 2))) o))) 0 rfl (by decide) (by decide) dL_law_327 ?_
    refine wa_iload F dL_law_328 0 rfl ?_
    refine wa_if_eq (tgt := 337) F dL_law_330 (by decide) (fun c330 => ?_) (fun c330 => ?_)
    · skip
      have eo2 : (kO (kSpc S (xs ((5 * t) + 1)) (xs ((5 * t) + 2))) (rSpc S (xs ((5 * t) + 1)) (xs ((5 * t) + 2))) o) 0 = 0 := by rw [eo, ← er]; exact b64f c330
      refine wa_lconst (v := 0) F dL_law_337 (by decide) ?_
      refine wa_lcmp F dL_law_338 ?_
      refine wa_if_eq (tgt := 344) F dL_law_339 (by decide) (fun _ => ?_) (fun z => absurd ((lg_cmp_eq _ _).mpr eo2) z)
      refine wa_goto (tgt := 2469) F dL_law_344 (by decide) ?_
      refine wa_lv (lv' := [(4, .int (nI (5 * t))), (3, .ref 1), (2, .ref 2), (1, .ref 0), (0, .ref 3)]) [2, 3, 4, 5, 6] rfl ?_
      refine wa_widen (k := cells + 4) (n := slots + 39) (by omega) (by omega) ?_
      exact K _ _ _ (INV_0 (st_special hi)) had1
    · skip
      have eo2 : (kO (kSpc S (xs ((5 * t) + 1)) (xs ((5 * t) + 2))) (rSpc S (xs ((5 * t) + 1)) (xs ((5 * t) + 2))) o) 0 = 1 := by rw [eo]; exact b64t rfl (by rw [← er]; exact c330)
      refine wa_lconst (v := 1) F dL_law_333 (by decide) ?_
      refine wa_goto (tgt := 338) F dL_law_334 (by decide) ?_
      refine wa_lcmp F dL_law_338 ?_
      refine wa_if_eq (tgt := 344) F dL_law_339 (by decide) (fun _ => ?_) (fun z => absurd ((lg_cmp_eq _ _).mpr eo2) z)
      refine wa_goto (tgt := 2469) F dL_law_344 (by decide) ?_
      refine wa_lv (lv' := [(4, .int (nI (5 * t))), (3, .ref 1), (2, .ref 2), (1, .ref 0), (0, .ref 3)]) [2, 3, 4, 5, 6] rfl ?_
      refine wa_widen (k := cells + 4) (n := slots + 39) (by omega) (by omega) ?_
      exact K _ _ _ (INV_0 (st_special hi)) had1
set_option maxHeartbeats 4000000 in
set_option maxRecDepth 20000 in
theorem law_2 {p : Program} {l : Launch} {e : Env} {s : State} {m : MethodId} {below : List Frame} {meth : Method} {c : Code} {b L : Nat} {xs : Nat → Int32} {D : va_G} {TC : Nat → ClassId} {Q : State → Prop} {ret : Option FieldType} {nm : String} {tb : List ExceptionTableEntry} (F : FX D (tysOf TC) s.heap p l s m #[.ref b] meth c RL cL_law 7 ret nm tb) (hst : l.stackTraces = false) (hX : va_X b L xs s s.heap) (hbs : b < s.heap.size) (hbl : b < s.heap.size) (hL : L < 2 ^ 31)
    (ad : Nat → Nat) (had : ad 3 = b) (S : St) (o : Nat → Int64) (t : Nat) (hi : INV t S) (ht : t < 512) (h5 : 5 * t + 5 ≤ L) (cells slots : Nat) (hcl : cells + 4 ≤ 601024) (hsl : slots + 39 ≤ 7293034)
    (K : ∀ (S1 : St) (o1 : Nat → Int64) (ad1 : Nat → Nat), INV (t + 1) S1 → ad1 3 = b → WA D s.heap p l e room_1 s m #[.ref b] below meth c 7 Q ad1 (hall TC S1 S1 o1) (cells + 4) (slots + 39) 2469 [(4, .int (nI (5 * t))), (3, .ref 1), (2, .ref 2), (1, .ref 0), (0, .ref 3)] []) : WA D s.heap p l e room_1 s m #[.ref b] below meth c 7 Q ad (hall TC S S o) cells slots 347 [(4, .int (nI (5 * t))), (3, .ref 1), (2, .ref 2), (1, .ref 0), (0, .ref 3)] [] := by
  refine wa_aload_n F dL_law_347 (i := 1) rfl 3 rfl ?_
  refine wa_aload_n F dL_law_348 (i := 0) rfl 4 rfl ?_
  refine wa_iload F dL_law_349 0 rfl ?_
  refine wa_iconst (v := 1) F dL_law_351 (by decide) ?_
  refine wa_iaddN F dL_law_352 (a := 5 * t) (b := 1) rfl rfl ?_
  refine wa_sld F hX hbs hbl had ((5 * t) + 1) rfl (by omega) hL dL_law_353 ?_
  refine wa_aload_n F dL_law_354 (i := 0) rfl 4 rfl ?_
  refine wa_iload F dL_law_355 0 rfl ?_
  refine wa_iconst (v := 2) F dL_law_357 (by decide) ?_
  refine wa_iaddN F dL_law_358 (a := 5 * t) (b := 2) rfl rfl ?_
  refine wa_sld F hX hbs hbl had ((5 * t) + 2) rfl (by omega) hL dL_law_359 ?_
  refine wa_aload_n F dL_law_360 (i := 3) rfl 1 rfl ?_
  have hiX : INV (t + 1) (kU (kStd S (xs ((5 * t) + 1)) (xs ((5 * t) + 2))) (uStd (xs ((5 * t) + 1)) (xs ((5 * t) + 2))) S) := (st_standard hi)
  have hnr3 : noRef (hall TC (kU (kStd S (xs ((5 * t) + 1)) (xs ((5 * t) + 2))) (uStd (xs ((5 * t) + 1)) (xs ((5 * t) + 2))) S) S (kO (kStd S (xs ((5 * t) + 1)) (xs ((5 * t) + 2))) (rStd S) o)) 3 := hall_nr (Or.inl rfl) rfl hiX.1.2 hiX.2.1.2 hiX.2.2.1.2 hiX.2.2.2.1.2 hiX.2.2.2.2.1.2 hiX.2.2.2.2.2.2.2.1
  refine wa_callH3 F [] (c_L_standard hst D TC s.heap ad S S o (xs ((5 * t) + 1)) (xs ((5 * t) + 2)) t hi) mw_L_standard ml_L_134 rfl hnr3 rfl (Nat.le_of_ble_eq_true rfl) ⟨(Nat.le_of_ble_eq_true rfl), (Nat.le_of_ble_eq_true rfl)⟩ ⟨show _ ≤ 601024 by omega, show _ ≤ 7293034 by omega⟩ dL_law_361 (by intro y hy; simp only [List.mem_cons, List.not_mem_nil, or_false] at hy; rcases hy with rfl | rfl | rfl | rfl | rfl <;> intro z hz <;> first | (cases hz; exact Or.inl rfl) | (cases hz; exact Or.inr (by simp [hm_c, hm_m, hm_o])) | cases hz) rfl ?_
  intro ad1 had1
  replace had1 : ad1 3 = b := had1.trans had
  refine wa_istore (lv' := [(5, .int (kStd S (xs ((5 * t) + 1)) (xs ((5 * t) + 2)))), (4, .int (nI (5 * t))), (3, .ref 1), (2, .ref 2), (1, .ref 0), (0, .ref 3)]) F dL_law_364 (by decide) rfl ?_
  refine wa_aload_n F dL_law_366 (i := 2) rfl 3 rfl ?_
  refine wa_aload_n F dL_law_367 (i := 0) rfl 5 rfl ?_
  refine wa_iload F dL_law_368 1 rfl ?_
  refine wa_iconst (v := 1) F dL_law_370 (by decide) ?_
  refine wa_iaddN F dL_law_371 (a := 5 * t) (b := 1) rfl rfl ?_
  refine wa_sld F hX hbs hbl had1 ((5 * t) + 1) rfl (by omega) hL dL_law_372 ?_
  refine wa_aload_n F dL_law_373 (i := 0) rfl 5 rfl ?_
  refine wa_iload F dL_law_374 1 rfl ?_
  refine wa_iconst (v := 2) F dL_law_376 (by decide) ?_
  refine wa_iaddN F dL_law_377 (a := 5 * t) (b := 2) rfl rfl ?_
  refine wa_sld F hX hbs hbl had1 ((5 * t) + 2) rfl (by omega) hL dL_law_378 ?_
  refine wa_callV F [] (c_X6_standard hst D TC s.heap ad1 (kU (kStd S (xs ((5 * t) + 1)) (xs ((5 * t) + 2))) (uStd (xs ((5 * t) + 1)) (xs ((5 * t) + 2))) S) S (kO (kStd S (xs ((5 * t) + 1)) (xs ((5 * t) + 2))) (rStd S) o) (xs ((5 * t) + 1)) (xs ((5 * t) + 2)) t hi) mw_X6_standard ml_L_136 hm_m rfl rfl (Nat.le_of_ble_eq_true rfl) ⟨(Nat.le_of_ble_eq_true rfl), (Nat.le_of_ble_eq_true rfl)⟩ ⟨show _ ≤ 601024 by omega, show _ ≤ 7293034 by omega⟩ dL_law_379 PR_ag (fun _ z => z.elim) ?_
  rintro _ _ _ ⟨rfl, rfl, rfl⟩
  rw [mS_eq (S := S) (fun w => c0_standard), hall_ag (X := (kU (kStd S (xs ((5 * t) + 1)) (xs ((5 * t) + 2))) (uStd (xs ((5 * t) + 1)) (xs ((5 * t) + 2))) S)) ag_0]
  refine wa_istore (lv' := [(6, .int (mR (kStd S (xs ((5 * t) + 1)) (xs ((5 * t) + 2))) (rStd S))), (5, .int (kStd S (xs ((5 * t) + 1)) (xs ((5 * t) + 2)))), (4, .int (nI (5 * t))), (3, .ref 1), (2, .ref 2), (1, .ref 0), (0, .ref 3)]) F dL_law_382 (by decide) rfl ?_
  refine wa_aload_n F dL_law_384 (i := 2) rfl 4 rfl ?_
  refine wa_callV F [] (c_X6_thrown hst D TC s.heap ad1 (sU (kU (kStd S (xs ((5 * t) + 1)) (xs ((5 * t) + 2))) (uStd (xs ((5 * t) + 1)) (xs ((5 * t) + 2))) S) 0 0 (kStd S (xs ((5 * t) + 1)) (xs ((5 * t) + 2)))) (sU (kU (kStd S (xs ((5 * t) + 1)) (xs ((5 * t) + 2))) (uStd (xs ((5 * t) + 1)) (xs ((5 * t) + 2))) S) 0 0 (kStd S (xs ((5 * t) + 1)) (xs ((5 * t) + 2)))) (kO (kStd S (xs ((5 * t) + 1)) (xs ((5 * t) + 2))) (rStd S) o)) mw_X6_thrown ml_L_126 hm_m rfl rfl (Nat.le_of_ble_eq_true rfl) ⟨(Nat.le_of_ble_eq_true rfl), (Nat.le_of_ble_eq_true rfl)⟩ ⟨show _ ≤ 601024 by omega, show _ ≤ 7293034 by omega⟩ dL_law_385 PR_ag (fun _ z => z.elim) ?_
  rintro _ _ _ ⟨rfl, rfl, rfl⟩
  rw [show (sU (kU (kStd S (xs ((5 * t) + 1)) (xs ((5 * t) + 2))) (uStd (xs ((5 * t) + 1)) (xs ((5 * t) + 2))) S) 0 0 (kStd S (xs ((5 * t) + 1)) (xs ((5 * t) + 2)))) 0 0 = kStd S (xs ((5 * t) + 1)) (xs ((5 * t) + 2)) from by rw [sU_eq, if_pos rfl]]
  refine wa_iload F dL_law_388 1 rfl ?_
  refine wa_icmp_eq (tgt := 395) F dL_law_390 (by decide) (fun _ => ?_) (fun z => absurd rfl z)
  refine wa_iload F dL_law_395 1 rfl ?_
  refine wa_if_ne (tgt := 412) F dL_law_397 (by decide) (fun c397 => ?_) (fun c397 => ?_)
  · skip
    refine wa_goto (tgt := 2469) F dL_law_412 (by decide) ?_
    refine wa_lv (lv' := [(4, .int (nI (5 * t))), (3, .ref 1), (2, .ref 2), (1, .ref 0), (0, .ref 3)]) [2, 3, 4, 5, 6] rfl ?_
    refine wa_widen (k := cells + 4) (n := slots + 39) (by omega) (by omega) ?_
    exact K _ _ _ (INV_0 hiX) had1
  · skip
    have eo : (kO (kStd S (xs ((5 * t) + 1)) (xs ((5 * t) + 2))) (rStd S) o) 0 = (rStd S).toInt64 := by rw [c397, kO_0]; exact if_pos rfl
    have er : mR (kStd S (xs ((5 * t) + 1)) (xs ((5 * t) + 2))) (rStd S) = rStd S := by rw [c397, mR_0]
    refine wa_aload_n F dL_law_400 (i := 3) rfl 3 rfl ?_
    refine wa_iconst (v := 0) F dL_law_401 (by decide) ?_
    refine wa_lald F 1 rfl (hm_o (TC := TC) (X := (sU (kU (kStd S (xs ((5 * t) + 1)) (xs ((5 * t) + 2))) (uStd (xs ((5 * t) + 1)) (xs ((5 * t) + 2))) S) 0 0 (kStd S (xs ((5 * t) + 1)) (xs ((5 * t) + 2))))) (S := (sU (kU (kStd S (xs ((5 * t) + 1)) (xs ((5 * t) + 2))) (uStd (xs ((5 * t) + 1)) (xs ((5 * t) + 2))) S) 0 0 (kStd S (xs ((5 * t) + 1)) (xs ((5 * t) + 2))))) (o := (kO (kStd S (xs ((5 * t) + 1)) (xs ((5 * t) + 2))) (rStd S) o))) 0 rfl (by decide) (by decide) dL_law_402 ?_
    refine wa_iload F dL_law_403 0 rfl ?_
    refine wa_i2l F dL_law_405 rfl ?_
    have eo1 : (kO (kStd S (xs ((5 * t) + 1)) (xs ((5 * t) + 2))) (rStd S) o) 0 = (mR (kStd S (xs ((5 * t) + 1)) (xs ((5 * t) + 2))) (rStd S)).toInt64 := by rw [er]; exact eo
    refine wa_lcmp F dL_law_406 ?_
    refine wa_if_eq (tgt := 412) F dL_law_407 (by decide) (fun _ => ?_) (fun z => absurd ((lg_cmp_eq _ _).mpr eo1) z)
    refine wa_goto (tgt := 2469) F dL_law_412 (by decide) ?_
    refine wa_lv (lv' := [(4, .int (nI (5 * t))), (3, .ref 1), (2, .ref 2), (1, .ref 0), (0, .ref 3)]) [2, 3, 4, 5, 6] rfl ?_
    refine wa_widen (k := cells + 4) (n := slots + 39) (by omega) (by omega) ?_
    exact K _ _ _ (INV_0 hiX) had1
set_option maxHeartbeats 4000000 in
set_option maxRecDepth 20000 in
theorem law_3 {p : Program} {l : Launch} {e : Env} {s : State} {m : MethodId} {below : List Frame} {meth : Method} {c : Code} {b L : Nat} {xs : Nat → Int32} {D : va_G} {TC : Nat → ClassId} {Q : State → Prop} {ret : Option FieldType} {nm : String} {tb : List ExceptionTableEntry} (F : FX D (tysOf TC) s.heap p l s m #[.ref b] meth c RL cL_law 7 ret nm tb) (hst : l.stackTraces = false) (hX : va_X b L xs s s.heap) (hbs : b < s.heap.size) (hbl : b < s.heap.size) (hL : L < 2 ^ 31)
    (ad : Nat → Nat) (had : ad 3 = b) (S : St) (o : Nat → Int64) (t : Nat) (hi : INV t S) (ht : t < 512) (h5 : 5 * t + 5 ≤ L) (cells slots : Nat) (hcl : cells + 4 ≤ 601024) (hsl : slots + 39 ≤ 7293034)
    (K : ∀ (S1 : St) (o1 : Nat → Int64) (ad1 : Nat → Nat), INV (t + 1) S1 → ad1 3 = b → WA D s.heap p l e room_1 s m #[.ref b] below meth c 7 Q ad1 (hall TC S1 S1 o1) (cells + 4) (slots + 39) 2469 [(4, .int (nI (5 * t))), (3, .ref 1), (2, .ref 2), (1, .ref 0), (0, .ref 3)] []) : WA D s.heap p l e room_1 s m #[.ref b] below meth c 7 Q ad (hall TC S S o) cells slots 415 [(4, .int (nI (5 * t))), (3, .ref 1), (2, .ref 2), (1, .ref 0), (0, .ref 3)] [] := by
  refine wa_aload_n F dL_law_415 (i := 1) rfl 3 rfl ?_
  refine wa_aload_n F dL_law_416 (i := 0) rfl 4 rfl ?_
  refine wa_iload F dL_law_417 0 rfl ?_
  refine wa_iconst (v := 1) F dL_law_419 (by decide) ?_
  refine wa_iaddN F dL_law_420 (a := 5 * t) (b := 1) rfl rfl ?_
  refine wa_sld F hX hbs hbl had ((5 * t) + 1) rfl (by omega) hL dL_law_421 ?_
  refine wa_aload_n F dL_law_422 (i := 0) rfl 4 rfl ?_
  refine wa_iload F dL_law_423 0 rfl ?_
  refine wa_iconst (v := 2) F dL_law_425 (by decide) ?_
  refine wa_iaddN F dL_law_426 (a := 5 * t) (b := 2) rfl rfl ?_
  refine wa_sld F hX hbs hbl had ((5 * t) + 2) rfl (by omega) hL dL_law_427 ?_
  refine wa_aload_n F dL_law_428 (i := 3) rfl 1 rfl ?_
  have hiX : INV (t + 1) (kU (kWd S (xs ((5 * t) + 1)) (xs ((5 * t) + 2))) (uWd (xs ((5 * t) + 1)) (xs ((5 * t) + 2))) S) := (st_withdraw hi)
  have hnr3 : noRef (hall TC (kU (kWd S (xs ((5 * t) + 1)) (xs ((5 * t) + 2))) (uWd (xs ((5 * t) + 1)) (xs ((5 * t) + 2))) S) S (kO (kWd S (xs ((5 * t) + 1)) (xs ((5 * t) + 2))) (rWd S (xs ((5 * t) + 1))) o)) 3 := hall_nr (Or.inl rfl) rfl hiX.1.2 hiX.2.1.2 hiX.2.2.1.2 hiX.2.2.2.1.2 hiX.2.2.2.2.1.2 hiX.2.2.2.2.2.2.2.1
  refine wa_callH3 F [] (c_L_withdraw hst D TC s.heap ad S S o (xs ((5 * t) + 1)) (xs ((5 * t) + 2)) t hi) mw_L_withdraw ml_L_137 rfl hnr3 rfl (Nat.le_of_ble_eq_true rfl) ⟨(Nat.le_of_ble_eq_true rfl), (Nat.le_of_ble_eq_true rfl)⟩ ⟨show _ ≤ 601024 by omega, show _ ≤ 7293034 by omega⟩ dL_law_429 (by intro y hy; simp only [List.mem_cons, List.not_mem_nil, or_false] at hy; rcases hy with rfl | rfl | rfl | rfl | rfl <;> intro z hz <;> first | (cases hz; exact Or.inl rfl) | (cases hz; exact Or.inr (by simp [hm_c, hm_m, hm_o])) | cases hz) rfl ?_
  intro ad1 had1
  replace had1 : ad1 3 = b := had1.trans had
  refine wa_istore (lv' := [(5, .int (kWd S (xs ((5 * t) + 1)) (xs ((5 * t) + 2)))), (4, .int (nI (5 * t))), (3, .ref 1), (2, .ref 2), (1, .ref 0), (0, .ref 3)]) F dL_law_432 (by decide) rfl ?_
  refine wa_aload_n F dL_law_434 (i := 2) rfl 3 rfl ?_
  refine wa_aload_n F dL_law_435 (i := 0) rfl 5 rfl ?_
  refine wa_iload F dL_law_436 1 rfl ?_
  refine wa_iconst (v := 1) F dL_law_438 (by decide) ?_
  refine wa_iaddN F dL_law_439 (a := 5 * t) (b := 1) rfl rfl ?_
  refine wa_sld F hX hbs hbl had1 ((5 * t) + 1) rfl (by omega) hL dL_law_440 ?_
  refine wa_aload_n F dL_law_441 (i := 0) rfl 5 rfl ?_
  refine wa_iload F dL_law_442 1 rfl ?_
  refine wa_iconst (v := 2) F dL_law_444 (by decide) ?_
  refine wa_iaddN F dL_law_445 (a := 5 * t) (b := 2) rfl rfl ?_
  refine wa_sld F hX hbs hbl had1 ((5 * t) + 2) rfl (by omega) hL dL_law_446 ?_
  refine wa_callV F [] (c_X6_withdraw hst D TC s.heap ad1 (kU (kWd S (xs ((5 * t) + 1)) (xs ((5 * t) + 2))) (uWd (xs ((5 * t) + 1)) (xs ((5 * t) + 2))) S) S (kO (kWd S (xs ((5 * t) + 1)) (xs ((5 * t) + 2))) (rWd S (xs ((5 * t) + 1))) o) (xs ((5 * t) + 1)) (xs ((5 * t) + 2)) t hi) mw_X6_withdraw ml_L_139 hm_m rfl rfl (Nat.le_of_ble_eq_true rfl) ⟨(Nat.le_of_ble_eq_true rfl), (Nat.le_of_ble_eq_true rfl)⟩ ⟨show _ ≤ 601024 by omega, show _ ≤ 7293034 by omega⟩ dL_law_447 PR_ag (fun _ z => z.elim) ?_
  rintro _ _ _ ⟨rfl, rfl, rfl⟩
  rw [mS_eq (S := S) (fun w => c0_withdraw), hall_ag (X := (kU (kWd S (xs ((5 * t) + 1)) (xs ((5 * t) + 2))) (uWd (xs ((5 * t) + 1)) (xs ((5 * t) + 2))) S)) ag_0]
  refine wa_istore (lv' := [(6, .int (mR (kWd S (xs ((5 * t) + 1)) (xs ((5 * t) + 2))) (rWd S (xs ((5 * t) + 1))))), (5, .int (kWd S (xs ((5 * t) + 1)) (xs ((5 * t) + 2)))), (4, .int (nI (5 * t))), (3, .ref 1), (2, .ref 2), (1, .ref 0), (0, .ref 3)]) F dL_law_450 (by decide) rfl ?_
  refine wa_aload_n F dL_law_452 (i := 2) rfl 4 rfl ?_
  refine wa_callV F [] (c_X6_thrown hst D TC s.heap ad1 (sU (kU (kWd S (xs ((5 * t) + 1)) (xs ((5 * t) + 2))) (uWd (xs ((5 * t) + 1)) (xs ((5 * t) + 2))) S) 0 0 (kWd S (xs ((5 * t) + 1)) (xs ((5 * t) + 2)))) (sU (kU (kWd S (xs ((5 * t) + 1)) (xs ((5 * t) + 2))) (uWd (xs ((5 * t) + 1)) (xs ((5 * t) + 2))) S) 0 0 (kWd S (xs ((5 * t) + 1)) (xs ((5 * t) + 2)))) (kO (kWd S (xs ((5 * t) + 1)) (xs ((5 * t) + 2))) (rWd S (xs ((5 * t) + 1))) o)) mw_X6_thrown ml_L_126 hm_m rfl rfl (Nat.le_of_ble_eq_true rfl) ⟨(Nat.le_of_ble_eq_true rfl), (Nat.le_of_ble_eq_true rfl)⟩ ⟨show _ ≤ 601024 by omega, show _ ≤ 7293034 by omega⟩ dL_law_453 PR_ag (fun _ z => z.elim) ?_
  rintro _ _ _ ⟨rfl, rfl, rfl⟩
  rw [show (sU (kU (kWd S (xs ((5 * t) + 1)) (xs ((5 * t) + 2))) (uWd (xs ((5 * t) + 1)) (xs ((5 * t) + 2))) S) 0 0 (kWd S (xs ((5 * t) + 1)) (xs ((5 * t) + 2)))) 0 0 = kWd S (xs ((5 * t) + 1)) (xs ((5 * t) + 2)) from by rw [sU_eq, if_pos rfl]]
  refine wa_iload F dL_law_456 1 rfl ?_
  refine wa_icmp_eq (tgt := 463) F dL_law_458 (by decide) (fun _ => ?_) (fun z => absurd rfl z)
  refine wa_iload F dL_law_463 1 rfl ?_
  refine wa_if_ne (tgt := 480) F dL_law_465 (by decide) (fun c465 => ?_) (fun c465 => ?_)
  · skip
    refine wa_goto (tgt := 2469) F dL_law_480 (by decide) ?_
    refine wa_lv (lv' := [(4, .int (nI (5 * t))), (3, .ref 1), (2, .ref 2), (1, .ref 0), (0, .ref 3)]) [2, 3, 4, 5, 6] rfl ?_
    refine wa_widen (k := cells + 4) (n := slots + 39) (by omega) (by omega) ?_
    exact K _ _ _ (INV_0 hiX) had1
  · skip
    have eo : (kO (kWd S (xs ((5 * t) + 1)) (xs ((5 * t) + 2))) (rWd S (xs ((5 * t) + 1))) o) 0 = (rWd S (xs ((5 * t) + 1))).toInt64 := by rw [c465, kO_0]; exact if_pos rfl
    have er : mR (kWd S (xs ((5 * t) + 1)) (xs ((5 * t) + 2))) (rWd S (xs ((5 * t) + 1))) = rWd S (xs ((5 * t) + 1)) := by rw [c465, mR_0]
    refine wa_aload_n F dL_law_468 (i := 3) rfl 3 rfl ?_
    refine wa_iconst (v := 0) F dL_law_469 (by decide) ?_
    refine wa_lald F 1 rfl (hm_o (TC := TC) (X := (sU (kU (kWd S (xs ((5 * t) + 1)) (xs ((5 * t) + 2))) (uWd (xs ((5 * t) + 1)) (xs ((5 * t) + 2))) S) 0 0 (kWd S (xs ((5 * t) + 1)) (xs ((5 * t) + 2))))) (S := (sU (kU (kWd S (xs ((5 * t) + 1)) (xs ((5 * t) + 2))) (uWd (xs ((5 * t) + 1)) (xs ((5 * t) + 2))) S) 0 0 (kWd S (xs ((5 * t) + 1)) (xs ((5 * t) + 2))))) (o := (kO (kWd S (xs ((5 * t) + 1)) (xs ((5 * t) + 2))) (rWd S (xs ((5 * t) + 1))) o))) 0 rfl (by decide) (by decide) dL_law_470 ?_
    refine wa_iload F dL_law_471 0 rfl ?_
    refine wa_i2l F dL_law_473 rfl ?_
    have eo1 : (kO (kWd S (xs ((5 * t) + 1)) (xs ((5 * t) + 2))) (rWd S (xs ((5 * t) + 1))) o) 0 = (mR (kWd S (xs ((5 * t) + 1)) (xs ((5 * t) + 2))) (rWd S (xs ((5 * t) + 1)))).toInt64 := by rw [er]; exact eo
    refine wa_lcmp F dL_law_474 ?_
    refine wa_if_eq (tgt := 480) F dL_law_475 (by decide) (fun _ => ?_) (fun z => absurd ((lg_cmp_eq _ _).mpr eo1) z)
    refine wa_goto (tgt := 2469) F dL_law_480 (by decide) ?_
    refine wa_lv (lv' := [(4, .int (nI (5 * t))), (3, .ref 1), (2, .ref 2), (1, .ref 0), (0, .ref 3)]) [2, 3, 4, 5, 6] rfl ?_
    refine wa_widen (k := cells + 4) (n := slots + 39) (by omega) (by omega) ?_
    exact K _ _ _ (INV_0 hiX) had1
set_option maxHeartbeats 4000000 in
set_option maxRecDepth 20000 in
theorem law_4 {p : Program} {l : Launch} {e : Env} {s : State} {m : MethodId} {below : List Frame} {meth : Method} {c : Code} {b L : Nat} {xs : Nat → Int32} {D : va_G} {TC : Nat → ClassId} {Q : State → Prop} {ret : Option FieldType} {nm : String} {tb : List ExceptionTableEntry} (F : FX D (tysOf TC) s.heap p l s m #[.ref b] meth c RL cL_law 7 ret nm tb) (hst : l.stackTraces = false) (hX : va_X b L xs s s.heap) (hbs : b < s.heap.size) (hbl : b < s.heap.size) (hL : L < 2 ^ 31)
    (ad : Nat → Nat) (had : ad 3 = b) (S : St) (o : Nat → Int64) (t : Nat) (hi : INV t S) (ht : t < 512) (h5 : 5 * t + 5 ≤ L) (cells slots : Nat) (hcl : cells + 4 ≤ 601024) (hsl : slots + 39 ≤ 7293034)
    (K : ∀ (S1 : St) (o1 : Nat → Int64) (ad1 : Nat → Nat), INV (t + 1) S1 → ad1 3 = b → WA D s.heap p l e room_1 s m #[.ref b] below meth c 7 Q ad1 (hall TC S1 S1 o1) (cells + 4) (slots + 39) 2469 [(4, .int (nI (5 * t))), (3, .ref 1), (2, .ref 2), (1, .ref 0), (0, .ref 3)] []) : WA D s.heap p l e room_1 s m #[.ref b] below meth c 7 Q ad (hall TC S S o) cells slots 483 [(4, .int (nI (5 * t))), (3, .ref 1), (2, .ref 2), (1, .ref 0), (0, .ref 3)] [] := by
  refine wa_aload_n F dL_law_483 (i := 1) rfl 3 rfl ?_
  refine wa_aload_n F dL_law_484 (i := 0) rfl 4 rfl ?_
  refine wa_iload F dL_law_485 0 rfl ?_
  refine wa_iconst (v := 1) F dL_law_487 (by decide) ?_
  refine wa_iaddN F dL_law_488 (a := 5 * t) (b := 1) rfl rfl ?_
  refine wa_sld F hX hbs hbl had ((5 * t) + 1) rfl (by omega) hL dL_law_489 ?_
  refine wa_aload_n F dL_law_490 (i := 0) rfl 4 rfl ?_
  refine wa_iload F dL_law_491 0 rfl ?_
  refine wa_iconst (v := 2) F dL_law_493 (by decide) ?_
  refine wa_iaddN F dL_law_494 (a := 5 * t) (b := 2) rfl rfl ?_
  refine wa_sld F hX hbs hbl had ((5 * t) + 2) rfl (by omega) hL dL_law_495 ?_
  refine wa_aload_n F dL_law_496 (i := 3) rfl 1 rfl ?_
  have hiX : INV (t + 1) (kU (kRs S (xs ((5 * t) + 1)) (xs ((5 * t) + 2))) (uRs (xs ((5 * t) + 1)) (xs ((5 * t) + 2))) S) := (st_restrict hi)
  have hnr3 : noRef (hall TC (kU (kRs S (xs ((5 * t) + 1)) (xs ((5 * t) + 2))) (uRs (xs ((5 * t) + 1)) (xs ((5 * t) + 2))) S) S (kO (kRs S (xs ((5 * t) + 1)) (xs ((5 * t) + 2))) (rRs S (xs ((5 * t) + 1)) (xs ((5 * t) + 2))) o)) 3 := hall_nr (Or.inl rfl) rfl hiX.1.2 hiX.2.1.2 hiX.2.2.1.2 hiX.2.2.2.1.2 hiX.2.2.2.2.1.2 hiX.2.2.2.2.2.2.2.1
  refine wa_callH3 F [] (c_L_restrict hst D TC s.heap ad S S o (xs ((5 * t) + 1)) (xs ((5 * t) + 2)) t hi) mw_L_restrict ml_L_140 rfl hnr3 rfl (Nat.le_of_ble_eq_true rfl) ⟨(Nat.le_of_ble_eq_true rfl), (Nat.le_of_ble_eq_true rfl)⟩ ⟨show _ ≤ 601024 by omega, show _ ≤ 7293034 by omega⟩ dL_law_497 (by intro y hy; simp only [List.mem_cons, List.not_mem_nil, or_false] at hy; rcases hy with rfl | rfl | rfl | rfl | rfl <;> intro z hz <;> first | (cases hz; exact Or.inl rfl) | (cases hz; exact Or.inr (by simp [hm_c, hm_m, hm_o])) | cases hz) rfl ?_
  intro ad1 had1
  replace had1 : ad1 3 = b := had1.trans had
  refine wa_istore (lv' := [(5, .int (kRs S (xs ((5 * t) + 1)) (xs ((5 * t) + 2)))), (4, .int (nI (5 * t))), (3, .ref 1), (2, .ref 2), (1, .ref 0), (0, .ref 3)]) F dL_law_500 (by decide) rfl ?_
  refine wa_aload_n F dL_law_502 (i := 2) rfl 3 rfl ?_
  refine wa_aload_n F dL_law_503 (i := 0) rfl 5 rfl ?_
  refine wa_iload F dL_law_504 1 rfl ?_
  refine wa_iconst (v := 1) F dL_law_506 (by decide) ?_
  refine wa_iaddN F dL_law_507 (a := 5 * t) (b := 1) rfl rfl ?_
  refine wa_sld F hX hbs hbl had1 ((5 * t) + 1) rfl (by omega) hL dL_law_508 ?_
  refine wa_aload_n F dL_law_509 (i := 0) rfl 5 rfl ?_
  refine wa_iload F dL_law_510 1 rfl ?_
  refine wa_iconst (v := 2) F dL_law_512 (by decide) ?_
  refine wa_iaddN F dL_law_513 (a := 5 * t) (b := 2) rfl rfl ?_
  refine wa_sld F hX hbs hbl had1 ((5 * t) + 2) rfl (by omega) hL dL_law_514 ?_
  refine wa_callV F [] (c_X6_restrict hst D TC s.heap ad1 (kU (kRs S (xs ((5 * t) + 1)) (xs ((5 * t) + 2))) (uRs (xs ((5 * t) + 1)) (xs ((5 * t) + 2))) S) S (kO (kRs S (xs ((5 * t) + 1)) (xs ((5 * t) + 2))) (rRs S (xs ((5 * t) + 1)) (xs ((5 * t) + 2))) o) (xs ((5 * t) + 1)) (xs ((5 * t) + 2)) t hi) mw_X6_restrict ml_L_142 hm_m rfl rfl (Nat.le_of_ble_eq_true rfl) ⟨(Nat.le_of_ble_eq_true rfl), (Nat.le_of_ble_eq_true rfl)⟩ ⟨show _ ≤ 601024 by omega, show _ ≤ 7293034 by omega⟩ dL_law_515 PR_ag (fun _ z => z.elim) ?_
  rintro _ _ _ ⟨rfl, rfl, rfl⟩
  rw [mS_eq (S := S) (fun w => c0_restrict), hall_ag (X := (kU (kRs S (xs ((5 * t) + 1)) (xs ((5 * t) + 2))) (uRs (xs ((5 * t) + 1)) (xs ((5 * t) + 2))) S)) ag_0]
  refine wa_istore (lv' := [(6, .int (mR (kRs S (xs ((5 * t) + 1)) (xs ((5 * t) + 2))) (rRs S (xs ((5 * t) + 1)) (xs ((5 * t) + 2))))), (5, .int (kRs S (xs ((5 * t) + 1)) (xs ((5 * t) + 2)))), (4, .int (nI (5 * t))), (3, .ref 1), (2, .ref 2), (1, .ref 0), (0, .ref 3)]) F dL_law_518 (by decide) rfl ?_
  refine wa_aload_n F dL_law_520 (i := 2) rfl 4 rfl ?_
  refine wa_callV F [] (c_X6_thrown hst D TC s.heap ad1 (sU (kU (kRs S (xs ((5 * t) + 1)) (xs ((5 * t) + 2))) (uRs (xs ((5 * t) + 1)) (xs ((5 * t) + 2))) S) 0 0 (kRs S (xs ((5 * t) + 1)) (xs ((5 * t) + 2)))) (sU (kU (kRs S (xs ((5 * t) + 1)) (xs ((5 * t) + 2))) (uRs (xs ((5 * t) + 1)) (xs ((5 * t) + 2))) S) 0 0 (kRs S (xs ((5 * t) + 1)) (xs ((5 * t) + 2)))) (kO (kRs S (xs ((5 * t) + 1)) (xs ((5 * t) + 2))) (rRs S (xs ((5 * t) + 1)) (xs ((5 * t) + 2))) o)) mw_X6_thrown ml_L_126 hm_m rfl rfl (Nat.le_of_ble_eq_true rfl) ⟨(Nat.le_of_ble_eq_true rfl), (Nat.le_of_ble_eq_true rfl)⟩ ⟨show _ ≤ 601024 by omega, show _ ≤ 7293034 by omega⟩ dL_law_521 PR_ag (fun _ z => z.elim) ?_
  rintro _ _ _ ⟨rfl, rfl, rfl⟩
  rw [show (sU (kU (kRs S (xs ((5 * t) + 1)) (xs ((5 * t) + 2))) (uRs (xs ((5 * t) + 1)) (xs ((5 * t) + 2))) S) 0 0 (kRs S (xs ((5 * t) + 1)) (xs ((5 * t) + 2)))) 0 0 = kRs S (xs ((5 * t) + 1)) (xs ((5 * t) + 2)) from by rw [sU_eq, if_pos rfl]]
  refine wa_iload F dL_law_524 1 rfl ?_
  refine wa_icmp_eq (tgt := 531) F dL_law_526 (by decide) (fun _ => ?_) (fun z => absurd rfl z)
  refine wa_iload F dL_law_531 1 rfl ?_
  refine wa_if_ne (tgt := 548) F dL_law_533 (by decide) (fun c533 => ?_) (fun c533 => ?_)
  · skip
    refine wa_goto (tgt := 2469) F dL_law_548 (by decide) ?_
    refine wa_lv (lv' := [(4, .int (nI (5 * t))), (3, .ref 1), (2, .ref 2), (1, .ref 0), (0, .ref 3)]) [2, 3, 4, 5, 6] rfl ?_
    refine wa_widen (k := cells + 4) (n := slots + 39) (by omega) (by omega) ?_
    exact K _ _ _ (INV_0 hiX) had1
  · skip
    have eo : (kO (kRs S (xs ((5 * t) + 1)) (xs ((5 * t) + 2))) (rRs S (xs ((5 * t) + 1)) (xs ((5 * t) + 2))) o) 0 = (rRs S (xs ((5 * t) + 1)) (xs ((5 * t) + 2))).toInt64 := by rw [c533, kO_0]; exact if_pos rfl
    have er : mR (kRs S (xs ((5 * t) + 1)) (xs ((5 * t) + 2))) (rRs S (xs ((5 * t) + 1)) (xs ((5 * t) + 2))) = rRs S (xs ((5 * t) + 1)) (xs ((5 * t) + 2)) := by rw [c533, mR_0]
    refine wa_aload_n F dL_law_536 (i := 3) rfl 3 rfl ?_
    refine wa_iconst (v := 0) F dL_law_537 (by decide) ?_
    refine wa_lald F 1 rfl (hm_o (TC := TC) (X := (sU (kU (kRs S (xs ((5 * t) + 1)) (xs ((5 * t) + 2))) (uRs (xs ((5 * t) + 1)) (xs ((5 * t) + 2))) S) 0 0 (kRs S (xs ((5 * t) + 1)) (xs ((5 * t) + 2))))) (S := (sU (kU (kRs S (xs ((5 * t) + 1)) (xs ((5 * t) + 2))) (uRs (xs ((5 * t) + 1)) (xs ((5 * t) + 2))) S) 0 0 (kRs S (xs ((5 * t) + 1)) (xs ((5 * t) + 2))))) (o := (kO (kRs S (xs ((5 * t) + 1)) (xs ((5 * t) + 2))) (rRs S (xs ((5 * t) + 1)) (xs ((5 * t) + 2))) o))) 0 rfl (by decide) (by decide) dL_law_538 ?_
    refine wa_iload F dL_law_539 0 rfl ?_
    refine wa_i2l F dL_law_541 rfl ?_
    have eo1 : (kO (kRs S (xs ((5 * t) + 1)) (xs ((5 * t) + 2))) (rRs S (xs ((5 * t) + 1)) (xs ((5 * t) + 2))) o) 0 = (mR (kRs S (xs ((5 * t) + 1)) (xs ((5 * t) + 2))) (rRs S (xs ((5 * t) + 1)) (xs ((5 * t) + 2)))).toInt64 := by rw [er]; exact eo
    refine wa_lcmp F dL_law_542 ?_
    refine wa_if_eq (tgt := 548) F dL_law_543 (by decide) (fun _ => ?_) (fun z => absurd ((lg_cmp_eq _ _).mpr eo1) z)
    refine wa_goto (tgt := 2469) F dL_law_548 (by decide) ?_
    refine wa_lv (lv' := [(4, .int (nI (5 * t))), (3, .ref 1), (2, .ref 2), (1, .ref 0), (0, .ref 3)]) [2, 3, 4, 5, 6] rfl ?_
    refine wa_widen (k := cells + 4) (n := slots + 39) (by omega) (by omega) ?_
    exact K _ _ _ (INV_0 hiX) had1
set_option maxHeartbeats 4000000 in
set_option maxRecDepth 20000 in
theorem law_5 {p : Program} {l : Launch} {e : Env} {s : State} {m : MethodId} {below : List Frame} {meth : Method} {c : Code} {b L : Nat} {xs : Nat → Int32} {D : va_G} {TC : Nat → ClassId} {Q : State → Prop} {ret : Option FieldType} {nm : String} {tb : List ExceptionTableEntry} (F : FX D (tysOf TC) s.heap p l s m #[.ref b] meth c RL cL_law 7 ret nm tb) (hst : l.stackTraces = false) (hX : va_X b L xs s s.heap) (hbs : b < s.heap.size) (hbl : b < s.heap.size) (hL : L < 2 ^ 31)
    (ad : Nat → Nat) (had : ad 3 = b) (S : St) (o : Nat → Int64) (t : Nat) (hi : INV t S) (ht : t < 512) (h5 : 5 * t + 5 ≤ L) (cells slots : Nat) (hcl : cells + 4 ≤ 601024) (hsl : slots + 39 ≤ 7293034)
    (K : ∀ (S1 : St) (o1 : Nat → Int64) (ad1 : Nat → Nat), INV (t + 1) S1 → ad1 3 = b → WA D s.heap p l e room_1 s m #[.ref b] below meth c 7 Q ad1 (hall TC S1 S1 o1) (cells + 4) (slots + 39) 2469 [(4, .int (nI (5 * t))), (3, .ref 1), (2, .ref 2), (1, .ref 0), (0, .ref 3)] []) : WA D s.heap p l e room_1 s m #[.ref b] below meth c 7 Q ad (hall TC S S o) cells slots 551 [(4, .int (nI (5 * t))), (3, .ref 1), (2, .ref 2), (1, .ref 0), (0, .ref 3)] [] := by
  refine wa_aload_n F dL_law_551 (i := 1) rfl 3 rfl ?_
  refine wa_aload_n F dL_law_552 (i := 0) rfl 4 rfl ?_
  refine wa_iload F dL_law_553 0 rfl ?_
  refine wa_iconst (v := 1) F dL_law_555 (by decide) ?_
  refine wa_iaddN F dL_law_556 (a := 5 * t) (b := 1) rfl rfl ?_
  refine wa_sld F hX hbs hbl had ((5 * t) + 1) rfl (by omega) hL dL_law_557 ?_
  refine wa_aload_n F dL_law_558 (i := 3) rfl 1 rfl ?_
  have hiX : INV (t + 1) (kU (kPr S (xs ((5 * t) + 1))) (uPr (xs ((5 * t) + 1))) S) := (st_product hi)
  have hnr3 : noRef (hall TC (kU (kPr S (xs ((5 * t) + 1))) (uPr (xs ((5 * t) + 1))) S) S (kO (kPr S (xs ((5 * t) + 1))) (rPr S) o)) 3 := hall_nr (Or.inl rfl) rfl hiX.1.2 hiX.2.1.2 hiX.2.2.1.2 hiX.2.2.2.1.2 hiX.2.2.2.2.1.2 hiX.2.2.2.2.2.2.2.1
  refine wa_callH3 F [] (c_L_product hst D TC s.heap ad S S o (xs ((5 * t) + 1)) t hi) mw_L_product ml_L_143 rfl hnr3 rfl (Nat.le_of_ble_eq_true rfl) ⟨(Nat.le_of_ble_eq_true rfl), (Nat.le_of_ble_eq_true rfl)⟩ ⟨show _ ≤ 601024 by omega, show _ ≤ 7293034 by omega⟩ dL_law_559 (by intro y hy; simp only [List.mem_cons, List.not_mem_nil, or_false] at hy; rcases hy with rfl | rfl | rfl | rfl | rfl <;> intro z hz <;> first | (cases hz; exact Or.inl rfl) | (cases hz; exact Or.inr (by simp [hm_c, hm_m, hm_o])) | cases hz) rfl ?_
  intro ad1 had1
  replace had1 : ad1 3 = b := had1.trans had
  refine wa_istore (lv' := [(5, .int (kPr S (xs ((5 * t) + 1)))), (4, .int (nI (5 * t))), (3, .ref 1), (2, .ref 2), (1, .ref 0), (0, .ref 3)]) F dL_law_562 (by decide) rfl ?_
  refine wa_aload_n F dL_law_564 (i := 2) rfl 3 rfl ?_
  refine wa_aload_n F dL_law_565 (i := 0) rfl 5 rfl ?_
  refine wa_iload F dL_law_566 1 rfl ?_
  refine wa_iconst (v := 1) F dL_law_568 (by decide) ?_
  refine wa_iaddN F dL_law_569 (a := 5 * t) (b := 1) rfl rfl ?_
  refine wa_sld F hX hbs hbl had1 ((5 * t) + 1) rfl (by omega) hL dL_law_570 ?_
  refine wa_callV F [] (c_X6_product hst D TC s.heap ad1 (kU (kPr S (xs ((5 * t) + 1))) (uPr (xs ((5 * t) + 1))) S) S (kO (kPr S (xs ((5 * t) + 1))) (rPr S) o) (xs ((5 * t) + 1)) t hi) mw_X6_product ml_L_146 hm_m rfl rfl (Nat.le_of_ble_eq_true rfl) ⟨(Nat.le_of_ble_eq_true rfl), (Nat.le_of_ble_eq_true rfl)⟩ ⟨show _ ≤ 601024 by omega, show _ ≤ 7293034 by omega⟩ dL_law_571 PR_ag (fun _ z => z.elim) ?_
  rintro _ _ _ ⟨rfl, rfl, rfl⟩
  rw [mS_eq (S := S) (fun w => c0_product), hall_ag (X := (kU (kPr S (xs ((5 * t) + 1))) (uPr (xs ((5 * t) + 1))) S)) ag_0]
  refine wa_istore (lv' := [(6, .int (mR (kPr S (xs ((5 * t) + 1))) (rPr S))), (5, .int (kPr S (xs ((5 * t) + 1)))), (4, .int (nI (5 * t))), (3, .ref 1), (2, .ref 2), (1, .ref 0), (0, .ref 3)]) F dL_law_574 (by decide) rfl ?_
  refine wa_aload_n F dL_law_576 (i := 2) rfl 4 rfl ?_
  refine wa_callV F [] (c_X6_thrown hst D TC s.heap ad1 (sU (kU (kPr S (xs ((5 * t) + 1))) (uPr (xs ((5 * t) + 1))) S) 0 0 (kPr S (xs ((5 * t) + 1)))) (sU (kU (kPr S (xs ((5 * t) + 1))) (uPr (xs ((5 * t) + 1))) S) 0 0 (kPr S (xs ((5 * t) + 1)))) (kO (kPr S (xs ((5 * t) + 1))) (rPr S) o)) mw_X6_thrown ml_L_126 hm_m rfl rfl (Nat.le_of_ble_eq_true rfl) ⟨(Nat.le_of_ble_eq_true rfl), (Nat.le_of_ble_eq_true rfl)⟩ ⟨show _ ≤ 601024 by omega, show _ ≤ 7293034 by omega⟩ dL_law_577 PR_ag (fun _ z => z.elim) ?_
  rintro _ _ _ ⟨rfl, rfl, rfl⟩
  rw [show (sU (kU (kPr S (xs ((5 * t) + 1))) (uPr (xs ((5 * t) + 1))) S) 0 0 (kPr S (xs ((5 * t) + 1)))) 0 0 = kPr S (xs ((5 * t) + 1)) from by rw [sU_eq, if_pos rfl]]
  refine wa_iload F dL_law_580 1 rfl ?_
  refine wa_icmp_eq (tgt := 587) F dL_law_582 (by decide) (fun _ => ?_) (fun z => absurd rfl z)
  refine wa_iload F dL_law_587 1 rfl ?_
  refine wa_if_ne (tgt := 604) F dL_law_589 (by decide) (fun c589 => ?_) (fun c589 => ?_)
  · skip
    refine wa_goto (tgt := 2469) F dL_law_604 (by decide) ?_
    refine wa_lv (lv' := [(4, .int (nI (5 * t))), (3, .ref 1), (2, .ref 2), (1, .ref 0), (0, .ref 3)]) [2, 3, 4, 5, 6] rfl ?_
    refine wa_widen (k := cells + 4) (n := slots + 39) (by omega) (by omega) ?_
    exact K _ _ _ (INV_0 hiX) had1
  · skip
    have eo : (kO (kPr S (xs ((5 * t) + 1))) (rPr S) o) 0 = (rPr S).toInt64 := by rw [c589, kO_0]; exact if_pos rfl
    have er : mR (kPr S (xs ((5 * t) + 1))) (rPr S) = rPr S := by rw [c589, mR_0]
    refine wa_aload_n F dL_law_592 (i := 3) rfl 3 rfl ?_
    refine wa_iconst (v := 0) F dL_law_593 (by decide) ?_
    refine wa_lald F 1 rfl (hm_o (TC := TC) (X := (sU (kU (kPr S (xs ((5 * t) + 1))) (uPr (xs ((5 * t) + 1))) S) 0 0 (kPr S (xs ((5 * t) + 1))))) (S := (sU (kU (kPr S (xs ((5 * t) + 1))) (uPr (xs ((5 * t) + 1))) S) 0 0 (kPr S (xs ((5 * t) + 1))))) (o := (kO (kPr S (xs ((5 * t) + 1))) (rPr S) o))) 0 rfl (by decide) (by decide) dL_law_594 ?_
    refine wa_iload F dL_law_595 0 rfl ?_
    refine wa_i2l F dL_law_597 rfl ?_
    have eo1 : (kO (kPr S (xs ((5 * t) + 1))) (rPr S) o) 0 = (mR (kPr S (xs ((5 * t) + 1))) (rPr S)).toInt64 := by rw [er]; exact eo
    refine wa_lcmp F dL_law_598 ?_
    refine wa_if_eq (tgt := 604) F dL_law_599 (by decide) (fun _ => ?_) (fun z => absurd ((lg_cmp_eq _ _).mpr eo1) z)
    refine wa_goto (tgt := 2469) F dL_law_604 (by decide) ?_
    refine wa_lv (lv' := [(4, .int (nI (5 * t))), (3, .ref 1), (2, .ref 2), (1, .ref 0), (0, .ref 3)]) [2, 3, 4, 5, 6] rfl ?_
    refine wa_widen (k := cells + 4) (n := slots + 39) (by omega) (by omega) ?_
    exact K _ _ _ (INV_0 hiX) had1
set_option maxHeartbeats 4000000 in
set_option maxRecDepth 20000 in
theorem law_6 {p : Program} {l : Launch} {e : Env} {s : State} {m : MethodId} {below : List Frame} {meth : Method} {c : Code} {b L : Nat} {xs : Nat → Int32} {D : va_G} {TC : Nat → ClassId} {Q : State → Prop} {ret : Option FieldType} {nm : String} {tb : List ExceptionTableEntry} (F : FX D (tysOf TC) s.heap p l s m #[.ref b] meth c RL cL_law 7 ret nm tb) (hst : l.stackTraces = false) (hX : va_X b L xs s s.heap) (hbs : b < s.heap.size) (hbl : b < s.heap.size) (hL : L < 2 ^ 31)
    (ad : Nat → Nat) (had : ad 3 = b) (S : St) (o : Nat → Int64) (t : Nat) (hi : INV t S) (ht : t < 512) (h5 : 5 * t + 5 ≤ L) (cells slots : Nat) (hcl : cells + 4 ≤ 601024) (hsl : slots + 39 ≤ 7293034)
    (K : ∀ (S1 : St) (o1 : Nat → Int64) (ad1 : Nat → Nat), INV (t + 1) S1 → ad1 3 = b → WA D s.heap p l e room_1 s m #[.ref b] below meth c 7 Q ad1 (hall TC S1 S1 o1) (cells + 4) (slots + 39) 2469 [(4, .int (nI (5 * t))), (3, .ref 1), (2, .ref 2), (1, .ref 0), (0, .ref 3)] []) : WA D s.heap p l e room_1 s m #[.ref b] below meth c 7 Q ad (hall TC S S o) cells slots 607 [(4, .int (nI (5 * t))), (3, .ref 1), (2, .ref 2), (1, .ref 0), (0, .ref 3)] [] := by
  refine wa_aload_n F dL_law_607 (i := 1) rfl 3 rfl ?_
  refine wa_aload_n F dL_law_608 (i := 0) rfl 4 rfl ?_
  refine wa_iload F dL_law_609 0 rfl ?_
  refine wa_iconst (v := 1) F dL_law_611 (by decide) ?_
  refine wa_iaddN F dL_law_612 (a := 5 * t) (b := 1) rfl rfl ?_
  refine wa_sld F hX hbs hbl had ((5 * t) + 1) rfl (by omega) hL dL_law_613 ?_
  refine wa_aload_n F dL_law_614 (i := 0) rfl 4 rfl ?_
  refine wa_iload F dL_law_615 0 rfl ?_
  refine wa_iconst (v := 2) F dL_law_617 (by decide) ?_
  refine wa_iaddN F dL_law_618 (a := 5 * t) (b := 2) rfl rfl ?_
  refine wa_sld F hX hbs hbl had ((5 * t) + 2) rfl (by omega) hL dL_law_619 ?_
  refine wa_aload_n F dL_law_620 (i := 3) rfl 1 rfl ?_
  have hiX : INV (t + 1) (kU (kCh S (xs ((5 * t) + 1)) (xs ((5 * t) + 2))) (uCh (xs ((5 * t) + 1)) (xs ((5 * t) + 2))) S) := (st_change hi)
  have hnr3 : noRef (hall TC (kU (kCh S (xs ((5 * t) + 1)) (xs ((5 * t) + 2))) (uCh (xs ((5 * t) + 1)) (xs ((5 * t) + 2))) S) S (kO (kCh S (xs ((5 * t) + 1)) (xs ((5 * t) + 2))) (rCh S (xs ((5 * t) + 1)) (xs ((5 * t) + 2))) o)) 3 := hall_nr (Or.inl rfl) rfl hiX.1.2 hiX.2.1.2 hiX.2.2.1.2 hiX.2.2.2.1.2 hiX.2.2.2.2.1.2 hiX.2.2.2.2.2.2.2.1
  refine wa_callH3 F [] (c_L_change hst D TC s.heap ad S S o (xs ((5 * t) + 1)) (xs ((5 * t) + 2)) t hi) mw_L_change ml_L_147 rfl hnr3 rfl (Nat.le_of_ble_eq_true rfl) ⟨(Nat.le_of_ble_eq_true rfl), (Nat.le_of_ble_eq_true rfl)⟩ ⟨show _ ≤ 601024 by omega, show _ ≤ 7293034 by omega⟩ dL_law_621 (by intro y hy; simp only [List.mem_cons, List.not_mem_nil, or_false] at hy; rcases hy with rfl | rfl | rfl | rfl | rfl <;> intro z hz <;> first | (cases hz; exact Or.inl rfl) | (cases hz; exact Or.inr (by simp [hm_c, hm_m, hm_o])) | cases hz) rfl ?_
  intro ad1 had1
  replace had1 : ad1 3 = b := had1.trans had
  refine wa_istore (lv' := [(5, .int (kCh S (xs ((5 * t) + 1)) (xs ((5 * t) + 2)))), (4, .int (nI (5 * t))), (3, .ref 1), (2, .ref 2), (1, .ref 0), (0, .ref 3)]) F dL_law_624 (by decide) rfl ?_
  refine wa_aload_n F dL_law_626 (i := 2) rfl 3 rfl ?_
  refine wa_aload_n F dL_law_627 (i := 0) rfl 5 rfl ?_
  refine wa_iload F dL_law_628 1 rfl ?_
  refine wa_iconst (v := 1) F dL_law_630 (by decide) ?_
  refine wa_iaddN F dL_law_631 (a := 5 * t) (b := 1) rfl rfl ?_
  refine wa_sld F hX hbs hbl had1 ((5 * t) + 1) rfl (by omega) hL dL_law_632 ?_
  refine wa_aload_n F dL_law_633 (i := 0) rfl 5 rfl ?_
  refine wa_iload F dL_law_634 1 rfl ?_
  refine wa_iconst (v := 2) F dL_law_636 (by decide) ?_
  refine wa_iaddN F dL_law_637 (a := 5 * t) (b := 2) rfl rfl ?_
  refine wa_sld F hX hbs hbl had1 ((5 * t) + 2) rfl (by omega) hL dL_law_638 ?_
  refine wa_callV F [] (c_X6_change hst D TC s.heap ad1 (kU (kCh S (xs ((5 * t) + 1)) (xs ((5 * t) + 2))) (uCh (xs ((5 * t) + 1)) (xs ((5 * t) + 2))) S) S (kO (kCh S (xs ((5 * t) + 1)) (xs ((5 * t) + 2))) (rCh S (xs ((5 * t) + 1)) (xs ((5 * t) + 2))) o) (xs ((5 * t) + 1)) (xs ((5 * t) + 2)) t hi) mw_X6_change ml_L_149 hm_m rfl rfl (Nat.le_of_ble_eq_true rfl) ⟨(Nat.le_of_ble_eq_true rfl), (Nat.le_of_ble_eq_true rfl)⟩ ⟨show _ ≤ 601024 by omega, show _ ≤ 7293034 by omega⟩ dL_law_639 PR_ag (fun _ z => z.elim) ?_
  rintro _ _ _ ⟨rfl, rfl, rfl⟩
  rw [mS_eq (S := S) (fun w => c0_change), hall_ag (X := (kU (kCh S (xs ((5 * t) + 1)) (xs ((5 * t) + 2))) (uCh (xs ((5 * t) + 1)) (xs ((5 * t) + 2))) S)) ag_0]
  refine wa_istore (lv' := [(6, .int (mR (kCh S (xs ((5 * t) + 1)) (xs ((5 * t) + 2))) (rCh S (xs ((5 * t) + 1)) (xs ((5 * t) + 2))))), (5, .int (kCh S (xs ((5 * t) + 1)) (xs ((5 * t) + 2)))), (4, .int (nI (5 * t))), (3, .ref 1), (2, .ref 2), (1, .ref 0), (0, .ref 3)]) F dL_law_642 (by decide) rfl ?_
  refine wa_aload_n F dL_law_644 (i := 2) rfl 4 rfl ?_
  refine wa_callV F [] (c_X6_thrown hst D TC s.heap ad1 (sU (kU (kCh S (xs ((5 * t) + 1)) (xs ((5 * t) + 2))) (uCh (xs ((5 * t) + 1)) (xs ((5 * t) + 2))) S) 0 0 (kCh S (xs ((5 * t) + 1)) (xs ((5 * t) + 2)))) (sU (kU (kCh S (xs ((5 * t) + 1)) (xs ((5 * t) + 2))) (uCh (xs ((5 * t) + 1)) (xs ((5 * t) + 2))) S) 0 0 (kCh S (xs ((5 * t) + 1)) (xs ((5 * t) + 2)))) (kO (kCh S (xs ((5 * t) + 1)) (xs ((5 * t) + 2))) (rCh S (xs ((5 * t) + 1)) (xs ((5 * t) + 2))) o)) mw_X6_thrown ml_L_126 hm_m rfl rfl (Nat.le_of_ble_eq_true rfl) ⟨(Nat.le_of_ble_eq_true rfl), (Nat.le_of_ble_eq_true rfl)⟩ ⟨show _ ≤ 601024 by omega, show _ ≤ 7293034 by omega⟩ dL_law_645 PR_ag (fun _ z => z.elim) ?_
  rintro _ _ _ ⟨rfl, rfl, rfl⟩
  rw [show (sU (kU (kCh S (xs ((5 * t) + 1)) (xs ((5 * t) + 2))) (uCh (xs ((5 * t) + 1)) (xs ((5 * t) + 2))) S) 0 0 (kCh S (xs ((5 * t) + 1)) (xs ((5 * t) + 2)))) 0 0 = kCh S (xs ((5 * t) + 1)) (xs ((5 * t) + 2)) from by rw [sU_eq, if_pos rfl]]
  refine wa_iload F dL_law_648 1 rfl ?_
  refine wa_icmp_eq (tgt := 655) F dL_law_650 (by decide) (fun _ => ?_) (fun z => absurd rfl z)
  refine wa_iload F dL_law_655 1 rfl ?_
  refine wa_if_ne (tgt := 672) F dL_law_657 (by decide) (fun c657 => ?_) (fun c657 => ?_)
  · skip
    refine wa_goto (tgt := 2469) F dL_law_672 (by decide) ?_
    refine wa_lv (lv' := [(4, .int (nI (5 * t))), (3, .ref 1), (2, .ref 2), (1, .ref 0), (0, .ref 3)]) [2, 3, 4, 5, 6] rfl ?_
    refine wa_widen (k := cells + 4) (n := slots + 39) (by omega) (by omega) ?_
    exact K _ _ _ (INV_0 hiX) had1
  · skip
    have eo : (kO (kCh S (xs ((5 * t) + 1)) (xs ((5 * t) + 2))) (rCh S (xs ((5 * t) + 1)) (xs ((5 * t) + 2))) o) 0 = (rCh S (xs ((5 * t) + 1)) (xs ((5 * t) + 2))).toInt64 := by rw [c657, kO_0]; exact if_pos rfl
    have er : mR (kCh S (xs ((5 * t) + 1)) (xs ((5 * t) + 2))) (rCh S (xs ((5 * t) + 1)) (xs ((5 * t) + 2))) = rCh S (xs ((5 * t) + 1)) (xs ((5 * t) + 2)) := by rw [c657, mR_0]
    refine wa_aload_n F dL_law_660 (i := 3) rfl 3 rfl ?_
    refine wa_iconst (v := 0) F dL_law_661 (by decide) ?_
    refine wa_lald F 1 rfl (hm_o (TC := TC) (X := (sU (kU (kCh S (xs ((5 * t) + 1)) (xs ((5 * t) + 2))) (uCh (xs ((5 * t) + 1)) (xs ((5 * t) + 2))) S) 0 0 (kCh S (xs ((5 * t) + 1)) (xs ((5 * t) + 2))))) (S := (sU (kU (kCh S (xs ((5 * t) + 1)) (xs ((5 * t) + 2))) (uCh (xs ((5 * t) + 1)) (xs ((5 * t) + 2))) S) 0 0 (kCh S (xs ((5 * t) + 1)) (xs ((5 * t) + 2))))) (o := (kO (kCh S (xs ((5 * t) + 1)) (xs ((5 * t) + 2))) (rCh S (xs ((5 * t) + 1)) (xs ((5 * t) + 2))) o))) 0 rfl (by decide) (by decide) dL_law_662 ?_
    refine wa_iload F dL_law_663 0 rfl ?_
    refine wa_i2l F dL_law_665 rfl ?_
    have eo1 : (kO (kCh S (xs ((5 * t) + 1)) (xs ((5 * t) + 2))) (rCh S (xs ((5 * t) + 1)) (xs ((5 * t) + 2))) o) 0 = (mR (kCh S (xs ((5 * t) + 1)) (xs ((5 * t) + 2))) (rCh S (xs ((5 * t) + 1)) (xs ((5 * t) + 2)))).toInt64 := by rw [er]; exact eo
    refine wa_lcmp F dL_law_666 ?_
    refine wa_if_eq (tgt := 672) F dL_law_667 (by decide) (fun _ => ?_) (fun z => absurd ((lg_cmp_eq _ _).mpr eo1) z)
    refine wa_goto (tgt := 2469) F dL_law_672 (by decide) ?_
    refine wa_lv (lv' := [(4, .int (nI (5 * t))), (3, .ref 1), (2, .ref 2), (1, .ref 0), (0, .ref 3)]) [2, 3, 4, 5, 6] rfl ?_
    refine wa_widen (k := cells + 4) (n := slots + 39) (by omega) (by omega) ?_
    exact K _ _ _ (INV_0 hiX) had1
set_option maxHeartbeats 4000000 in
set_option maxRecDepth 20000 in
theorem law_7 {p : Program} {l : Launch} {e : Env} {s : State} {m : MethodId} {below : List Frame} {meth : Method} {c : Code} {b L : Nat} {xs : Nat → Int32} {D : va_G} {TC : Nat → ClassId} {Q : State → Prop} {ret : Option FieldType} {nm : String} {tb : List ExceptionTableEntry} (F : FX D (tysOf TC) s.heap p l s m #[.ref b] meth c RL cL_law 7 ret nm tb) (hst : l.stackTraces = false) (hX : va_X b L xs s s.heap) (hbs : b < s.heap.size) (hbl : b < s.heap.size) (hL : L < 2 ^ 31)
    (ad : Nat → Nat) (had : ad 3 = b) (S : St) (o : Nat → Int64) (t : Nat) (hi : INV t S) (ht : t < 512) (h5 : 5 * t + 5 ≤ L) (cells slots : Nat) (hcl : cells + 4 ≤ 601024) (hsl : slots + 39 ≤ 7293034)
    (K : ∀ (S1 : St) (o1 : Nat → Int64) (ad1 : Nat → Nat), INV (t + 1) S1 → ad1 3 = b → WA D s.heap p l e room_1 s m #[.ref b] below meth c 7 Q ad1 (hall TC S1 S1 o1) (cells + 4) (slots + 39) 2469 [(4, .int (nI (5 * t))), (3, .ref 1), (2, .ref 2), (1, .ref 0), (0, .ref 3)] []) : WA D s.heap p l e room_1 s m #[.ref b] below meth c 7 Q ad (hall TC S S o) cells slots 675 [(4, .int (nI (5 * t))), (3, .ref 1), (2, .ref 2), (1, .ref 0), (0, .ref 3)] [] := by
  refine wa_aload_n F dL_law_675 (i := 1) rfl 3 rfl ?_
  refine wa_aload_n F dL_law_676 (i := 0) rfl 4 rfl ?_
  refine wa_iload F dL_law_677 0 rfl ?_
  refine wa_iconst (v := 1) F dL_law_679 (by decide) ?_
  refine wa_iaddN F dL_law_680 (a := 5 * t) (b := 1) rfl rfl ?_
  refine wa_sld F hX hbs hbl had ((5 * t) + 1) rfl (by omega) hL dL_law_681 ?_
  refine wa_aload_n F dL_law_682 (i := 0) rfl 4 rfl ?_
  refine wa_iload F dL_law_683 0 rfl ?_
  refine wa_iconst (v := 2) F dL_law_685 (by decide) ?_
  refine wa_iaddN F dL_law_686 (a := 5 * t) (b := 2) rfl rfl ?_
  refine wa_sld F hX hbs hbl had ((5 * t) + 2) rfl (by omega) hL dL_law_687 ?_
  refine wa_aload_n F dL_law_688 (i := 0) rfl 4 rfl ?_
  refine wa_iload F dL_law_689 0 rfl ?_
  refine wa_iconst (v := 3) F dL_law_691 (by decide) ?_
  refine wa_iaddN F dL_law_692 (a := 5 * t) (b := 3) rfl rfl ?_
  refine wa_sld F hX hbs hbl had ((5 * t) + 3) rfl (by omega) hL dL_law_693 ?_
  refine wa_aload_n F dL_law_694 (i := 0) rfl 4 rfl ?_
  refine wa_iload F dL_law_695 0 rfl ?_
  refine wa_iconst (v := 4) F dL_law_697 (by decide) ?_
  refine wa_iaddN F dL_law_698 (a := 5 * t) (b := 4) rfl rfl ?_
  refine wa_sld F hX hbs hbl had ((5 * t) + 4) rfl (by omega) hL dL_law_699 ?_
  refine wa_aload_n F dL_law_700 (i := 3) rfl 1 rfl ?_
  have hiX : INV (t + 1) (kU (kRk S (xs ((5 * t) + 1)) (xs ((5 * t) + 2)) (xs ((5 * t) + 3)) (xs ((5 * t) + 4))) (uRk (xs ((5 * t) + 1)) (xs ((5 * t) + 2)) (xs ((5 * t) + 3)) (xs ((5 * t) + 4))) S) := (st_risk hi)
  have hnr3 : noRef (hall TC (kU (kRk S (xs ((5 * t) + 1)) (xs ((5 * t) + 2)) (xs ((5 * t) + 3)) (xs ((5 * t) + 4))) (uRk (xs ((5 * t) + 1)) (xs ((5 * t) + 2)) (xs ((5 * t) + 3)) (xs ((5 * t) + 4))) S) S (kO (kRk S (xs ((5 * t) + 1)) (xs ((5 * t) + 2)) (xs ((5 * t) + 3)) (xs ((5 * t) + 4))) (rRk S (xs ((5 * t) + 1)) (xs ((5 * t) + 2)) (xs ((5 * t) + 3)) (xs ((5 * t) + 4))) o)) 3 := hall_nr (Or.inl rfl) rfl hiX.1.2 hiX.2.1.2 hiX.2.2.1.2 hiX.2.2.2.1.2 hiX.2.2.2.2.1.2 hiX.2.2.2.2.2.2.2.1
  refine wa_callH3 F [] (c_L_risk hst D TC s.heap ad S S o (xs ((5 * t) + 1)) (xs ((5 * t) + 2)) (xs ((5 * t) + 3)) (xs ((5 * t) + 4)) t hi) mw_L_risk ml_L_150 rfl hnr3 rfl (Nat.le_of_ble_eq_true rfl) ⟨(Nat.le_of_ble_eq_true rfl), (Nat.le_of_ble_eq_true rfl)⟩ ⟨show _ ≤ 601024 by omega, show _ ≤ 7293034 by omega⟩ dL_law_701 (by intro y hy; simp only [List.mem_cons, List.not_mem_nil, or_false] at hy; rcases hy with rfl | rfl | rfl | rfl | rfl <;> intro z hz <;> first | (cases hz; exact Or.inl rfl) | (cases hz; exact Or.inr (by simp [hm_c, hm_m, hm_o])) | cases hz) rfl ?_
  intro ad1 had1
  replace had1 : ad1 3 = b := had1.trans had
  refine wa_istore (lv' := [(5, .int (kRk S (xs ((5 * t) + 1)) (xs ((5 * t) + 2)) (xs ((5 * t) + 3)) (xs ((5 * t) + 4)))), (4, .int (nI (5 * t))), (3, .ref 1), (2, .ref 2), (1, .ref 0), (0, .ref 3)]) F dL_law_704 (by decide) rfl ?_
  refine wa_aload_n F dL_law_706 (i := 2) rfl 3 rfl ?_
  refine wa_aload_n F dL_law_707 (i := 0) rfl 5 rfl ?_
  refine wa_iload F dL_law_708 1 rfl ?_
  refine wa_iconst (v := 1) F dL_law_710 (by decide) ?_
  refine wa_iaddN F dL_law_711 (a := 5 * t) (b := 1) rfl rfl ?_
  refine wa_sld F hX hbs hbl had1 ((5 * t) + 1) rfl (by omega) hL dL_law_712 ?_
  refine wa_aload_n F dL_law_713 (i := 0) rfl 5 rfl ?_
  refine wa_iload F dL_law_714 1 rfl ?_
  refine wa_iconst (v := 2) F dL_law_716 (by decide) ?_
  refine wa_iaddN F dL_law_717 (a := 5 * t) (b := 2) rfl rfl ?_
  refine wa_sld F hX hbs hbl had1 ((5 * t) + 2) rfl (by omega) hL dL_law_718 ?_
  refine wa_aload_n F dL_law_719 (i := 0) rfl 5 rfl ?_
  refine wa_iload F dL_law_720 1 rfl ?_
  refine wa_iconst (v := 3) F dL_law_722 (by decide) ?_
  refine wa_iaddN F dL_law_723 (a := 5 * t) (b := 3) rfl rfl ?_
  refine wa_sld F hX hbs hbl had1 ((5 * t) + 3) rfl (by omega) hL dL_law_724 ?_
  refine wa_aload_n F dL_law_725 (i := 0) rfl 5 rfl ?_
  refine wa_iload F dL_law_726 1 rfl ?_
  refine wa_iconst (v := 4) F dL_law_728 (by decide) ?_
  refine wa_iaddN F dL_law_729 (a := 5 * t) (b := 4) rfl rfl ?_
  refine wa_sld F hX hbs hbl had1 ((5 * t) + 4) rfl (by omega) hL dL_law_730 ?_
  refine wa_callV F [] (c_X6_risk hst D TC s.heap ad1 (kU (kRk S (xs ((5 * t) + 1)) (xs ((5 * t) + 2)) (xs ((5 * t) + 3)) (xs ((5 * t) + 4))) (uRk (xs ((5 * t) + 1)) (xs ((5 * t) + 2)) (xs ((5 * t) + 3)) (xs ((5 * t) + 4))) S) S (kO (kRk S (xs ((5 * t) + 1)) (xs ((5 * t) + 2)) (xs ((5 * t) + 3)) (xs ((5 * t) + 4))) (rRk S (xs ((5 * t) + 1)) (xs ((5 * t) + 2)) (xs ((5 * t) + 3)) (xs ((5 * t) + 4))) o) (xs ((5 * t) + 1)) (xs ((5 * t) + 2)) (xs ((5 * t) + 3)) (xs ((5 * t) + 4)) t hi) mw_X6_risk ml_L_152 hm_m rfl rfl (Nat.le_of_ble_eq_true rfl) ⟨(Nat.le_of_ble_eq_true rfl), (Nat.le_of_ble_eq_true rfl)⟩ ⟨show _ ≤ 601024 by omega, show _ ≤ 7293034 by omega⟩ dL_law_731 PR_ag (fun _ z => z.elim) ?_
  rintro _ _ _ ⟨rfl, rfl, rfl⟩
  rw [mS_eq (S := S) (fun w => c0_risk), hall_ag (X := (kU (kRk S (xs ((5 * t) + 1)) (xs ((5 * t) + 2)) (xs ((5 * t) + 3)) (xs ((5 * t) + 4))) (uRk (xs ((5 * t) + 1)) (xs ((5 * t) + 2)) (xs ((5 * t) + 3)) (xs ((5 * t) + 4))) S)) ag_0]
  refine wa_istore (lv' := [(6, .int (mR (kRk S (xs ((5 * t) + 1)) (xs ((5 * t) + 2)) (xs ((5 * t) + 3)) (xs ((5 * t) + 4))) (rRk S (xs ((5 * t) + 1)) (xs ((5 * t) + 2)) (xs ((5 * t) + 3)) (xs ((5 * t) + 4))))), (5, .int (kRk S (xs ((5 * t) + 1)) (xs ((5 * t) + 2)) (xs ((5 * t) + 3)) (xs ((5 * t) + 4)))), (4, .int (nI (5 * t))), (3, .ref 1), (2, .ref 2), (1, .ref 0), (0, .ref 3)]) F dL_law_734 (by decide) rfl ?_
  refine wa_aload_n F dL_law_736 (i := 2) rfl 4 rfl ?_
  refine wa_callV F [] (c_X6_thrown hst D TC s.heap ad1 (sU (kU (kRk S (xs ((5 * t) + 1)) (xs ((5 * t) + 2)) (xs ((5 * t) + 3)) (xs ((5 * t) + 4))) (uRk (xs ((5 * t) + 1)) (xs ((5 * t) + 2)) (xs ((5 * t) + 3)) (xs ((5 * t) + 4))) S) 0 0 (kRk S (xs ((5 * t) + 1)) (xs ((5 * t) + 2)) (xs ((5 * t) + 3)) (xs ((5 * t) + 4)))) (sU (kU (kRk S (xs ((5 * t) + 1)) (xs ((5 * t) + 2)) (xs ((5 * t) + 3)) (xs ((5 * t) + 4))) (uRk (xs ((5 * t) + 1)) (xs ((5 * t) + 2)) (xs ((5 * t) + 3)) (xs ((5 * t) + 4))) S) 0 0 (kRk S (xs ((5 * t) + 1)) (xs ((5 * t) + 2)) (xs ((5 * t) + 3)) (xs ((5 * t) + 4)))) (kO (kRk S (xs ((5 * t) + 1)) (xs ((5 * t) + 2)) (xs ((5 * t) + 3)) (xs ((5 * t) + 4))) (rRk S (xs ((5 * t) + 1)) (xs ((5 * t) + 2)) (xs ((5 * t) + 3)) (xs ((5 * t) + 4))) o)) mw_X6_thrown ml_L_126 hm_m rfl rfl (Nat.le_of_ble_eq_true rfl) ⟨(Nat.le_of_ble_eq_true rfl), (Nat.le_of_ble_eq_true rfl)⟩ ⟨show _ ≤ 601024 by omega, show _ ≤ 7293034 by omega⟩ dL_law_737 PR_ag (fun _ z => z.elim) ?_
  rintro _ _ _ ⟨rfl, rfl, rfl⟩
  rw [show (sU (kU (kRk S (xs ((5 * t) + 1)) (xs ((5 * t) + 2)) (xs ((5 * t) + 3)) (xs ((5 * t) + 4))) (uRk (xs ((5 * t) + 1)) (xs ((5 * t) + 2)) (xs ((5 * t) + 3)) (xs ((5 * t) + 4))) S) 0 0 (kRk S (xs ((5 * t) + 1)) (xs ((5 * t) + 2)) (xs ((5 * t) + 3)) (xs ((5 * t) + 4)))) 0 0 = kRk S (xs ((5 * t) + 1)) (xs ((5 * t) + 2)) (xs ((5 * t) + 3)) (xs ((5 * t) + 4)) from by rw [sU_eq, if_pos rfl]]
  refine wa_iload F dL_law_740 1 rfl ?_
  refine wa_icmp_eq (tgt := 747) F dL_law_742 (by decide) (fun _ => ?_) (fun z => absurd rfl z)
  refine wa_iload F dL_law_747 1 rfl ?_
  refine wa_if_ne (tgt := 764) F dL_law_749 (by decide) (fun c749 => ?_) (fun c749 => ?_)
  · skip
    refine wa_goto (tgt := 2469) F dL_law_764 (by decide) ?_
    refine wa_lv (lv' := [(4, .int (nI (5 * t))), (3, .ref 1), (2, .ref 2), (1, .ref 0), (0, .ref 3)]) [2, 3, 4, 5, 6] rfl ?_
    refine wa_widen (k := cells + 4) (n := slots + 39) (by omega) (by omega) ?_
    exact K _ _ _ (INV_0 hiX) had1
  · skip
    have eo : (kO (kRk S (xs ((5 * t) + 1)) (xs ((5 * t) + 2)) (xs ((5 * t) + 3)) (xs ((5 * t) + 4))) (rRk S (xs ((5 * t) + 1)) (xs ((5 * t) + 2)) (xs ((5 * t) + 3)) (xs ((5 * t) + 4))) o) 0 = (rRk S (xs ((5 * t) + 1)) (xs ((5 * t) + 2)) (xs ((5 * t) + 3)) (xs ((5 * t) + 4))).toInt64 := by rw [c749, kO_0]; exact if_pos rfl
    have er : mR (kRk S (xs ((5 * t) + 1)) (xs ((5 * t) + 2)) (xs ((5 * t) + 3)) (xs ((5 * t) + 4))) (rRk S (xs ((5 * t) + 1)) (xs ((5 * t) + 2)) (xs ((5 * t) + 3)) (xs ((5 * t) + 4))) = rRk S (xs ((5 * t) + 1)) (xs ((5 * t) + 2)) (xs ((5 * t) + 3)) (xs ((5 * t) + 4)) := by rw [c749, mR_0]
    refine wa_aload_n F dL_law_752 (i := 3) rfl 3 rfl ?_
    refine wa_iconst (v := 0) F dL_law_753 (by decide) ?_
    refine wa_lald F 1 rfl (hm_o (TC := TC) (X := (sU (kU (kRk S (xs ((5 * t) + 1)) (xs ((5 * t) + 2)) (xs ((5 * t) + 3)) (xs ((5 * t) + 4))) (uRk (xs ((5 * t) + 1)) (xs ((5 * t) + 2)) (xs ((5 * t) + 3)) (xs ((5 * t) + 4))) S) 0 0 (kRk S (xs ((5 * t) + 1)) (xs ((5 * t) + 2)) (xs ((5 * t) + 3)) (xs ((5 * t) + 4))))) (S := (sU (kU (kRk S (xs ((5 * t) + 1)) (xs ((5 * t) + 2)) (xs ((5 * t) + 3)) (xs ((5 * t) + 4))) (uRk (xs ((5 * t) + 1)) (xs ((5 * t) + 2)) (xs ((5 * t) + 3)) (xs ((5 * t) + 4))) S) 0 0 (kRk S (xs ((5 * t) + 1)) (xs ((5 * t) + 2)) (xs ((5 * t) + 3)) (xs ((5 * t) + 4))))) (o := (kO (kRk S (xs ((5 * t) + 1)) (xs ((5 * t) + 2)) (xs ((5 * t) + 3)) (xs ((5 * t) + 4))) (rRk S (xs ((5 * t) + 1)) (xs ((5 * t) + 2)) (xs ((5 * t) + 3)) (xs ((5 * t) + 4))) o))) 0 rfl (by decide) (by decide) dL_law_754 ?_
    refine wa_iload F dL_law_755 0 rfl ?_
    refine wa_i2l F dL_law_757 rfl ?_
    have eo1 : (kO (kRk S (xs ((5 * t) + 1)) (xs ((5 * t) + 2)) (xs ((5 * t) + 3)) (xs ((5 * t) + 4))) (rRk S (xs ((5 * t) + 1)) (xs ((5 * t) + 2)) (xs ((5 * t) + 3)) (xs ((5 * t) + 4))) o) 0 = (mR (kRk S (xs ((5 * t) + 1)) (xs ((5 * t) + 2)) (xs ((5 * t) + 3)) (xs ((5 * t) + 4))) (rRk S (xs ((5 * t) + 1)) (xs ((5 * t) + 2)) (xs ((5 * t) + 3)) (xs ((5 * t) + 4)))).toInt64 := by rw [er]; exact eo
    refine wa_lcmp F dL_law_758 ?_
    refine wa_if_eq (tgt := 764) F dL_law_759 (by decide) (fun _ => ?_) (fun z => absurd ((lg_cmp_eq _ _).mpr eo1) z)
    refine wa_goto (tgt := 2469) F dL_law_764 (by decide) ?_
    refine wa_lv (lv' := [(4, .int (nI (5 * t))), (3, .ref 1), (2, .ref 2), (1, .ref 0), (0, .ref 3)]) [2, 3, 4, 5, 6] rfl ?_
    refine wa_widen (k := cells + 4) (n := slots + 39) (by omega) (by omega) ?_
    exact K _ _ _ (INV_0 hiX) had1
set_option maxHeartbeats 4000000 in
set_option maxRecDepth 20000 in
theorem law_8 {p : Program} {l : Launch} {e : Env} {s : State} {m : MethodId} {below : List Frame} {meth : Method} {c : Code} {b L : Nat} {xs : Nat → Int32} {D : va_G} {TC : Nat → ClassId} {Q : State → Prop} {ret : Option FieldType} {nm : String} {tb : List ExceptionTableEntry} (F : FX D (tysOf TC) s.heap p l s m #[.ref b] meth c RL cL_law 7 ret nm tb) (hst : l.stackTraces = false) (hX : va_X b L xs s s.heap) (hbs : b < s.heap.size) (hbl : b < s.heap.size) (hL : L < 2 ^ 31)
    (ad : Nat → Nat) (had : ad 3 = b) (S : St) (o : Nat → Int64) (t : Nat) (hi : INV t S) (ht : t < 512) (h5 : 5 * t + 5 ≤ L) (cells slots : Nat) (hcl : cells + 4 ≤ 601024) (hsl : slots + 39 ≤ 7293034)
    (K : ∀ (S1 : St) (o1 : Nat → Int64) (ad1 : Nat → Nat), INV (t + 1) S1 → ad1 3 = b → WA D s.heap p l e room_1 s m #[.ref b] below meth c 7 Q ad1 (hall TC S1 S1 o1) (cells + 4) (slots + 39) 2469 [(4, .int (nI (5 * t))), (3, .ref 1), (2, .ref 2), (1, .ref 0), (0, .ref 3)] []) : WA D s.heap p l e room_1 s m #[.ref b] below meth c 7 Q ad (hall TC S S o) cells slots 767 [(4, .int (nI (5 * t))), (3, .ref 1), (2, .ref 2), (1, .ref 0), (0, .ref 3)] [] := by
  refine wa_aload_n F dL_law_767 (i := 1) rfl 3 rfl ?_
  refine wa_aload_n F dL_law_768 (i := 0) rfl 4 rfl ?_
  refine wa_iload F dL_law_769 0 rfl ?_
  refine wa_iconst (v := 1) F dL_law_771 (by decide) ?_
  refine wa_iaddN F dL_law_772 (a := 5 * t) (b := 1) rfl rfl ?_
  refine wa_sld F hX hbs hbl had ((5 * t) + 1) rfl (by omega) hL dL_law_773 ?_
  refine wa_aload_n F dL_law_774 (i := 0) rfl 4 rfl ?_
  refine wa_iload F dL_law_775 0 rfl ?_
  refine wa_iconst (v := 2) F dL_law_777 (by decide) ?_
  refine wa_iaddN F dL_law_778 (a := 5 * t) (b := 2) rfl rfl ?_
  refine wa_sld F hX hbs hbl had ((5 * t) + 2) rfl (by omega) hL dL_law_779 ?_
  refine wa_aload_n F dL_law_780 (i := 0) rfl 4 rfl ?_
  refine wa_iload F dL_law_781 0 rfl ?_
  refine wa_iconst (v := 3) F dL_law_783 (by decide) ?_
  refine wa_iaddN F dL_law_784 (a := 5 * t) (b := 3) rfl rfl ?_
  refine wa_sld F hX hbs hbl had ((5 * t) + 3) rfl (by omega) hL dL_law_785 ?_
  refine wa_aload_n F dL_law_786 (i := 3) rfl 1 rfl ?_
  have hiX : INV (t + 1) (kU (kFo S (xs ((5 * t) + 1)) (xs ((5 * t) + 2)) (xs ((5 * t) + 3))) (uFo (xs ((5 * t) + 1)) (xs ((5 * t) + 2)) (xs ((5 * t) + 3))) S) := (st_follow hi)
  have hnr3 : noRef (hall TC (kU (kFo S (xs ((5 * t) + 1)) (xs ((5 * t) + 2)) (xs ((5 * t) + 3))) (uFo (xs ((5 * t) + 1)) (xs ((5 * t) + 2)) (xs ((5 * t) + 3))) S) S (kO (kFo S (xs ((5 * t) + 1)) (xs ((5 * t) + 2)) (xs ((5 * t) + 3))) (rFo S (xs ((5 * t) + 1)) (xs ((5 * t) + 2))) o)) 3 := hall_nr (Or.inl rfl) rfl hiX.1.2 hiX.2.1.2 hiX.2.2.1.2 hiX.2.2.2.1.2 hiX.2.2.2.2.1.2 hiX.2.2.2.2.2.2.2.1
  refine wa_callH3 F [] (c_L_follow hst D TC s.heap ad S S o (xs ((5 * t) + 1)) (xs ((5 * t) + 2)) (xs ((5 * t) + 3)) t hi) mw_L_follow ml_L_153 rfl hnr3 rfl (Nat.le_of_ble_eq_true rfl) ⟨(Nat.le_of_ble_eq_true rfl), (Nat.le_of_ble_eq_true rfl)⟩ ⟨show _ ≤ 601024 by omega, show _ ≤ 7293034 by omega⟩ dL_law_787 (by intro y hy; simp only [List.mem_cons, List.not_mem_nil, or_false] at hy; rcases hy with rfl | rfl | rfl | rfl | rfl <;> intro z hz <;> first | (cases hz; exact Or.inl rfl) | (cases hz; exact Or.inr (by simp [hm_c, hm_m, hm_o])) | cases hz) rfl ?_
  intro ad1 had1
  replace had1 : ad1 3 = b := had1.trans had
  refine wa_istore (lv' := [(5, .int (kFo S (xs ((5 * t) + 1)) (xs ((5 * t) + 2)) (xs ((5 * t) + 3)))), (4, .int (nI (5 * t))), (3, .ref 1), (2, .ref 2), (1, .ref 0), (0, .ref 3)]) F dL_law_790 (by decide) rfl ?_
  refine wa_aload_n F dL_law_792 (i := 2) rfl 3 rfl ?_
  refine wa_aload_n F dL_law_793 (i := 0) rfl 5 rfl ?_
  refine wa_iload F dL_law_794 1 rfl ?_
  refine wa_iconst (v := 1) F dL_law_796 (by decide) ?_
  refine wa_iaddN F dL_law_797 (a := 5 * t) (b := 1) rfl rfl ?_
  refine wa_sld F hX hbs hbl had1 ((5 * t) + 1) rfl (by omega) hL dL_law_798 ?_
  refine wa_aload_n F dL_law_799 (i := 0) rfl 5 rfl ?_
  refine wa_iload F dL_law_800 1 rfl ?_
  refine wa_iconst (v := 2) F dL_law_802 (by decide) ?_
  refine wa_iaddN F dL_law_803 (a := 5 * t) (b := 2) rfl rfl ?_
  refine wa_sld F hX hbs hbl had1 ((5 * t) + 2) rfl (by omega) hL dL_law_804 ?_
  refine wa_aload_n F dL_law_805 (i := 0) rfl 5 rfl ?_
  refine wa_iload F dL_law_806 1 rfl ?_
  refine wa_iconst (v := 3) F dL_law_808 (by decide) ?_
  refine wa_iaddN F dL_law_809 (a := 5 * t) (b := 3) rfl rfl ?_
  refine wa_sld F hX hbs hbl had1 ((5 * t) + 3) rfl (by omega) hL dL_law_810 ?_
  refine wa_callV F [] (c_X6_follow hst D TC s.heap ad1 (kU (kFo S (xs ((5 * t) + 1)) (xs ((5 * t) + 2)) (xs ((5 * t) + 3))) (uFo (xs ((5 * t) + 1)) (xs ((5 * t) + 2)) (xs ((5 * t) + 3))) S) S (kO (kFo S (xs ((5 * t) + 1)) (xs ((5 * t) + 2)) (xs ((5 * t) + 3))) (rFo S (xs ((5 * t) + 1)) (xs ((5 * t) + 2))) o) (xs ((5 * t) + 1)) (xs ((5 * t) + 2)) (xs ((5 * t) + 3)) t hi) mw_X6_follow ml_L_156 hm_m rfl rfl (Nat.le_of_ble_eq_true rfl) ⟨(Nat.le_of_ble_eq_true rfl), (Nat.le_of_ble_eq_true rfl)⟩ ⟨show _ ≤ 601024 by omega, show _ ≤ 7293034 by omega⟩ dL_law_811 PR_ag (fun _ z => z.elim) ?_
  rintro _ _ _ ⟨rfl, rfl, rfl⟩
  rw [mS_eq (S := S) (fun w => c0_follow), hall_ag (X := (kU (kFo S (xs ((5 * t) + 1)) (xs ((5 * t) + 2)) (xs ((5 * t) + 3))) (uFo (xs ((5 * t) + 1)) (xs ((5 * t) + 2)) (xs ((5 * t) + 3))) S)) ag_0]
  refine wa_istore (lv' := [(6, .int (mR (kFo S (xs ((5 * t) + 1)) (xs ((5 * t) + 2)) (xs ((5 * t) + 3))) (rFo S (xs ((5 * t) + 1)) (xs ((5 * t) + 2))))), (5, .int (kFo S (xs ((5 * t) + 1)) (xs ((5 * t) + 2)) (xs ((5 * t) + 3)))), (4, .int (nI (5 * t))), (3, .ref 1), (2, .ref 2), (1, .ref 0), (0, .ref 3)]) F dL_law_814 (by decide) rfl ?_
  refine wa_aload_n F dL_law_816 (i := 2) rfl 4 rfl ?_
  refine wa_callV F [] (c_X6_thrown hst D TC s.heap ad1 (sU (kU (kFo S (xs ((5 * t) + 1)) (xs ((5 * t) + 2)) (xs ((5 * t) + 3))) (uFo (xs ((5 * t) + 1)) (xs ((5 * t) + 2)) (xs ((5 * t) + 3))) S) 0 0 (kFo S (xs ((5 * t) + 1)) (xs ((5 * t) + 2)) (xs ((5 * t) + 3)))) (sU (kU (kFo S (xs ((5 * t) + 1)) (xs ((5 * t) + 2)) (xs ((5 * t) + 3))) (uFo (xs ((5 * t) + 1)) (xs ((5 * t) + 2)) (xs ((5 * t) + 3))) S) 0 0 (kFo S (xs ((5 * t) + 1)) (xs ((5 * t) + 2)) (xs ((5 * t) + 3)))) (kO (kFo S (xs ((5 * t) + 1)) (xs ((5 * t) + 2)) (xs ((5 * t) + 3))) (rFo S (xs ((5 * t) + 1)) (xs ((5 * t) + 2))) o)) mw_X6_thrown ml_L_126 hm_m rfl rfl (Nat.le_of_ble_eq_true rfl) ⟨(Nat.le_of_ble_eq_true rfl), (Nat.le_of_ble_eq_true rfl)⟩ ⟨show _ ≤ 601024 by omega, show _ ≤ 7293034 by omega⟩ dL_law_817 PR_ag (fun _ z => z.elim) ?_
  rintro _ _ _ ⟨rfl, rfl, rfl⟩
  rw [show (sU (kU (kFo S (xs ((5 * t) + 1)) (xs ((5 * t) + 2)) (xs ((5 * t) + 3))) (uFo (xs ((5 * t) + 1)) (xs ((5 * t) + 2)) (xs ((5 * t) + 3))) S) 0 0 (kFo S (xs ((5 * t) + 1)) (xs ((5 * t) + 2)) (xs ((5 * t) + 3)))) 0 0 = kFo S (xs ((5 * t) + 1)) (xs ((5 * t) + 2)) (xs ((5 * t) + 3)) from by rw [sU_eq, if_pos rfl]]
  refine wa_iload F dL_law_820 1 rfl ?_
  refine wa_icmp_eq (tgt := 827) F dL_law_822 (by decide) (fun _ => ?_) (fun z => absurd rfl z)
  refine wa_iload F dL_law_827 1 rfl ?_
  refine wa_if_ne (tgt := 844) F dL_law_829 (by decide) (fun c829 => ?_) (fun c829 => ?_)
  · skip
    refine wa_goto (tgt := 2469) F dL_law_844 (by decide) ?_
    refine wa_lv (lv' := [(4, .int (nI (5 * t))), (3, .ref 1), (2, .ref 2), (1, .ref 0), (0, .ref 3)]) [2, 3, 4, 5, 6] rfl ?_
    refine wa_widen (k := cells + 4) (n := slots + 39) (by omega) (by omega) ?_
    exact K _ _ _ (INV_0 hiX) had1
  · skip
    have eo : (kO (kFo S (xs ((5 * t) + 1)) (xs ((5 * t) + 2)) (xs ((5 * t) + 3))) (rFo S (xs ((5 * t) + 1)) (xs ((5 * t) + 2))) o) 0 = (rFo S (xs ((5 * t) + 1)) (xs ((5 * t) + 2))).toInt64 := by rw [c829, kO_0]; exact if_pos rfl
    have er : mR (kFo S (xs ((5 * t) + 1)) (xs ((5 * t) + 2)) (xs ((5 * t) + 3))) (rFo S (xs ((5 * t) + 1)) (xs ((5 * t) + 2))) = rFo S (xs ((5 * t) + 1)) (xs ((5 * t) + 2)) := by rw [c829, mR_0]
    refine wa_aload_n F dL_law_832 (i := 3) rfl 3 rfl ?_
    refine wa_iconst (v := 0) F dL_law_833 (by decide) ?_
    refine wa_lald F 1 rfl (hm_o (TC := TC) (X := (sU (kU (kFo S (xs ((5 * t) + 1)) (xs ((5 * t) + 2)) (xs ((5 * t) + 3))) (uFo (xs ((5 * t) + 1)) (xs ((5 * t) + 2)) (xs ((5 * t) + 3))) S) 0 0 (kFo S (xs ((5 * t) + 1)) (xs ((5 * t) + 2)) (xs ((5 * t) + 3))))) (S := (sU (kU (kFo S (xs ((5 * t) + 1)) (xs ((5 * t) + 2)) (xs ((5 * t) + 3))) (uFo (xs ((5 * t) + 1)) (xs ((5 * t) + 2)) (xs ((5 * t) + 3))) S) 0 0 (kFo S (xs ((5 * t) + 1)) (xs ((5 * t) + 2)) (xs ((5 * t) + 3))))) (o := (kO (kFo S (xs ((5 * t) + 1)) (xs ((5 * t) + 2)) (xs ((5 * t) + 3))) (rFo S (xs ((5 * t) + 1)) (xs ((5 * t) + 2))) o))) 0 rfl (by decide) (by decide) dL_law_834 ?_
    refine wa_iload F dL_law_835 0 rfl ?_
    refine wa_i2l F dL_law_837 rfl ?_
    have eo1 : (kO (kFo S (xs ((5 * t) + 1)) (xs ((5 * t) + 2)) (xs ((5 * t) + 3))) (rFo S (xs ((5 * t) + 1)) (xs ((5 * t) + 2))) o) 0 = (mR (kFo S (xs ((5 * t) + 1)) (xs ((5 * t) + 2)) (xs ((5 * t) + 3))) (rFo S (xs ((5 * t) + 1)) (xs ((5 * t) + 2)))).toInt64 := by rw [er]; exact eo
    refine wa_lcmp F dL_law_838 ?_
    refine wa_if_eq (tgt := 844) F dL_law_839 (by decide) (fun _ => ?_) (fun z => absurd ((lg_cmp_eq _ _).mpr eo1) z)
    refine wa_goto (tgt := 2469) F dL_law_844 (by decide) ?_
    refine wa_lv (lv' := [(4, .int (nI (5 * t))), (3, .ref 1), (2, .ref 2), (1, .ref 0), (0, .ref 3)]) [2, 3, 4, 5, 6] rfl ?_
    refine wa_widen (k := cells + 4) (n := slots + 39) (by omega) (by omega) ?_
    exact K _ _ _ (INV_0 hiX) had1
set_option maxHeartbeats 4000000 in
set_option maxRecDepth 20000 in
theorem law_9 {p : Program} {l : Launch} {e : Env} {s : State} {m : MethodId} {below : List Frame} {meth : Method} {c : Code} {b L : Nat} {xs : Nat → Int32} {D : va_G} {TC : Nat → ClassId} {Q : State → Prop} {ret : Option FieldType} {nm : String} {tb : List ExceptionTableEntry} (F : FX D (tysOf TC) s.heap p l s m #[.ref b] meth c RL cL_law 7 ret nm tb) (hst : l.stackTraces = false) (hX : va_X b L xs s s.heap) (hbs : b < s.heap.size) (hbl : b < s.heap.size) (hL : L < 2 ^ 31)
    (ad : Nat → Nat) (had : ad 3 = b) (S : St) (o : Nat → Int64) (t : Nat) (hi : INV t S) (ht : t < 512) (h5 : 5 * t + 5 ≤ L) (cells slots : Nat) (hcl : cells + 4 ≤ 601024) (hsl : slots + 39 ≤ 7293034)
    (K : ∀ (S1 : St) (o1 : Nat → Int64) (ad1 : Nat → Nat), INV (t + 1) S1 → ad1 3 = b → WA D s.heap p l e room_1 s m #[.ref b] below meth c 7 Q ad1 (hall TC S1 S1 o1) (cells + 4) (slots + 39) 2469 [(4, .int (nI (5 * t))), (3, .ref 1), (2, .ref 2), (1, .ref 0), (0, .ref 3)] []) : WA D s.heap p l e room_1 s m #[.ref b] below meth c 7 Q ad (hall TC S S o) cells slots 847 [(4, .int (nI (5 * t))), (3, .ref 1), (2, .ref 2), (1, .ref 0), (0, .ref 3)] [] := by
  refine wa_aload_n F dL_law_847 (i := 1) rfl 3 rfl ?_
  refine wa_aload_n F dL_law_848 (i := 0) rfl 4 rfl ?_
  refine wa_iload F dL_law_849 0 rfl ?_
  refine wa_iconst (v := 1) F dL_law_851 (by decide) ?_
  refine wa_iaddN F dL_law_852 (a := 5 * t) (b := 1) rfl rfl ?_
  refine wa_sld F hX hbs hbl had ((5 * t) + 1) rfl (by omega) hL dL_law_853 ?_
  refine wa_aload_n F dL_law_854 (i := 0) rfl 4 rfl ?_
  refine wa_iload F dL_law_855 0 rfl ?_
  refine wa_iconst (v := 2) F dL_law_857 (by decide) ?_
  refine wa_iaddN F dL_law_858 (a := 5 * t) (b := 2) rfl rfl ?_
  refine wa_sld F hX hbs hbl had ((5 * t) + 2) rfl (by omega) hL dL_law_859 ?_
  refine wa_aload_n F dL_law_860 (i := 3) rfl 1 rfl ?_
  have hiX : INV (t + 1) (kU (kPv S (xs ((5 * t) + 1)) (xs ((5 * t) + 2))) (uPv (xs ((5 * t) + 1)) (xs ((5 * t) + 2))) S) := (st_prove hi)
  have hnr3 : noRef (hall TC (kU (kPv S (xs ((5 * t) + 1)) (xs ((5 * t) + 2))) (uPv (xs ((5 * t) + 1)) (xs ((5 * t) + 2))) S) S (kO (kPv S (xs ((5 * t) + 1)) (xs ((5 * t) + 2))) (rPv S (xs ((5 * t) + 1)) (xs ((5 * t) + 2))) o)) 3 := hall_nr (Or.inl rfl) rfl hiX.1.2 hiX.2.1.2 hiX.2.2.1.2 hiX.2.2.2.1.2 hiX.2.2.2.2.1.2 hiX.2.2.2.2.2.2.2.1
  refine wa_callH3 F [] (c_L_prove hst D TC s.heap ad S S o (xs ((5 * t) + 1)) (xs ((5 * t) + 2)) t hi) mw_L_prove ml_L_157 rfl hnr3 rfl (Nat.le_of_ble_eq_true rfl) ⟨(Nat.le_of_ble_eq_true rfl), (Nat.le_of_ble_eq_true rfl)⟩ ⟨show _ ≤ 601024 by omega, show _ ≤ 7293034 by omega⟩ dL_law_861 (by intro y hy; simp only [List.mem_cons, List.not_mem_nil, or_false] at hy; rcases hy with rfl | rfl | rfl | rfl | rfl <;> intro z hz <;> first | (cases hz; exact Or.inl rfl) | (cases hz; exact Or.inr (by simp [hm_c, hm_m, hm_o])) | cases hz) rfl ?_
  intro ad1 had1
  replace had1 : ad1 3 = b := had1.trans had
  refine wa_istore (lv' := [(5, .int (kPv S (xs ((5 * t) + 1)) (xs ((5 * t) + 2)))), (4, .int (nI (5 * t))), (3, .ref 1), (2, .ref 2), (1, .ref 0), (0, .ref 3)]) F dL_law_864 (by decide) rfl ?_
  refine wa_aload_n F dL_law_866 (i := 2) rfl 3 rfl ?_
  refine wa_aload_n F dL_law_867 (i := 0) rfl 5 rfl ?_
  refine wa_iload F dL_law_868 1 rfl ?_
  refine wa_iconst (v := 1) F dL_law_870 (by decide) ?_
  refine wa_iaddN F dL_law_871 (a := 5 * t) (b := 1) rfl rfl ?_
  refine wa_sld F hX hbs hbl had1 ((5 * t) + 1) rfl (by omega) hL dL_law_872 ?_
  refine wa_aload_n F dL_law_873 (i := 0) rfl 5 rfl ?_
  refine wa_iload F dL_law_874 1 rfl ?_
  refine wa_iconst (v := 2) F dL_law_876 (by decide) ?_
  refine wa_iaddN F dL_law_877 (a := 5 * t) (b := 2) rfl rfl ?_
  refine wa_sld F hX hbs hbl had1 ((5 * t) + 2) rfl (by omega) hL dL_law_878 ?_
  refine wa_callV F [] (c_X6_prove hst D TC s.heap ad1 (kU (kPv S (xs ((5 * t) + 1)) (xs ((5 * t) + 2))) (uPv (xs ((5 * t) + 1)) (xs ((5 * t) + 2))) S) S (kO (kPv S (xs ((5 * t) + 1)) (xs ((5 * t) + 2))) (rPv S (xs ((5 * t) + 1)) (xs ((5 * t) + 2))) o) (xs ((5 * t) + 1)) (xs ((5 * t) + 2)) t hi) mw_X6_prove ml_L_159 hm_m rfl rfl (Nat.le_of_ble_eq_true rfl) ⟨(Nat.le_of_ble_eq_true rfl), (Nat.le_of_ble_eq_true rfl)⟩ ⟨show _ ≤ 601024 by omega, show _ ≤ 7293034 by omega⟩ dL_law_879 PR_ag (fun _ z => z.elim) ?_
  rintro _ _ _ ⟨rfl, rfl, rfl⟩
  rw [mS_eq (S := S) (fun w => c0_prove), hall_ag (X := (kU (kPv S (xs ((5 * t) + 1)) (xs ((5 * t) + 2))) (uPv (xs ((5 * t) + 1)) (xs ((5 * t) + 2))) S)) ag_0]
  refine wa_istore (lv' := [(6, .int (mR (kPv S (xs ((5 * t) + 1)) (xs ((5 * t) + 2))) (rPv S (xs ((5 * t) + 1)) (xs ((5 * t) + 2))))), (5, .int (kPv S (xs ((5 * t) + 1)) (xs ((5 * t) + 2)))), (4, .int (nI (5 * t))), (3, .ref 1), (2, .ref 2), (1, .ref 0), (0, .ref 3)]) F dL_law_882 (by decide) rfl ?_
  refine wa_aload_n F dL_law_884 (i := 2) rfl 4 rfl ?_
  refine wa_callV F [] (c_X6_thrown hst D TC s.heap ad1 (sU (kU (kPv S (xs ((5 * t) + 1)) (xs ((5 * t) + 2))) (uPv (xs ((5 * t) + 1)) (xs ((5 * t) + 2))) S) 0 0 (kPv S (xs ((5 * t) + 1)) (xs ((5 * t) + 2)))) (sU (kU (kPv S (xs ((5 * t) + 1)) (xs ((5 * t) + 2))) (uPv (xs ((5 * t) + 1)) (xs ((5 * t) + 2))) S) 0 0 (kPv S (xs ((5 * t) + 1)) (xs ((5 * t) + 2)))) (kO (kPv S (xs ((5 * t) + 1)) (xs ((5 * t) + 2))) (rPv S (xs ((5 * t) + 1)) (xs ((5 * t) + 2))) o)) mw_X6_thrown ml_L_126 hm_m rfl rfl (Nat.le_of_ble_eq_true rfl) ⟨(Nat.le_of_ble_eq_true rfl), (Nat.le_of_ble_eq_true rfl)⟩ ⟨show _ ≤ 601024 by omega, show _ ≤ 7293034 by omega⟩ dL_law_885 PR_ag (fun _ z => z.elim) ?_
  rintro _ _ _ ⟨rfl, rfl, rfl⟩
  rw [show (sU (kU (kPv S (xs ((5 * t) + 1)) (xs ((5 * t) + 2))) (uPv (xs ((5 * t) + 1)) (xs ((5 * t) + 2))) S) 0 0 (kPv S (xs ((5 * t) + 1)) (xs ((5 * t) + 2)))) 0 0 = kPv S (xs ((5 * t) + 1)) (xs ((5 * t) + 2)) from by rw [sU_eq, if_pos rfl]]
  refine wa_iload F dL_law_888 1 rfl ?_
  refine wa_icmp_eq (tgt := 895) F dL_law_890 (by decide) (fun _ => ?_) (fun z => absurd rfl z)
  refine wa_iload F dL_law_895 1 rfl ?_
  refine wa_if_ne (tgt := 912) F dL_law_897 (by decide) (fun c897 => ?_) (fun c897 => ?_)
  · skip
    refine wa_goto (tgt := 2469) F dL_law_912 (by decide) ?_
    refine wa_lv (lv' := [(4, .int (nI (5 * t))), (3, .ref 1), (2, .ref 2), (1, .ref 0), (0, .ref 3)]) [2, 3, 4, 5, 6] rfl ?_
    refine wa_widen (k := cells + 4) (n := slots + 39) (by omega) (by omega) ?_
    exact K _ _ _ (INV_0 hiX) had1
  · skip
    have eo : (kO (kPv S (xs ((5 * t) + 1)) (xs ((5 * t) + 2))) (rPv S (xs ((5 * t) + 1)) (xs ((5 * t) + 2))) o) 0 = (rPv S (xs ((5 * t) + 1)) (xs ((5 * t) + 2))).toInt64 := by rw [c897, kO_0]; exact if_pos rfl
    have er : mR (kPv S (xs ((5 * t) + 1)) (xs ((5 * t) + 2))) (rPv S (xs ((5 * t) + 1)) (xs ((5 * t) + 2))) = rPv S (xs ((5 * t) + 1)) (xs ((5 * t) + 2)) := by rw [c897, mR_0]
    refine wa_aload_n F dL_law_900 (i := 3) rfl 3 rfl ?_
    refine wa_iconst (v := 0) F dL_law_901 (by decide) ?_
    refine wa_lald F 1 rfl (hm_o (TC := TC) (X := (sU (kU (kPv S (xs ((5 * t) + 1)) (xs ((5 * t) + 2))) (uPv (xs ((5 * t) + 1)) (xs ((5 * t) + 2))) S) 0 0 (kPv S (xs ((5 * t) + 1)) (xs ((5 * t) + 2))))) (S := (sU (kU (kPv S (xs ((5 * t) + 1)) (xs ((5 * t) + 2))) (uPv (xs ((5 * t) + 1)) (xs ((5 * t) + 2))) S) 0 0 (kPv S (xs ((5 * t) + 1)) (xs ((5 * t) + 2))))) (o := (kO (kPv S (xs ((5 * t) + 1)) (xs ((5 * t) + 2))) (rPv S (xs ((5 * t) + 1)) (xs ((5 * t) + 2))) o))) 0 rfl (by decide) (by decide) dL_law_902 ?_
    refine wa_iload F dL_law_903 0 rfl ?_
    refine wa_i2l F dL_law_905 rfl ?_
    have eo1 : (kO (kPv S (xs ((5 * t) + 1)) (xs ((5 * t) + 2))) (rPv S (xs ((5 * t) + 1)) (xs ((5 * t) + 2))) o) 0 = (mR (kPv S (xs ((5 * t) + 1)) (xs ((5 * t) + 2))) (rPv S (xs ((5 * t) + 1)) (xs ((5 * t) + 2)))).toInt64 := by rw [er]; exact eo
    refine wa_lcmp F dL_law_906 ?_
    refine wa_if_eq (tgt := 912) F dL_law_907 (by decide) (fun _ => ?_) (fun z => absurd ((lg_cmp_eq _ _).mpr eo1) z)
    refine wa_goto (tgt := 2469) F dL_law_912 (by decide) ?_
    refine wa_lv (lv' := [(4, .int (nI (5 * t))), (3, .ref 1), (2, .ref 2), (1, .ref 0), (0, .ref 3)]) [2, 3, 4, 5, 6] rfl ?_
    refine wa_widen (k := cells + 4) (n := slots + 39) (by omega) (by omega) ?_
    exact K _ _ _ (INV_0 hiX) had1
set_option maxHeartbeats 4000000 in
set_option maxRecDepth 20000 in
theorem law_10 {p : Program} {l : Launch} {e : Env} {s : State} {m : MethodId} {below : List Frame} {meth : Method} {c : Code} {b L : Nat} {xs : Nat → Int32} {D : va_G} {TC : Nat → ClassId} {Q : State → Prop} {ret : Option FieldType} {nm : String} {tb : List ExceptionTableEntry} (F : FX D (tysOf TC) s.heap p l s m #[.ref b] meth c RL cL_law 7 ret nm tb) (hst : l.stackTraces = false) (hX : va_X b L xs s s.heap) (hbs : b < s.heap.size) (hbl : b < s.heap.size) (hL : L < 2 ^ 31)
    (ad : Nat → Nat) (had : ad 3 = b) (S : St) (o : Nat → Int64) (t : Nat) (hi : INV t S) (ht : t < 512) (h5 : 5 * t + 5 ≤ L) (cells slots : Nat) (hcl : cells + 4 ≤ 601024) (hsl : slots + 39 ≤ 7293034)
    (K : ∀ (S1 : St) (o1 : Nat → Int64) (ad1 : Nat → Nat), INV (t + 1) S1 → ad1 3 = b → WA D s.heap p l e room_1 s m #[.ref b] below meth c 7 Q ad1 (hall TC S1 S1 o1) (cells + 4) (slots + 39) 2469 [(4, .int (nI (5 * t))), (3, .ref 1), (2, .ref 2), (1, .ref 0), (0, .ref 3)] []) : WA D s.heap p l e room_1 s m #[.ref b] below meth c 7 Q ad (hall TC S S o) cells slots 915 [(4, .int (nI (5 * t))), (3, .ref 1), (2, .ref 2), (1, .ref 0), (0, .ref 3)] [] := by
  refine wa_aload_n F dL_law_915 (i := 1) rfl 3 rfl ?_
  refine wa_aload_n F dL_law_916 (i := 0) rfl 4 rfl ?_
  refine wa_iload F dL_law_917 0 rfl ?_
  refine wa_iconst (v := 1) F dL_law_919 (by decide) ?_
  refine wa_iaddN F dL_law_920 (a := 5 * t) (b := 1) rfl rfl ?_
  refine wa_sld F hX hbs hbl had ((5 * t) + 1) rfl (by omega) hL dL_law_921 ?_
  refine wa_aload_n F dL_law_922 (i := 3) rfl 1 rfl ?_
  have hiX : INV (t + 1) (kU (kDc S (xs ((5 * t) + 1))) (uDc (xs ((5 * t) + 1))) S) := (st_declare hi)
  have hnr3 : noRef (hall TC (kU (kDc S (xs ((5 * t) + 1))) (uDc (xs ((5 * t) + 1))) S) S (kO (kDc S (xs ((5 * t) + 1))) (rDc S) o)) 3 := hall_nr (Or.inl rfl) rfl hiX.1.2 hiX.2.1.2 hiX.2.2.1.2 hiX.2.2.2.1.2 hiX.2.2.2.2.1.2 hiX.2.2.2.2.2.2.2.1
  refine wa_callH3 F [] (c_L_declare hst D TC s.heap ad S S o (xs ((5 * t) + 1)) t hi) mw_L_declare ml_L_160 rfl hnr3 rfl (Nat.le_of_ble_eq_true rfl) ⟨(Nat.le_of_ble_eq_true rfl), (Nat.le_of_ble_eq_true rfl)⟩ ⟨show _ ≤ 601024 by omega, show _ ≤ 7293034 by omega⟩ dL_law_923 (by intro y hy; simp only [List.mem_cons, List.not_mem_nil, or_false] at hy; rcases hy with rfl | rfl | rfl | rfl | rfl <;> intro z hz <;> first | (cases hz; exact Or.inl rfl) | (cases hz; exact Or.inr (by simp [hm_c, hm_m, hm_o])) | cases hz) rfl ?_
  intro ad1 had1
  replace had1 : ad1 3 = b := had1.trans had
  refine wa_istore (lv' := [(5, .int (kDc S (xs ((5 * t) + 1)))), (4, .int (nI (5 * t))), (3, .ref 1), (2, .ref 2), (1, .ref 0), (0, .ref 3)]) F dL_law_926 (by decide) rfl ?_
  refine wa_aload_n F dL_law_928 (i := 2) rfl 3 rfl ?_
  refine wa_aload_n F dL_law_929 (i := 0) rfl 5 rfl ?_
  refine wa_iload F dL_law_930 1 rfl ?_
  refine wa_iconst (v := 1) F dL_law_932 (by decide) ?_
  refine wa_iaddN F dL_law_933 (a := 5 * t) (b := 1) rfl rfl ?_
  refine wa_sld F hX hbs hbl had1 ((5 * t) + 1) rfl (by omega) hL dL_law_934 ?_
  refine wa_callV F [] (c_X6_declare hst D TC s.heap ad1 (kU (kDc S (xs ((5 * t) + 1))) (uDc (xs ((5 * t) + 1))) S) S (kO (kDc S (xs ((5 * t) + 1))) (rDc S) o) (xs ((5 * t) + 1)) t hi) mw_X6_declare ml_L_162 hm_m rfl rfl (Nat.le_of_ble_eq_true rfl) ⟨(Nat.le_of_ble_eq_true rfl), (Nat.le_of_ble_eq_true rfl)⟩ ⟨show _ ≤ 601024 by omega, show _ ≤ 7293034 by omega⟩ dL_law_935 PR_ag (fun _ z => z.elim) ?_
  rintro _ _ _ ⟨rfl, rfl, rfl⟩
  rw [mS_eq (S := S) (fun w => c0_declare), hall_ag (X := (kU (kDc S (xs ((5 * t) + 1))) (uDc (xs ((5 * t) + 1))) S)) ag_0]
  refine wa_istore (lv' := [(6, .int (mR (kDc S (xs ((5 * t) + 1))) (rDc S))), (5, .int (kDc S (xs ((5 * t) + 1)))), (4, .int (nI (5 * t))), (3, .ref 1), (2, .ref 2), (1, .ref 0), (0, .ref 3)]) F dL_law_938 (by decide) rfl ?_
  refine wa_aload_n F dL_law_940 (i := 2) rfl 4 rfl ?_
  refine wa_callV F [] (c_X6_thrown hst D TC s.heap ad1 (sU (kU (kDc S (xs ((5 * t) + 1))) (uDc (xs ((5 * t) + 1))) S) 0 0 (kDc S (xs ((5 * t) + 1)))) (sU (kU (kDc S (xs ((5 * t) + 1))) (uDc (xs ((5 * t) + 1))) S) 0 0 (kDc S (xs ((5 * t) + 1)))) (kO (kDc S (xs ((5 * t) + 1))) (rDc S) o)) mw_X6_thrown ml_L_126 hm_m rfl rfl (Nat.le_of_ble_eq_true rfl) ⟨(Nat.le_of_ble_eq_true rfl), (Nat.le_of_ble_eq_true rfl)⟩ ⟨show _ ≤ 601024 by omega, show _ ≤ 7293034 by omega⟩ dL_law_941 PR_ag (fun _ z => z.elim) ?_
  rintro _ _ _ ⟨rfl, rfl, rfl⟩
  rw [show (sU (kU (kDc S (xs ((5 * t) + 1))) (uDc (xs ((5 * t) + 1))) S) 0 0 (kDc S (xs ((5 * t) + 1)))) 0 0 = kDc S (xs ((5 * t) + 1)) from by rw [sU_eq, if_pos rfl]]
  refine wa_iload F dL_law_944 1 rfl ?_
  refine wa_icmp_eq (tgt := 951) F dL_law_946 (by decide) (fun _ => ?_) (fun z => absurd rfl z)
  refine wa_iload F dL_law_951 1 rfl ?_
  refine wa_if_ne (tgt := 968) F dL_law_953 (by decide) (fun c953 => ?_) (fun c953 => ?_)
  · skip
    refine wa_goto (tgt := 2469) F dL_law_968 (by decide) ?_
    refine wa_lv (lv' := [(4, .int (nI (5 * t))), (3, .ref 1), (2, .ref 2), (1, .ref 0), (0, .ref 3)]) [2, 3, 4, 5, 6] rfl ?_
    refine wa_widen (k := cells + 4) (n := slots + 39) (by omega) (by omega) ?_
    exact K _ _ _ (INV_0 hiX) had1
  · skip
    have eo : (kO (kDc S (xs ((5 * t) + 1))) (rDc S) o) 0 = (rDc S).toInt64 := by rw [c953, kO_0]; exact if_pos rfl
    have er : mR (kDc S (xs ((5 * t) + 1))) (rDc S) = rDc S := by rw [c953, mR_0]
    refine wa_aload_n F dL_law_956 (i := 3) rfl 3 rfl ?_
    refine wa_iconst (v := 0) F dL_law_957 (by decide) ?_
    refine wa_lald F 1 rfl (hm_o (TC := TC) (X := (sU (kU (kDc S (xs ((5 * t) + 1))) (uDc (xs ((5 * t) + 1))) S) 0 0 (kDc S (xs ((5 * t) + 1))))) (S := (sU (kU (kDc S (xs ((5 * t) + 1))) (uDc (xs ((5 * t) + 1))) S) 0 0 (kDc S (xs ((5 * t) + 1))))) (o := (kO (kDc S (xs ((5 * t) + 1))) (rDc S) o))) 0 rfl (by decide) (by decide) dL_law_958 ?_
    refine wa_iload F dL_law_959 0 rfl ?_
    refine wa_i2l F dL_law_961 rfl ?_
    have eo1 : (kO (kDc S (xs ((5 * t) + 1))) (rDc S) o) 0 = (mR (kDc S (xs ((5 * t) + 1))) (rDc S)).toInt64 := by rw [er]; exact eo
    refine wa_lcmp F dL_law_962 ?_
    refine wa_if_eq (tgt := 968) F dL_law_963 (by decide) (fun _ => ?_) (fun z => absurd ((lg_cmp_eq _ _).mpr eo1) z)
    refine wa_goto (tgt := 2469) F dL_law_968 (by decide) ?_
    refine wa_lv (lv' := [(4, .int (nI (5 * t))), (3, .ref 1), (2, .ref 2), (1, .ref 0), (0, .ref 3)]) [2, 3, 4, 5, 6] rfl ?_
    refine wa_widen (k := cells + 4) (n := slots + 39) (by omega) (by omega) ?_
    exact K _ _ _ (INV_0 hiX) had1
set_option maxHeartbeats 4000000 in
set_option maxRecDepth 20000 in
theorem law_11 {p : Program} {l : Launch} {e : Env} {s : State} {m : MethodId} {below : List Frame} {meth : Method} {c : Code} {b L : Nat} {xs : Nat → Int32} {D : va_G} {TC : Nat → ClassId} {Q : State → Prop} {ret : Option FieldType} {nm : String} {tb : List ExceptionTableEntry} (F : FX D (tysOf TC) s.heap p l s m #[.ref b] meth c RL cL_law 7 ret nm tb) (hst : l.stackTraces = false) (hX : va_X b L xs s s.heap) (hbs : b < s.heap.size) (hbl : b < s.heap.size) (hL : L < 2 ^ 31)
    (ad : Nat → Nat) (had : ad 3 = b) (S : St) (o : Nat → Int64) (t : Nat) (hi : INV t S) (ht : t < 512) (h5 : 5 * t + 5 ≤ L) (cells slots : Nat) (hcl : cells + 4 ≤ 601024) (hsl : slots + 39 ≤ 7293034)
    (K : ∀ (S1 : St) (o1 : Nat → Int64) (ad1 : Nat → Nat), INV (t + 1) S1 → ad1 3 = b → WA D s.heap p l e room_1 s m #[.ref b] below meth c 7 Q ad1 (hall TC S1 S1 o1) (cells + 4) (slots + 39) 2469 [(4, .int (nI (5 * t))), (3, .ref 1), (2, .ref 2), (1, .ref 0), (0, .ref 3)] []) : WA D s.heap p l e room_1 s m #[.ref b] below meth c 7 Q ad (hall TC S S o) cells slots 971 [(4, .int (nI (5 * t))), (3, .ref 1), (2, .ref 2), (1, .ref 0), (0, .ref 3)] [] := by
  refine wa_aload_n F dL_law_971 (i := 1) rfl 3 rfl ?_
  refine wa_aload_n F dL_law_972 (i := 0) rfl 4 rfl ?_
  refine wa_iload F dL_law_973 0 rfl ?_
  refine wa_iconst (v := 1) F dL_law_975 (by decide) ?_
  refine wa_iaddN F dL_law_976 (a := 5 * t) (b := 1) rfl rfl ?_
  refine wa_sld F hX hbs hbl had ((5 * t) + 1) rfl (by omega) hL dL_law_977 ?_
  refine wa_aload_n F dL_law_978 (i := 3) rfl 1 rfl ?_
  have hiX : INV (t + 1) (kU (kBo S (xs ((5 * t) + 1))) (uBo (xs ((5 * t) + 1))) S) := (st_body hi)
  have hnr3 : noRef (hall TC (kU (kBo S (xs ((5 * t) + 1))) (uBo (xs ((5 * t) + 1))) S) S (kO (kBo S (xs ((5 * t) + 1))) (rBo S) o)) 3 := hall_nr (Or.inl rfl) rfl hiX.1.2 hiX.2.1.2 hiX.2.2.1.2 hiX.2.2.2.1.2 hiX.2.2.2.2.1.2 hiX.2.2.2.2.2.2.2.1
  refine wa_callH3 F [] (c_L_body hst D TC s.heap ad S S o (xs ((5 * t) + 1)) t hi) mw_L_body ml_L_163 rfl hnr3 rfl (Nat.le_of_ble_eq_true rfl) ⟨(Nat.le_of_ble_eq_true rfl), (Nat.le_of_ble_eq_true rfl)⟩ ⟨show _ ≤ 601024 by omega, show _ ≤ 7293034 by omega⟩ dL_law_979 (by intro y hy; simp only [List.mem_cons, List.not_mem_nil, or_false] at hy; rcases hy with rfl | rfl | rfl | rfl | rfl <;> intro z hz <;> first | (cases hz; exact Or.inl rfl) | (cases hz; exact Or.inr (by simp [hm_c, hm_m, hm_o])) | cases hz) rfl ?_
  intro ad1 had1
  replace had1 : ad1 3 = b := had1.trans had
  refine wa_istore (lv' := [(5, .int (kBo S (xs ((5 * t) + 1)))), (4, .int (nI (5 * t))), (3, .ref 1), (2, .ref 2), (1, .ref 0), (0, .ref 3)]) F dL_law_982 (by decide) rfl ?_
  refine wa_aload_n F dL_law_984 (i := 2) rfl 3 rfl ?_
  refine wa_aload_n F dL_law_985 (i := 0) rfl 5 rfl ?_
  refine wa_iload F dL_law_986 1 rfl ?_
  refine wa_iconst (v := 1) F dL_law_988 (by decide) ?_
  refine wa_iaddN F dL_law_989 (a := 5 * t) (b := 1) rfl rfl ?_
  refine wa_sld F hX hbs hbl had1 ((5 * t) + 1) rfl (by omega) hL dL_law_990 ?_
  refine wa_callV F [] (c_X6_body hst D TC s.heap ad1 (kU (kBo S (xs ((5 * t) + 1))) (uBo (xs ((5 * t) + 1))) S) S (kO (kBo S (xs ((5 * t) + 1))) (rBo S) o) (xs ((5 * t) + 1)) t hi) mw_X6_body ml_L_165 hm_m rfl rfl (Nat.le_of_ble_eq_true rfl) ⟨(Nat.le_of_ble_eq_true rfl), (Nat.le_of_ble_eq_true rfl)⟩ ⟨show _ ≤ 601024 by omega, show _ ≤ 7293034 by omega⟩ dL_law_991 PR_ag (fun _ z => z.elim) ?_
  rintro _ _ _ ⟨rfl, rfl, rfl⟩
  rw [mS_eq (S := S) (fun w => c0_body), hall_ag (X := (kU (kBo S (xs ((5 * t) + 1))) (uBo (xs ((5 * t) + 1))) S)) ag_0]
  refine wa_istore (lv' := [(6, .int (mR (kBo S (xs ((5 * t) + 1))) (rBo S))), (5, .int (kBo S (xs ((5 * t) + 1)))), (4, .int (nI (5 * t))), (3, .ref 1), (2, .ref 2), (1, .ref 0), (0, .ref 3)]) F dL_law_994 (by decide) rfl ?_
  refine wa_aload_n F dL_law_996 (i := 2) rfl 4 rfl ?_
  refine wa_callV F [] (c_X6_thrown hst D TC s.heap ad1 (sU (kU (kBo S (xs ((5 * t) + 1))) (uBo (xs ((5 * t) + 1))) S) 0 0 (kBo S (xs ((5 * t) + 1)))) (sU (kU (kBo S (xs ((5 * t) + 1))) (uBo (xs ((5 * t) + 1))) S) 0 0 (kBo S (xs ((5 * t) + 1)))) (kO (kBo S (xs ((5 * t) + 1))) (rBo S) o)) mw_X6_thrown ml_L_126 hm_m rfl rfl (Nat.le_of_ble_eq_true rfl) ⟨(Nat.le_of_ble_eq_true rfl), (Nat.le_of_ble_eq_true rfl)⟩ ⟨show _ ≤ 601024 by omega, show _ ≤ 7293034 by omega⟩ dL_law_997 PR_ag (fun _ z => z.elim) ?_
  rintro _ _ _ ⟨rfl, rfl, rfl⟩
  rw [show (sU (kU (kBo S (xs ((5 * t) + 1))) (uBo (xs ((5 * t) + 1))) S) 0 0 (kBo S (xs ((5 * t) + 1)))) 0 0 = kBo S (xs ((5 * t) + 1)) from by rw [sU_eq, if_pos rfl]]
  refine wa_iload F dL_law_1000 1 rfl ?_
  refine wa_icmp_eq (tgt := 1007) F dL_law_1002 (by decide) (fun _ => ?_) (fun z => absurd rfl z)
  refine wa_iload F dL_law_1007 1 rfl ?_
  refine wa_if_ne (tgt := 1024) F dL_law_1009 (by decide) (fun c1009 => ?_) (fun c1009 => ?_)
  · skip
    refine wa_goto (tgt := 2469) F dL_law_1024 (by decide) ?_
    refine wa_lv (lv' := [(4, .int (nI (5 * t))), (3, .ref 1), (2, .ref 2), (1, .ref 0), (0, .ref 3)]) [2, 3, 4, 5, 6] rfl ?_
    refine wa_widen (k := cells + 4) (n := slots + 39) (by omega) (by omega) ?_
    exact K _ _ _ (INV_0 hiX) had1
  · skip
    have eo : (kO (kBo S (xs ((5 * t) + 1))) (rBo S) o) 0 = (rBo S).toInt64 := by rw [c1009, kO_0]; exact if_pos rfl
    have er : mR (kBo S (xs ((5 * t) + 1))) (rBo S) = rBo S := by rw [c1009, mR_0]
    refine wa_aload_n F dL_law_1012 (i := 3) rfl 3 rfl ?_
    refine wa_iconst (v := 0) F dL_law_1013 (by decide) ?_
    refine wa_lald F 1 rfl (hm_o (TC := TC) (X := (sU (kU (kBo S (xs ((5 * t) + 1))) (uBo (xs ((5 * t) + 1))) S) 0 0 (kBo S (xs ((5 * t) + 1))))) (S := (sU (kU (kBo S (xs ((5 * t) + 1))) (uBo (xs ((5 * t) + 1))) S) 0 0 (kBo S (xs ((5 * t) + 1))))) (o := (kO (kBo S (xs ((5 * t) + 1))) (rBo S) o))) 0 rfl (by decide) (by decide) dL_law_1014 ?_
    refine wa_iload F dL_law_1015 0 rfl ?_
    refine wa_i2l F dL_law_1017 rfl ?_
    have eo1 : (kO (kBo S (xs ((5 * t) + 1))) (rBo S) o) 0 = (mR (kBo S (xs ((5 * t) + 1))) (rBo S)).toInt64 := by rw [er]; exact eo
    refine wa_lcmp F dL_law_1018 ?_
    refine wa_if_eq (tgt := 1024) F dL_law_1019 (by decide) (fun _ => ?_) (fun z => absurd ((lg_cmp_eq _ _).mpr eo1) z)
    refine wa_goto (tgt := 2469) F dL_law_1024 (by decide) ?_
    refine wa_lv (lv' := [(4, .int (nI (5 * t))), (3, .ref 1), (2, .ref 2), (1, .ref 0), (0, .ref 3)]) [2, 3, 4, 5, 6] rfl ?_
    refine wa_widen (k := cells + 4) (n := slots + 39) (by omega) (by omega) ?_
    exact K _ _ _ (INV_0 hiX) had1
set_option maxHeartbeats 4000000 in
set_option maxRecDepth 20000 in
theorem law_12 {p : Program} {l : Launch} {e : Env} {s : State} {m : MethodId} {below : List Frame} {meth : Method} {c : Code} {b L : Nat} {xs : Nat → Int32} {D : va_G} {TC : Nat → ClassId} {Q : State → Prop} {ret : Option FieldType} {nm : String} {tb : List ExceptionTableEntry} (F : FX D (tysOf TC) s.heap p l s m #[.ref b] meth c RL cL_law 7 ret nm tb) (hst : l.stackTraces = false) (hX : va_X b L xs s s.heap) (hbs : b < s.heap.size) (hbl : b < s.heap.size) (hL : L < 2 ^ 31)
    (ad : Nat → Nat) (had : ad 3 = b) (S : St) (o : Nat → Int64) (t : Nat) (hi : INV t S) (ht : t < 512) (h5 : 5 * t + 5 ≤ L) (cells slots : Nat) (hcl : cells + 4 ≤ 601024) (hsl : slots + 39 ≤ 7293034)
    (K : ∀ (S1 : St) (o1 : Nat → Int64) (ad1 : Nat → Nat), INV (t + 1) S1 → ad1 3 = b → WA D s.heap p l e room_1 s m #[.ref b] below meth c 7 Q ad1 (hall TC S1 S1 o1) (cells + 4) (slots + 39) 2469 [(4, .int (nI (5 * t))), (3, .ref 1), (2, .ref 2), (1, .ref 0), (0, .ref 3)] []) : WA D s.heap p l e room_1 s m #[.ref b] below meth c 7 Q ad (hall TC S S o) cells slots 1027 [(4, .int (nI (5 * t))), (3, .ref 1), (2, .ref 2), (1, .ref 0), (0, .ref 3)] [] := by
  refine wa_aload_n F dL_law_1027 (i := 1) rfl 3 rfl ?_
  refine wa_aload_n F dL_law_1028 (i := 0) rfl 4 rfl ?_
  refine wa_iload F dL_law_1029 0 rfl ?_
  refine wa_iconst (v := 1) F dL_law_1031 (by decide) ?_
  refine wa_iaddN F dL_law_1032 (a := 5 * t) (b := 1) rfl rfl ?_
  refine wa_sld F hX hbs hbl had ((5 * t) + 1) rfl (by omega) hL dL_law_1033 ?_
  refine wa_aload_n F dL_law_1034 (i := 0) rfl 4 rfl ?_
  refine wa_iload F dL_law_1035 0 rfl ?_
  refine wa_iconst (v := 2) F dL_law_1037 (by decide) ?_
  refine wa_iaddN F dL_law_1038 (a := 5 * t) (b := 2) rfl rfl ?_
  refine wa_sld F hX hbs hbl had ((5 * t) + 2) rfl (by omega) hL dL_law_1039 ?_
  refine wa_if_eq (tgt := 1047) F dL_law_1040 (by decide) (fun c1040 => ?_) (fun c1040 => ?_)
  · skip
    refine wa_iconst (v := 0) F dL_law_1047 (by decide) ?_
    refine wa_aload_n F dL_law_1048 (i := 3) rfl 1 rfl ?_
    have hiX : INV (t + 1) (kU (kSu S (xs ((5 * t) + 1))) (uSu (xs ((5 * t) + 1)) false) S) := (st_suspend hi)
    have hnr3 : noRef (hall TC (kU (kSu S (xs ((5 * t) + 1))) (uSu (xs ((5 * t) + 1)) false) S) S (kO (kSu S (xs ((5 * t) + 1))) (rSu S (xs ((5 * t) + 1))) o)) 3 := hall_nr (Or.inl rfl) rfl hiX.1.2 hiX.2.1.2 hiX.2.2.1.2 hiX.2.2.2.1.2 hiX.2.2.2.2.1.2 hiX.2.2.2.2.2.2.2.1
    refine wa_callH3 F [] (c_L_suspend hst D TC s.heap ad S S o (xs ((5 * t) + 1)) false t hi) mw_L_suspend ml_L_166 rfl hnr3 rfl (Nat.le_of_ble_eq_true rfl) ⟨(Nat.le_of_ble_eq_true rfl), (Nat.le_of_ble_eq_true rfl)⟩ ⟨show _ ≤ 601024 by omega, show _ ≤ 7293034 by omega⟩ dL_law_1049 (by intro y hy; simp only [List.mem_cons, List.not_mem_nil, or_false] at hy; rcases hy with rfl | rfl | rfl | rfl | rfl <;> intro z hz <;> first | (cases hz; exact Or.inl rfl) | (cases hz; exact Or.inr (by simp [hm_c, hm_m, hm_o])) | cases hz) rfl ?_
    intro ad1 had1
    replace had1 : ad1 3 = b := had1.trans had
    refine wa_istore (lv' := [(5, .int (kSu S (xs ((5 * t) + 1)))), (4, .int (nI (5 * t))), (3, .ref 1), (2, .ref 2), (1, .ref 0), (0, .ref 3)]) F dL_law_1052 (by decide) rfl ?_
    refine wa_aload_n F dL_law_1054 (i := 2) rfl 3 rfl ?_
    refine wa_aload_n F dL_law_1055 (i := 0) rfl 5 rfl ?_
    refine wa_iload F dL_law_1056 1 rfl ?_
    refine wa_iconst (v := 1) F dL_law_1058 (by decide) ?_
    refine wa_iaddN F dL_law_1059 (a := 5 * t) (b := 1) rfl rfl ?_
    refine wa_sld F hX hbs hbl had1 ((5 * t) + 1) rfl (by omega) hL dL_law_1060 ?_
    refine wa_aload_n F dL_law_1061 (i := 0) rfl 5 rfl ?_
    refine wa_iload F dL_law_1062 1 rfl ?_
    refine wa_iconst (v := 2) F dL_law_1064 (by decide) ?_
    refine wa_iaddN F dL_law_1065 (a := 5 * t) (b := 2) rfl rfl ?_
    refine wa_sld F hX hbs hbl had1 ((5 * t) + 2) rfl (by omega) hL dL_law_1066 ?_
    refine wa_if_eq (tgt := 1074) F dL_law_1067 (by decide) (fun _ => ?_) (fun z => absurd c1040 z)
    refine wa_iconst (v := 0) F dL_law_1074 (by decide) ?_
    refine wa_callV F [] (c_X6_suspend hst D TC s.heap ad1 (kU (kSu S (xs ((5 * t) + 1))) (uSu (xs ((5 * t) + 1)) false) S) S (kO (kSu S (xs ((5 * t) + 1))) (rSu S (xs ((5 * t) + 1))) o) (xs ((5 * t) + 1)) false t hi) mw_X6_suspend ml_L_169 hm_m rfl rfl (Nat.le_of_ble_eq_true rfl) ⟨(Nat.le_of_ble_eq_true rfl), (Nat.le_of_ble_eq_true rfl)⟩ ⟨show _ ≤ 601024 by omega, show _ ≤ 7293034 by omega⟩ dL_law_1075 PR_ag (fun _ z => z.elim) ?_
    rintro _ _ _ ⟨rfl, rfl, rfl⟩
    rw [mS_eq (S := S) (fun w => c0_suspend), hall_ag (X := (kU (kSu S (xs ((5 * t) + 1))) (uSu (xs ((5 * t) + 1)) false) S)) ag_0]
    refine wa_istore (lv' := [(6, .int (mR (kSu S (xs ((5 * t) + 1))) (rSu S (xs ((5 * t) + 1))))), (5, .int (kSu S (xs ((5 * t) + 1)))), (4, .int (nI (5 * t))), (3, .ref 1), (2, .ref 2), (1, .ref 0), (0, .ref 3)]) F dL_law_1078 (by decide) rfl ?_
    refine wa_aload_n F dL_law_1080 (i := 2) rfl 4 rfl ?_
    refine wa_callV F [] (c_X6_thrown hst D TC s.heap ad1 (sU (kU (kSu S (xs ((5 * t) + 1))) (uSu (xs ((5 * t) + 1)) false) S) 0 0 (kSu S (xs ((5 * t) + 1)))) (sU (kU (kSu S (xs ((5 * t) + 1))) (uSu (xs ((5 * t) + 1)) false) S) 0 0 (kSu S (xs ((5 * t) + 1)))) (kO (kSu S (xs ((5 * t) + 1))) (rSu S (xs ((5 * t) + 1))) o)) mw_X6_thrown ml_L_126 hm_m rfl rfl (Nat.le_of_ble_eq_true rfl) ⟨(Nat.le_of_ble_eq_true rfl), (Nat.le_of_ble_eq_true rfl)⟩ ⟨show _ ≤ 601024 by omega, show _ ≤ 7293034 by omega⟩ dL_law_1081 PR_ag (fun _ z => z.elim) ?_
    rintro _ _ _ ⟨rfl, rfl, rfl⟩
    rw [show (sU (kU (kSu S (xs ((5 * t) + 1))) (uSu (xs ((5 * t) + 1)) false) S) 0 0 (kSu S (xs ((5 * t) + 1)))) 0 0 = kSu S (xs ((5 * t) + 1)) from by rw [sU_eq, if_pos rfl]]
    refine wa_iload F dL_law_1084 1 rfl ?_
    refine wa_icmp_eq (tgt := 1091) F dL_law_1086 (by decide) (fun _ => ?_) (fun z => absurd rfl z)
    refine wa_iload F dL_law_1091 1 rfl ?_
    refine wa_if_ne (tgt := 1115) F dL_law_1093 (by decide) (fun c1093 => ?_) (fun c1093 => ?_)
    · skip
      refine wa_goto (tgt := 2469) F dL_law_1115 (by decide) ?_
      refine wa_lv (lv' := [(4, .int (nI (5 * t))), (3, .ref 1), (2, .ref 2), (1, .ref 0), (0, .ref 3)]) [2, 3, 4, 5, 6] rfl ?_
      refine wa_widen (k := cells + 4) (n := slots + 39) (by omega) (by omega) ?_
      exact K _ _ _ (INV_0 hiX) had1
    · skip
      have eo : (kO (kSu S (xs ((5 * t) + 1))) (rSu S (xs ((5 * t) + 1))) o) 0 = (rSu S (xs ((5 * t) + 1))).toInt64 := by rw [c1093, kO_0]; exact if_pos rfl
      have er : mR (kSu S (xs ((5 * t) + 1))) (rSu S (xs ((5 * t) + 1))) = rSu S (xs ((5 * t) + 1)) := by rw [c1093, mR_0]
      refine wa_aload_n F dL_law_1096 (i := 3) rfl 3 rfl ?_
      refine wa_iconst (v := 0) F dL_law_1097 (by decide) ?_
      refine wa_lald F 1 rfl (hm_o (TC := TC) (X := (sU (kU (kSu S (xs ((5 * t) + 1))) (uSu (xs ((5 * t) + 1)) false) S) 0 0 (kSu S (xs ((5 * t) + 1))))) (S := (sU (kU (kSu S (xs ((5 * t) + 1))) (uSu (xs ((5 * t) + 1)) false) S) 0 0 (kSu S (xs ((5 * t) + 1))))) (o := (kO (kSu S (xs ((5 * t) + 1))) (rSu S (xs ((5 * t) + 1))) o))) 0 rfl (by decide) (by decide) dL_law_1098 ?_
      refine wa_iload F dL_law_1099 0 rfl ?_
      refine wa_if_eq (tgt := 1108) F dL_law_1101 (by decide) (fun c1101 => ?_) (fun c1101 => ?_)
      · skip
        have eo2 : (kO (kSu S (xs ((5 * t) + 1))) (rSu S (xs ((5 * t) + 1))) o) 0 = 0 := by rw [eo, ← er]; exact b64f c1101
        refine wa_lconst (v := 0) F dL_law_1108 (by decide) ?_
        refine wa_lcmp F dL_law_1109 ?_
        refine wa_if_eq (tgt := 1115) F dL_law_1110 (by decide) (fun _ => ?_) (fun z => absurd ((lg_cmp_eq _ _).mpr eo2) z)
        refine wa_goto (tgt := 2469) F dL_law_1115 (by decide) ?_
        refine wa_lv (lv' := [(4, .int (nI (5 * t))), (3, .ref 1), (2, .ref 2), (1, .ref 0), (0, .ref 3)]) [2, 3, 4, 5, 6] rfl ?_
        refine wa_widen (k := cells + 4) (n := slots + 39) (by omega) (by omega) ?_
        exact K _ _ _ (INV_0 hiX) had1
      · skip
        have eo2 : (kO (kSu S (xs ((5 * t) + 1))) (rSu S (xs ((5 * t) + 1))) o) 0 = 1 := by rw [eo]; exact b64t rfl (by rw [← er]; exact c1101)
        refine wa_lconst (v := 1) F dL_law_1104 (by decide) ?_
        refine wa_goto (tgt := 1109) F dL_law_1105 (by decide) ?_
        refine wa_lcmp F dL_law_1109 ?_
        refine wa_if_eq (tgt := 1115) F dL_law_1110 (by decide) (fun _ => ?_) (fun z => absurd ((lg_cmp_eq _ _).mpr eo2) z)
        refine wa_goto (tgt := 2469) F dL_law_1115 (by decide) ?_
        refine wa_lv (lv' := [(4, .int (nI (5 * t))), (3, .ref 1), (2, .ref 2), (1, .ref 0), (0, .ref 3)]) [2, 3, 4, 5, 6] rfl ?_
        refine wa_widen (k := cells + 4) (n := slots + 39) (by omega) (by omega) ?_
        exact K _ _ _ (INV_0 hiX) had1
  · skip
    refine wa_iconst (v := 1) F dL_law_1043 (by decide) ?_
    refine wa_goto (tgt := 1048) F dL_law_1044 (by decide) ?_
    refine wa_aload_n F dL_law_1048 (i := 3) rfl 1 rfl ?_
    have hiX : INV (t + 1) (kU (kSu S (xs ((5 * t) + 1))) (uSu (xs ((5 * t) + 1)) true) S) := (st_suspend hi)
    have hnr3 : noRef (hall TC (kU (kSu S (xs ((5 * t) + 1))) (uSu (xs ((5 * t) + 1)) true) S) S (kO (kSu S (xs ((5 * t) + 1))) (rSu S (xs ((5 * t) + 1))) o)) 3 := hall_nr (Or.inl rfl) rfl hiX.1.2 hiX.2.1.2 hiX.2.2.1.2 hiX.2.2.2.1.2 hiX.2.2.2.2.1.2 hiX.2.2.2.2.2.2.2.1
    refine wa_callH3 F [] (c_L_suspend hst D TC s.heap ad S S o (xs ((5 * t) + 1)) true t hi) mw_L_suspend ml_L_166 rfl hnr3 rfl (Nat.le_of_ble_eq_true rfl) ⟨(Nat.le_of_ble_eq_true rfl), (Nat.le_of_ble_eq_true rfl)⟩ ⟨show _ ≤ 601024 by omega, show _ ≤ 7293034 by omega⟩ dL_law_1049 (by intro y hy; simp only [List.mem_cons, List.not_mem_nil, or_false] at hy; rcases hy with rfl | rfl | rfl | rfl | rfl <;> intro z hz <;> first | (cases hz; exact Or.inl rfl) | (cases hz; exact Or.inr (by simp [hm_c, hm_m, hm_o])) | cases hz) rfl ?_
    intro ad1 had1
    replace had1 : ad1 3 = b := had1.trans had
    refine wa_istore (lv' := [(5, .int (kSu S (xs ((5 * t) + 1)))), (4, .int (nI (5 * t))), (3, .ref 1), (2, .ref 2), (1, .ref 0), (0, .ref 3)]) F dL_law_1052 (by decide) rfl ?_
    refine wa_aload_n F dL_law_1054 (i := 2) rfl 3 rfl ?_
    refine wa_aload_n F dL_law_1055 (i := 0) rfl 5 rfl ?_
    refine wa_iload F dL_law_1056 1 rfl ?_
    refine wa_iconst (v := 1) F dL_law_1058 (by decide) ?_
    refine wa_iaddN F dL_law_1059 (a := 5 * t) (b := 1) rfl rfl ?_
    refine wa_sld F hX hbs hbl had1 ((5 * t) + 1) rfl (by omega) hL dL_law_1060 ?_
    refine wa_aload_n F dL_law_1061 (i := 0) rfl 5 rfl ?_
    refine wa_iload F dL_law_1062 1 rfl ?_
    refine wa_iconst (v := 2) F dL_law_1064 (by decide) ?_
    refine wa_iaddN F dL_law_1065 (a := 5 * t) (b := 2) rfl rfl ?_
    refine wa_sld F hX hbs hbl had1 ((5 * t) + 2) rfl (by omega) hL dL_law_1066 ?_
    refine wa_if_eq (tgt := 1074) F dL_law_1067 (by decide) (fun z => absurd z c1040) (fun _ => ?_)
    refine wa_iconst (v := 1) F dL_law_1070 (by decide) ?_
    refine wa_goto (tgt := 1075) F dL_law_1071 (by decide) ?_
    refine wa_callV F [] (c_X6_suspend hst D TC s.heap ad1 (kU (kSu S (xs ((5 * t) + 1))) (uSu (xs ((5 * t) + 1)) true) S) S (kO (kSu S (xs ((5 * t) + 1))) (rSu S (xs ((5 * t) + 1))) o) (xs ((5 * t) + 1)) true t hi) mw_X6_suspend ml_L_169 hm_m rfl rfl (Nat.le_of_ble_eq_true rfl) ⟨(Nat.le_of_ble_eq_true rfl), (Nat.le_of_ble_eq_true rfl)⟩ ⟨show _ ≤ 601024 by omega, show _ ≤ 7293034 by omega⟩ dL_law_1075 PR_ag (fun _ z => z.elim) ?_
    rintro _ _ _ ⟨rfl, rfl, rfl⟩
    rw [mS_eq (S := S) (fun w => c0_suspend), hall_ag (X := (kU (kSu S (xs ((5 * t) + 1))) (uSu (xs ((5 * t) + 1)) true) S)) ag_0]
    refine wa_istore (lv' := [(6, .int (mR (kSu S (xs ((5 * t) + 1))) (rSu S (xs ((5 * t) + 1))))), (5, .int (kSu S (xs ((5 * t) + 1)))), (4, .int (nI (5 * t))), (3, .ref 1), (2, .ref 2), (1, .ref 0), (0, .ref 3)]) F dL_law_1078 (by decide) rfl ?_
    refine wa_aload_n F dL_law_1080 (i := 2) rfl 4 rfl ?_
    refine wa_callV F [] (c_X6_thrown hst D TC s.heap ad1 (sU (kU (kSu S (xs ((5 * t) + 1))) (uSu (xs ((5 * t) + 1)) true) S) 0 0 (kSu S (xs ((5 * t) + 1)))) (sU (kU (kSu S (xs ((5 * t) + 1))) (uSu (xs ((5 * t) + 1)) true) S) 0 0 (kSu S (xs ((5 * t) + 1)))) (kO (kSu S (xs ((5 * t) + 1))) (rSu S (xs ((5 * t) + 1))) o)) mw_X6_thrown ml_L_126 hm_m rfl rfl (Nat.le_of_ble_eq_true rfl) ⟨(Nat.le_of_ble_eq_true rfl), (Nat.le_of_ble_eq_true rfl)⟩ ⟨show _ ≤ 601024 by omega, show _ ≤ 7293034 by omega⟩ dL_law_1081 PR_ag (fun _ z => z.elim) ?_
    rintro _ _ _ ⟨rfl, rfl, rfl⟩
    rw [show (sU (kU (kSu S (xs ((5 * t) + 1))) (uSu (xs ((5 * t) + 1)) true) S) 0 0 (kSu S (xs ((5 * t) + 1)))) 0 0 = kSu S (xs ((5 * t) + 1)) from by rw [sU_eq, if_pos rfl]]
    refine wa_iload F dL_law_1084 1 rfl ?_
    refine wa_icmp_eq (tgt := 1091) F dL_law_1086 (by decide) (fun _ => ?_) (fun z => absurd rfl z)
    refine wa_iload F dL_law_1091 1 rfl ?_
    refine wa_if_ne (tgt := 1115) F dL_law_1093 (by decide) (fun c1093 => ?_) (fun c1093 => ?_)
    · skip
      refine wa_goto (tgt := 2469) F dL_law_1115 (by decide) ?_
      refine wa_lv (lv' := [(4, .int (nI (5 * t))), (3, .ref 1), (2, .ref 2), (1, .ref 0), (0, .ref 3)]) [2, 3, 4, 5, 6] rfl ?_
      refine wa_widen (k := cells + 4) (n := slots + 39) (by omega) (by omega) ?_
      exact K _ _ _ (INV_0 hiX) had1
    · skip
      have eo : (kO (kSu S (xs ((5 * t) + 1))) (rSu S (xs ((5 * t) + 1))) o) 0 = (rSu S (xs ((5 * t) + 1))).toInt64 := by rw [c1093, kO_0]; exact if_pos rfl
      have er : mR (kSu S (xs ((5 * t) + 1))) (rSu S (xs ((5 * t) + 1))) = rSu S (xs ((5 * t) + 1)) := by rw [c1093, mR_0]
      refine wa_aload_n F dL_law_1096 (i := 3) rfl 3 rfl ?_
      refine wa_iconst (v := 0) F dL_law_1097 (by decide) ?_
      refine wa_lald F 1 rfl (hm_o (TC := TC) (X := (sU (kU (kSu S (xs ((5 * t) + 1))) (uSu (xs ((5 * t) + 1)) true) S) 0 0 (kSu S (xs ((5 * t) + 1))))) (S := (sU (kU (kSu S (xs ((5 * t) + 1))) (uSu (xs ((5 * t) + 1)) true) S) 0 0 (kSu S (xs ((5 * t) + 1))))) (o := (kO (kSu S (xs ((5 * t) + 1))) (rSu S (xs ((5 * t) + 1))) o))) 0 rfl (by decide) (by decide) dL_law_1098 ?_
      refine wa_iload F dL_law_1099 0 rfl ?_
      refine wa_if_eq (tgt := 1108) F dL_law_1101 (by decide) (fun c1101 => ?_) (fun c1101 => ?_)
      · skip
        have eo2 : (kO (kSu S (xs ((5 * t) + 1))) (rSu S (xs ((5 * t) + 1))) o) 0 = 0 := by rw [eo, ← er]; exact b64f c1101
        refine wa_lconst (v := 0) F dL_law_1108 (by decide) ?_
        refine wa_lcmp F dL_law_1109 ?_
        refine wa_if_eq (tgt := 1115) F dL_law_1110 (by decide) (fun _ => ?_) (fun z => absurd ((lg_cmp_eq _ _).mpr eo2) z)
        refine wa_goto (tgt := 2469) F dL_law_1115 (by decide) ?_
        refine wa_lv (lv' := [(4, .int (nI (5 * t))), (3, .ref 1), (2, .ref 2), (1, .ref 0), (0, .ref 3)]) [2, 3, 4, 5, 6] rfl ?_
        refine wa_widen (k := cells + 4) (n := slots + 39) (by omega) (by omega) ?_
        exact K _ _ _ (INV_0 hiX) had1
      · skip
        have eo2 : (kO (kSu S (xs ((5 * t) + 1))) (rSu S (xs ((5 * t) + 1))) o) 0 = 1 := by rw [eo]; exact b64t rfl (by rw [← er]; exact c1101)
        refine wa_lconst (v := 1) F dL_law_1104 (by decide) ?_
        refine wa_goto (tgt := 1109) F dL_law_1105 (by decide) ?_
        refine wa_lcmp F dL_law_1109 ?_
        refine wa_if_eq (tgt := 1115) F dL_law_1110 (by decide) (fun _ => ?_) (fun z => absurd ((lg_cmp_eq _ _).mpr eo2) z)
        refine wa_goto (tgt := 2469) F dL_law_1115 (by decide) ?_
        refine wa_lv (lv' := [(4, .int (nI (5 * t))), (3, .ref 1), (2, .ref 2), (1, .ref 0), (0, .ref 3)]) [2, 3, 4, 5, 6] rfl ?_
        refine wa_widen (k := cells + 4) (n := slots + 39) (by omega) (by omega) ?_
        exact K _ _ _ (INV_0 hiX) had1
set_option maxHeartbeats 4000000 in
set_option maxRecDepth 20000 in
theorem law_13 {p : Program} {l : Launch} {e : Env} {s : State} {m : MethodId} {below : List Frame} {meth : Method} {c : Code} {b L : Nat} {xs : Nat → Int32} {D : va_G} {TC : Nat → ClassId} {Q : State → Prop} {ret : Option FieldType} {nm : String} {tb : List ExceptionTableEntry} (F : FX D (tysOf TC) s.heap p l s m #[.ref b] meth c RL cL_law 7 ret nm tb) (hst : l.stackTraces = false) (hX : va_X b L xs s s.heap) (hbs : b < s.heap.size) (hbl : b < s.heap.size) (hL : L < 2 ^ 31)
    (ad : Nat → Nat) (had : ad 3 = b) (S : St) (o : Nat → Int64) (t : Nat) (hi : INV t S) (ht : t < 512) (h5 : 5 * t + 5 ≤ L) (cells slots : Nat) (hcl : cells + 4 ≤ 601024) (hsl : slots + 39 ≤ 7293034)
    (K : ∀ (S1 : St) (o1 : Nat → Int64) (ad1 : Nat → Nat), INV (t + 1) S1 → ad1 3 = b → WA D s.heap p l e room_1 s m #[.ref b] below meth c 7 Q ad1 (hall TC S1 S1 o1) (cells + 4) (slots + 39) 2469 [(4, .int (nI (5 * t))), (3, .ref 1), (2, .ref 2), (1, .ref 0), (0, .ref 3)] []) : WA D s.heap p l e room_1 s m #[.ref b] below meth c 7 Q ad (hall TC S S o) cells slots 1118 [(4, .int (nI (5 * t))), (3, .ref 1), (2, .ref 2), (1, .ref 0), (0, .ref 3)] [] := by
  refine wa_aload_n F dL_law_1118 (i := 1) rfl 3 rfl ?_
  refine wa_aload_n F dL_law_1119 (i := 0) rfl 4 rfl ?_
  refine wa_iload F dL_law_1120 0 rfl ?_
  refine wa_iconst (v := 1) F dL_law_1122 (by decide) ?_
  refine wa_iaddN F dL_law_1123 (a := 5 * t) (b := 1) rfl rfl ?_
  refine wa_sld F hX hbs hbl had ((5 * t) + 1) rfl (by omega) hL dL_law_1124 ?_
  refine wa_aload_n F dL_law_1125 (i := 0) rfl 4 rfl ?_
  refine wa_iload F dL_law_1126 0 rfl ?_
  refine wa_iconst (v := 2) F dL_law_1128 (by decide) ?_
  refine wa_iaddN F dL_law_1129 (a := 5 * t) (b := 2) rfl rfl ?_
  refine wa_sld F hX hbs hbl had ((5 * t) + 2) rfl (by omega) hL dL_law_1130 ?_
  refine wa_aload_n F dL_law_1131 (i := 0) rfl 4 rfl ?_
  refine wa_iload F dL_law_1132 0 rfl ?_
  refine wa_iconst (v := 3) F dL_law_1134 (by decide) ?_
  refine wa_iaddN F dL_law_1135 (a := 5 * t) (b := 3) rfl rfl ?_
  refine wa_sld F hX hbs hbl had ((5 * t) + 3) rfl (by omega) hL dL_law_1136 ?_
  refine wa_aload_n F dL_law_1137 (i := 3) rfl 1 rfl ?_
  have hiX : INV (t + 1) (kU (kCe S (xs ((5 * t) + 1)) (xs ((5 * t) + 2)) (xs ((5 * t) + 3))) (uCe (xs ((5 * t) + 1)) (xs ((5 * t) + 2)) (xs ((5 * t) + 3))) S) := (st_certify hi)
  have hnr3 : noRef (hall TC (kU (kCe S (xs ((5 * t) + 1)) (xs ((5 * t) + 2)) (xs ((5 * t) + 3))) (uCe (xs ((5 * t) + 1)) (xs ((5 * t) + 2)) (xs ((5 * t) + 3))) S) S (kO (kCe S (xs ((5 * t) + 1)) (xs ((5 * t) + 2)) (xs ((5 * t) + 3))) (rCe S (xs ((5 * t) + 3))) o)) 3 := hall_nr (Or.inl rfl) rfl hiX.1.2 hiX.2.1.2 hiX.2.2.1.2 hiX.2.2.2.1.2 hiX.2.2.2.2.1.2 hiX.2.2.2.2.2.2.2.1
  refine wa_callH3 F [] (c_L_certify hst D TC s.heap ad S S o (xs ((5 * t) + 1)) (xs ((5 * t) + 2)) (xs ((5 * t) + 3)) t hi) mw_L_certify ml_L_170 rfl hnr3 rfl (Nat.le_of_ble_eq_true rfl) ⟨(Nat.le_of_ble_eq_true rfl), (Nat.le_of_ble_eq_true rfl)⟩ ⟨show _ ≤ 601024 by omega, show _ ≤ 7293034 by omega⟩ dL_law_1138 (by intro y hy; simp only [List.mem_cons, List.not_mem_nil, or_false] at hy; rcases hy with rfl | rfl | rfl | rfl | rfl <;> intro z hz <;> first | (cases hz; exact Or.inl rfl) | (cases hz; exact Or.inr (by simp [hm_c, hm_m, hm_o])) | cases hz) rfl ?_
  intro ad1 had1
  replace had1 : ad1 3 = b := had1.trans had
  refine wa_istore (lv' := [(5, .int (kCe S (xs ((5 * t) + 1)) (xs ((5 * t) + 2)) (xs ((5 * t) + 3)))), (4, .int (nI (5 * t))), (3, .ref 1), (2, .ref 2), (1, .ref 0), (0, .ref 3)]) F dL_law_1141 (by decide) rfl ?_
  refine wa_aload_n F dL_law_1143 (i := 2) rfl 3 rfl ?_
  refine wa_aload_n F dL_law_1144 (i := 0) rfl 5 rfl ?_
  refine wa_iload F dL_law_1145 1 rfl ?_
  refine wa_iconst (v := 1) F dL_law_1147 (by decide) ?_
  refine wa_iaddN F dL_law_1148 (a := 5 * t) (b := 1) rfl rfl ?_
  refine wa_sld F hX hbs hbl had1 ((5 * t) + 1) rfl (by omega) hL dL_law_1149 ?_
  refine wa_aload_n F dL_law_1150 (i := 0) rfl 5 rfl ?_
  refine wa_iload F dL_law_1151 1 rfl ?_
  refine wa_iconst (v := 2) F dL_law_1153 (by decide) ?_
  refine wa_iaddN F dL_law_1154 (a := 5 * t) (b := 2) rfl rfl ?_
  refine wa_sld F hX hbs hbl had1 ((5 * t) + 2) rfl (by omega) hL dL_law_1155 ?_
  refine wa_aload_n F dL_law_1156 (i := 0) rfl 5 rfl ?_
  refine wa_iload F dL_law_1157 1 rfl ?_
  refine wa_iconst (v := 3) F dL_law_1159 (by decide) ?_
  refine wa_iaddN F dL_law_1160 (a := 5 * t) (b := 3) rfl rfl ?_
  refine wa_sld F hX hbs hbl had1 ((5 * t) + 3) rfl (by omega) hL dL_law_1161 ?_
  refine wa_callV F [] (c_X6_certify hst D TC s.heap ad1 (kU (kCe S (xs ((5 * t) + 1)) (xs ((5 * t) + 2)) (xs ((5 * t) + 3))) (uCe (xs ((5 * t) + 1)) (xs ((5 * t) + 2)) (xs ((5 * t) + 3))) S) S (kO (kCe S (xs ((5 * t) + 1)) (xs ((5 * t) + 2)) (xs ((5 * t) + 3))) (rCe S (xs ((5 * t) + 3))) o) (xs ((5 * t) + 1)) (xs ((5 * t) + 2)) (xs ((5 * t) + 3)) t hi) mw_X6_certify ml_L_172 hm_m rfl rfl (Nat.le_of_ble_eq_true rfl) ⟨(Nat.le_of_ble_eq_true rfl), (Nat.le_of_ble_eq_true rfl)⟩ ⟨show _ ≤ 601024 by omega, show _ ≤ 7293034 by omega⟩ dL_law_1162 PR_ag (fun _ z => z.elim) ?_
  rintro _ _ _ ⟨rfl, rfl, rfl⟩
  rw [mS_eq (S := S) (fun w => c0_certify), hall_ag (X := (kU (kCe S (xs ((5 * t) + 1)) (xs ((5 * t) + 2)) (xs ((5 * t) + 3))) (uCe (xs ((5 * t) + 1)) (xs ((5 * t) + 2)) (xs ((5 * t) + 3))) S)) ag_0]
  refine wa_istore (lv' := [(6, .int (mR (kCe S (xs ((5 * t) + 1)) (xs ((5 * t) + 2)) (xs ((5 * t) + 3))) (rCe S (xs ((5 * t) + 3))))), (5, .int (kCe S (xs ((5 * t) + 1)) (xs ((5 * t) + 2)) (xs ((5 * t) + 3)))), (4, .int (nI (5 * t))), (3, .ref 1), (2, .ref 2), (1, .ref 0), (0, .ref 3)]) F dL_law_1165 (by decide) rfl ?_
  refine wa_aload_n F dL_law_1167 (i := 2) rfl 4 rfl ?_
  refine wa_callV F [] (c_X6_thrown hst D TC s.heap ad1 (sU (kU (kCe S (xs ((5 * t) + 1)) (xs ((5 * t) + 2)) (xs ((5 * t) + 3))) (uCe (xs ((5 * t) + 1)) (xs ((5 * t) + 2)) (xs ((5 * t) + 3))) S) 0 0 (kCe S (xs ((5 * t) + 1)) (xs ((5 * t) + 2)) (xs ((5 * t) + 3)))) (sU (kU (kCe S (xs ((5 * t) + 1)) (xs ((5 * t) + 2)) (xs ((5 * t) + 3))) (uCe (xs ((5 * t) + 1)) (xs ((5 * t) + 2)) (xs ((5 * t) + 3))) S) 0 0 (kCe S (xs ((5 * t) + 1)) (xs ((5 * t) + 2)) (xs ((5 * t) + 3)))) (kO (kCe S (xs ((5 * t) + 1)) (xs ((5 * t) + 2)) (xs ((5 * t) + 3))) (rCe S (xs ((5 * t) + 3))) o)) mw_X6_thrown ml_L_126 hm_m rfl rfl (Nat.le_of_ble_eq_true rfl) ⟨(Nat.le_of_ble_eq_true rfl), (Nat.le_of_ble_eq_true rfl)⟩ ⟨show _ ≤ 601024 by omega, show _ ≤ 7293034 by omega⟩ dL_law_1168 PR_ag (fun _ z => z.elim) ?_
  rintro _ _ _ ⟨rfl, rfl, rfl⟩
  rw [show (sU (kU (kCe S (xs ((5 * t) + 1)) (xs ((5 * t) + 2)) (xs ((5 * t) + 3))) (uCe (xs ((5 * t) + 1)) (xs ((5 * t) + 2)) (xs ((5 * t) + 3))) S) 0 0 (kCe S (xs ((5 * t) + 1)) (xs ((5 * t) + 2)) (xs ((5 * t) + 3)))) 0 0 = kCe S (xs ((5 * t) + 1)) (xs ((5 * t) + 2)) (xs ((5 * t) + 3)) from by rw [sU_eq, if_pos rfl]]
  refine wa_iload F dL_law_1171 1 rfl ?_
  refine wa_icmp_eq (tgt := 1178) F dL_law_1173 (by decide) (fun _ => ?_) (fun z => absurd rfl z)
  refine wa_iload F dL_law_1178 1 rfl ?_
  refine wa_if_ne (tgt := 1195) F dL_law_1180 (by decide) (fun c1180 => ?_) (fun c1180 => ?_)
  · skip
    refine wa_goto (tgt := 2469) F dL_law_1195 (by decide) ?_
    refine wa_lv (lv' := [(4, .int (nI (5 * t))), (3, .ref 1), (2, .ref 2), (1, .ref 0), (0, .ref 3)]) [2, 3, 4, 5, 6] rfl ?_
    refine wa_widen (k := cells + 4) (n := slots + 39) (by omega) (by omega) ?_
    exact K _ _ _ (INV_0 hiX) had1
  · skip
    have eo : (kO (kCe S (xs ((5 * t) + 1)) (xs ((5 * t) + 2)) (xs ((5 * t) + 3))) (rCe S (xs ((5 * t) + 3))) o) 0 = (rCe S (xs ((5 * t) + 3))).toInt64 := by rw [c1180, kO_0]; exact if_pos rfl
    have er : mR (kCe S (xs ((5 * t) + 1)) (xs ((5 * t) + 2)) (xs ((5 * t) + 3))) (rCe S (xs ((5 * t) + 3))) = rCe S (xs ((5 * t) + 3)) := by rw [c1180, mR_0]
    refine wa_aload_n F dL_law_1183 (i := 3) rfl 3 rfl ?_
    refine wa_iconst (v := 0) F dL_law_1184 (by decide) ?_
    refine wa_lald F 1 rfl (hm_o (TC := TC) (X := (sU (kU (kCe S (xs ((5 * t) + 1)) (xs ((5 * t) + 2)) (xs ((5 * t) + 3))) (uCe (xs ((5 * t) + 1)) (xs ((5 * t) + 2)) (xs ((5 * t) + 3))) S) 0 0 (kCe S (xs ((5 * t) + 1)) (xs ((5 * t) + 2)) (xs ((5 * t) + 3))))) (S := (sU (kU (kCe S (xs ((5 * t) + 1)) (xs ((5 * t) + 2)) (xs ((5 * t) + 3))) (uCe (xs ((5 * t) + 1)) (xs ((5 * t) + 2)) (xs ((5 * t) + 3))) S) 0 0 (kCe S (xs ((5 * t) + 1)) (xs ((5 * t) + 2)) (xs ((5 * t) + 3))))) (o := (kO (kCe S (xs ((5 * t) + 1)) (xs ((5 * t) + 2)) (xs ((5 * t) + 3))) (rCe S (xs ((5 * t) + 3))) o))) 0 rfl (by decide) (by decide) dL_law_1185 ?_
    refine wa_iload F dL_law_1186 0 rfl ?_
    refine wa_i2l F dL_law_1188 rfl ?_
    have eo1 : (kO (kCe S (xs ((5 * t) + 1)) (xs ((5 * t) + 2)) (xs ((5 * t) + 3))) (rCe S (xs ((5 * t) + 3))) o) 0 = (mR (kCe S (xs ((5 * t) + 1)) (xs ((5 * t) + 2)) (xs ((5 * t) + 3))) (rCe S (xs ((5 * t) + 3)))).toInt64 := by rw [er]; exact eo
    refine wa_lcmp F dL_law_1189 ?_
    refine wa_if_eq (tgt := 1195) F dL_law_1190 (by decide) (fun _ => ?_) (fun z => absurd ((lg_cmp_eq _ _).mpr eo1) z)
    refine wa_goto (tgt := 2469) F dL_law_1195 (by decide) ?_
    refine wa_lv (lv' := [(4, .int (nI (5 * t))), (3, .ref 1), (2, .ref 2), (1, .ref 0), (0, .ref 3)]) [2, 3, 4, 5, 6] rfl ?_
    refine wa_widen (k := cells + 4) (n := slots + 39) (by omega) (by omega) ?_
    exact K _ _ _ (INV_0 hiX) had1
set_option maxHeartbeats 4000000 in
set_option maxRecDepth 20000 in
theorem law_14 {p : Program} {l : Launch} {e : Env} {s : State} {m : MethodId} {below : List Frame} {meth : Method} {c : Code} {b L : Nat} {xs : Nat → Int32} {D : va_G} {TC : Nat → ClassId} {Q : State → Prop} {ret : Option FieldType} {nm : String} {tb : List ExceptionTableEntry} (F : FX D (tysOf TC) s.heap p l s m #[.ref b] meth c RL cL_law 7 ret nm tb) (hst : l.stackTraces = false) (hX : va_X b L xs s s.heap) (hbs : b < s.heap.size) (hbl : b < s.heap.size) (hL : L < 2 ^ 31)
    (ad : Nat → Nat) (had : ad 3 = b) (S : St) (o : Nat → Int64) (t : Nat) (hi : INV t S) (ht : t < 512) (h5 : 5 * t + 5 ≤ L) (cells slots : Nat) (hcl : cells + 4 ≤ 601024) (hsl : slots + 39 ≤ 7293034)
    (K : ∀ (S1 : St) (o1 : Nat → Int64) (ad1 : Nat → Nat), INV (t + 1) S1 → ad1 3 = b → WA D s.heap p l e room_1 s m #[.ref b] below meth c 7 Q ad1 (hall TC S1 S1 o1) (cells + 4) (slots + 39) 2469 [(4, .int (nI (5 * t))), (3, .ref 1), (2, .ref 2), (1, .ref 0), (0, .ref 3)] []) : WA D s.heap p l e room_1 s m #[.ref b] below meth c 7 Q ad (hall TC S S o) cells slots 1198 [(4, .int (nI (5 * t))), (3, .ref 1), (2, .ref 2), (1, .ref 0), (0, .ref 3)] [] := by
  refine wa_aload_n F dL_law_1198 (i := 1) rfl 3 rfl ?_
  refine wa_aload_n F dL_law_1199 (i := 0) rfl 4 rfl ?_
  refine wa_iload F dL_law_1200 0 rfl ?_
  refine wa_iconst (v := 1) F dL_law_1202 (by decide) ?_
  refine wa_iaddN F dL_law_1203 (a := 5 * t) (b := 1) rfl rfl ?_
  refine wa_sld F hX hbs hbl had ((5 * t) + 1) rfl (by omega) hL dL_law_1204 ?_
  refine wa_aload_n F dL_law_1205 (i := 0) rfl 4 rfl ?_
  refine wa_iload F dL_law_1206 0 rfl ?_
  refine wa_iconst (v := 2) F dL_law_1208 (by decide) ?_
  refine wa_iaddN F dL_law_1209 (a := 5 * t) (b := 2) rfl rfl ?_
  refine wa_sld F hX hbs hbl had ((5 * t) + 2) rfl (by omega) hL dL_law_1210 ?_
  refine wa_aload_n F dL_law_1211 (i := 3) rfl 1 rfl ?_
  have hiX : INV (t + 1) (kU (kTr S (xs ((5 * t) + 1)) (xs ((5 * t) + 2))) (uTr (xs ((5 * t) + 1)) (xs ((5 * t) + 2))) S) := (st_transfer hi)
  have hnr3 : noRef (hall TC (kU (kTr S (xs ((5 * t) + 1)) (xs ((5 * t) + 2))) (uTr (xs ((5 * t) + 1)) (xs ((5 * t) + 2))) S) S (kO (kTr S (xs ((5 * t) + 1)) (xs ((5 * t) + 2))) (rTr S (xs ((5 * t) + 1))) o)) 3 := hall_nr (Or.inl rfl) rfl hiX.1.2 hiX.2.1.2 hiX.2.2.1.2 hiX.2.2.2.1.2 hiX.2.2.2.2.1.2 hiX.2.2.2.2.2.2.2.1
  refine wa_callH3 F [] (c_L_transfer hst D TC s.heap ad S S o (xs ((5 * t) + 1)) (xs ((5 * t) + 2)) t hi) mw_L_transfer ml_L_173 rfl hnr3 rfl (Nat.le_of_ble_eq_true rfl) ⟨(Nat.le_of_ble_eq_true rfl), (Nat.le_of_ble_eq_true rfl)⟩ ⟨show _ ≤ 601024 by omega, show _ ≤ 7293034 by omega⟩ dL_law_1212 (by intro y hy; simp only [List.mem_cons, List.not_mem_nil, or_false] at hy; rcases hy with rfl | rfl | rfl | rfl | rfl <;> intro z hz <;> first | (cases hz; exact Or.inl rfl) | (cases hz; exact Or.inr (by simp [hm_c, hm_m, hm_o])) | cases hz) rfl ?_
  intro ad1 had1
  replace had1 : ad1 3 = b := had1.trans had
  refine wa_istore (lv' := [(5, .int (kTr S (xs ((5 * t) + 1)) (xs ((5 * t) + 2)))), (4, .int (nI (5 * t))), (3, .ref 1), (2, .ref 2), (1, .ref 0), (0, .ref 3)]) F dL_law_1215 (by decide) rfl ?_
  refine wa_aload_n F dL_law_1217 (i := 2) rfl 3 rfl ?_
  refine wa_aload_n F dL_law_1218 (i := 0) rfl 5 rfl ?_
  refine wa_iload F dL_law_1219 1 rfl ?_
  refine wa_iconst (v := 1) F dL_law_1221 (by decide) ?_
  refine wa_iaddN F dL_law_1222 (a := 5 * t) (b := 1) rfl rfl ?_
  refine wa_sld F hX hbs hbl had1 ((5 * t) + 1) rfl (by omega) hL dL_law_1223 ?_
  refine wa_aload_n F dL_law_1224 (i := 0) rfl 5 rfl ?_
  refine wa_iload F dL_law_1225 1 rfl ?_
  refine wa_iconst (v := 2) F dL_law_1227 (by decide) ?_
  refine wa_iaddN F dL_law_1228 (a := 5 * t) (b := 2) rfl rfl ?_
  refine wa_sld F hX hbs hbl had1 ((5 * t) + 2) rfl (by omega) hL dL_law_1229 ?_
  refine wa_callV F [] (c_X6_transfer hst D TC s.heap ad1 (kU (kTr S (xs ((5 * t) + 1)) (xs ((5 * t) + 2))) (uTr (xs ((5 * t) + 1)) (xs ((5 * t) + 2))) S) S (kO (kTr S (xs ((5 * t) + 1)) (xs ((5 * t) + 2))) (rTr S (xs ((5 * t) + 1))) o) (xs ((5 * t) + 1)) (xs ((5 * t) + 2)) t hi) mw_X6_transfer ml_L_175 hm_m rfl rfl (Nat.le_of_ble_eq_true rfl) ⟨(Nat.le_of_ble_eq_true rfl), (Nat.le_of_ble_eq_true rfl)⟩ ⟨show _ ≤ 601024 by omega, show _ ≤ 7293034 by omega⟩ dL_law_1230 PR_ag (fun _ z => z.elim) ?_
  rintro _ _ _ ⟨rfl, rfl, rfl⟩
  rw [mS_eq (S := S) (fun w => c0_transfer), hall_ag (X := (kU (kTr S (xs ((5 * t) + 1)) (xs ((5 * t) + 2))) (uTr (xs ((5 * t) + 1)) (xs ((5 * t) + 2))) S)) ag_0]
  refine wa_istore (lv' := [(6, .int (mR (kTr S (xs ((5 * t) + 1)) (xs ((5 * t) + 2))) (rTr S (xs ((5 * t) + 1))))), (5, .int (kTr S (xs ((5 * t) + 1)) (xs ((5 * t) + 2)))), (4, .int (nI (5 * t))), (3, .ref 1), (2, .ref 2), (1, .ref 0), (0, .ref 3)]) F dL_law_1233 (by decide) rfl ?_
  refine wa_aload_n F dL_law_1235 (i := 2) rfl 4 rfl ?_
  refine wa_callV F [] (c_X6_thrown hst D TC s.heap ad1 (sU (kU (kTr S (xs ((5 * t) + 1)) (xs ((5 * t) + 2))) (uTr (xs ((5 * t) + 1)) (xs ((5 * t) + 2))) S) 0 0 (kTr S (xs ((5 * t) + 1)) (xs ((5 * t) + 2)))) (sU (kU (kTr S (xs ((5 * t) + 1)) (xs ((5 * t) + 2))) (uTr (xs ((5 * t) + 1)) (xs ((5 * t) + 2))) S) 0 0 (kTr S (xs ((5 * t) + 1)) (xs ((5 * t) + 2)))) (kO (kTr S (xs ((5 * t) + 1)) (xs ((5 * t) + 2))) (rTr S (xs ((5 * t) + 1))) o)) mw_X6_thrown ml_L_126 hm_m rfl rfl (Nat.le_of_ble_eq_true rfl) ⟨(Nat.le_of_ble_eq_true rfl), (Nat.le_of_ble_eq_true rfl)⟩ ⟨show _ ≤ 601024 by omega, show _ ≤ 7293034 by omega⟩ dL_law_1236 PR_ag (fun _ z => z.elim) ?_
  rintro _ _ _ ⟨rfl, rfl, rfl⟩
  rw [show (sU (kU (kTr S (xs ((5 * t) + 1)) (xs ((5 * t) + 2))) (uTr (xs ((5 * t) + 1)) (xs ((5 * t) + 2))) S) 0 0 (kTr S (xs ((5 * t) + 1)) (xs ((5 * t) + 2)))) 0 0 = kTr S (xs ((5 * t) + 1)) (xs ((5 * t) + 2)) from by rw [sU_eq, if_pos rfl]]
  refine wa_iload F dL_law_1239 1 rfl ?_
  refine wa_icmp_eq (tgt := 1246) F dL_law_1241 (by decide) (fun _ => ?_) (fun z => absurd rfl z)
  refine wa_iload F dL_law_1246 1 rfl ?_
  refine wa_if_ne (tgt := 1263) F dL_law_1248 (by decide) (fun c1248 => ?_) (fun c1248 => ?_)
  · skip
    refine wa_goto (tgt := 2469) F dL_law_1263 (by decide) ?_
    refine wa_lv (lv' := [(4, .int (nI (5 * t))), (3, .ref 1), (2, .ref 2), (1, .ref 0), (0, .ref 3)]) [2, 3, 4, 5, 6] rfl ?_
    refine wa_widen (k := cells + 4) (n := slots + 39) (by omega) (by omega) ?_
    exact K _ _ _ (INV_0 hiX) had1
  · skip
    have eo : (kO (kTr S (xs ((5 * t) + 1)) (xs ((5 * t) + 2))) (rTr S (xs ((5 * t) + 1))) o) 0 = (rTr S (xs ((5 * t) + 1))).toInt64 := by rw [c1248, kO_0]; exact if_pos rfl
    have er : mR (kTr S (xs ((5 * t) + 1)) (xs ((5 * t) + 2))) (rTr S (xs ((5 * t) + 1))) = rTr S (xs ((5 * t) + 1)) := by rw [c1248, mR_0]
    refine wa_aload_n F dL_law_1251 (i := 3) rfl 3 rfl ?_
    refine wa_iconst (v := 0) F dL_law_1252 (by decide) ?_
    refine wa_lald F 1 rfl (hm_o (TC := TC) (X := (sU (kU (kTr S (xs ((5 * t) + 1)) (xs ((5 * t) + 2))) (uTr (xs ((5 * t) + 1)) (xs ((5 * t) + 2))) S) 0 0 (kTr S (xs ((5 * t) + 1)) (xs ((5 * t) + 2))))) (S := (sU (kU (kTr S (xs ((5 * t) + 1)) (xs ((5 * t) + 2))) (uTr (xs ((5 * t) + 1)) (xs ((5 * t) + 2))) S) 0 0 (kTr S (xs ((5 * t) + 1)) (xs ((5 * t) + 2))))) (o := (kO (kTr S (xs ((5 * t) + 1)) (xs ((5 * t) + 2))) (rTr S (xs ((5 * t) + 1))) o))) 0 rfl (by decide) (by decide) dL_law_1253 ?_
    refine wa_iload F dL_law_1254 0 rfl ?_
    refine wa_i2l F dL_law_1256 rfl ?_
    have eo1 : (kO (kTr S (xs ((5 * t) + 1)) (xs ((5 * t) + 2))) (rTr S (xs ((5 * t) + 1))) o) 0 = (mR (kTr S (xs ((5 * t) + 1)) (xs ((5 * t) + 2))) (rTr S (xs ((5 * t) + 1)))).toInt64 := by rw [er]; exact eo
    refine wa_lcmp F dL_law_1257 ?_
    refine wa_if_eq (tgt := 1263) F dL_law_1258 (by decide) (fun _ => ?_) (fun z => absurd ((lg_cmp_eq _ _).mpr eo1) z)
    refine wa_goto (tgt := 2469) F dL_law_1263 (by decide) ?_
    refine wa_lv (lv' := [(4, .int (nI (5 * t))), (3, .ref 1), (2, .ref 2), (1, .ref 0), (0, .ref 3)]) [2, 3, 4, 5, 6] rfl ?_
    refine wa_widen (k := cells + 4) (n := slots + 39) (by omega) (by omega) ?_
    exact K _ _ _ (INV_0 hiX) had1
set_option maxHeartbeats 4000000 in
set_option maxRecDepth 20000 in
theorem law_15 {p : Program} {l : Launch} {e : Env} {s : State} {m : MethodId} {below : List Frame} {meth : Method} {c : Code} {b L : Nat} {xs : Nat → Int32} {D : va_G} {TC : Nat → ClassId} {Q : State → Prop} {ret : Option FieldType} {nm : String} {tb : List ExceptionTableEntry} (F : FX D (tysOf TC) s.heap p l s m #[.ref b] meth c RL cL_law 7 ret nm tb) (hst : l.stackTraces = false) (hX : va_X b L xs s s.heap) (hbs : b < s.heap.size) (hbl : b < s.heap.size) (hL : L < 2 ^ 31)
    (ad : Nat → Nat) (had : ad 3 = b) (S : St) (o : Nat → Int64) (t : Nat) (hi : INV t S) (ht : t < 512) (h5 : 5 * t + 5 ≤ L) (cells slots : Nat) (hcl : cells + 4 ≤ 601024) (hsl : slots + 39 ≤ 7293034)
    (K : ∀ (S1 : St) (o1 : Nat → Int64) (ad1 : Nat → Nat), INV (t + 1) S1 → ad1 3 = b → WA D s.heap p l e room_1 s m #[.ref b] below meth c 7 Q ad1 (hall TC S1 S1 o1) (cells + 4) (slots + 39) 2469 [(4, .int (nI (5 * t))), (3, .ref 1), (2, .ref 2), (1, .ref 0), (0, .ref 3)] []) : WA D s.heap p l e room_1 s m #[.ref b] below meth c 7 Q ad (hall TC S S o) cells slots 1266 [(4, .int (nI (5 * t))), (3, .ref 1), (2, .ref 2), (1, .ref 0), (0, .ref 3)] [] := by
  refine wa_aload_n F dL_law_1266 (i := 1) rfl 3 rfl ?_
  refine wa_aload_n F dL_law_1267 (i := 0) rfl 4 rfl ?_
  refine wa_iload F dL_law_1268 0 rfl ?_
  refine wa_iconst (v := 1) F dL_law_1270 (by decide) ?_
  refine wa_iaddN F dL_law_1271 (a := 5 * t) (b := 1) rfl rfl ?_
  refine wa_sld F hX hbs hbl had ((5 * t) + 1) rfl (by omega) hL dL_law_1272 ?_
  refine wa_aload_n F dL_law_1273 (i := 0) rfl 4 rfl ?_
  refine wa_iload F dL_law_1274 0 rfl ?_
  refine wa_iconst (v := 2) F dL_law_1276 (by decide) ?_
  refine wa_iaddN F dL_law_1277 (a := 5 * t) (b := 2) rfl rfl ?_
  refine wa_sld F hX hbs hbl had ((5 * t) + 2) rfl (by omega) hL dL_law_1278 ?_
  refine wa_if_eq (tgt := 1286) F dL_law_1279 (by decide) (fun c1279 => ?_) (fun c1279 => ?_)
  · skip
    refine wa_iconst (v := 0) F dL_law_1286 (by decide) ?_
    refine wa_aload_n F dL_law_1287 (i := 3) rfl 1 rfl ?_
    have hiX : INV (t + 1) (kU (kVi S (xs ((5 * t) + 1))) (uVi (xs ((5 * t) + 1)) false) S) := (st_visit hi)
    have hnr3 : noRef (hall TC (kU (kVi S (xs ((5 * t) + 1))) (uVi (xs ((5 * t) + 1)) false) S) S (kO (kVi S (xs ((5 * t) + 1))) (rVi S (xs ((5 * t) + 1)) false) o)) 3 := hall_nr (Or.inl rfl) rfl hiX.1.2 hiX.2.1.2 hiX.2.2.1.2 hiX.2.2.2.1.2 hiX.2.2.2.2.1.2 hiX.2.2.2.2.2.2.2.1
    refine wa_callH3 F [] (c_L_visit hst D TC s.heap ad S S o (xs ((5 * t) + 1)) false t hi) mw_L_visit ml_L_176 rfl hnr3 rfl (Nat.le_of_ble_eq_true rfl) ⟨(Nat.le_of_ble_eq_true rfl), (Nat.le_of_ble_eq_true rfl)⟩ ⟨show _ ≤ 601024 by omega, show _ ≤ 7293034 by omega⟩ dL_law_1288 (by intro y hy; simp only [List.mem_cons, List.not_mem_nil, or_false] at hy; rcases hy with rfl | rfl | rfl | rfl | rfl <;> intro z hz <;> first | (cases hz; exact Or.inl rfl) | (cases hz; exact Or.inr (by simp [hm_c, hm_m, hm_o])) | cases hz) rfl ?_
    intro ad1 had1
    replace had1 : ad1 3 = b := had1.trans had
    refine wa_istore (lv' := [(5, .int (kVi S (xs ((5 * t) + 1)))), (4, .int (nI (5 * t))), (3, .ref 1), (2, .ref 2), (1, .ref 0), (0, .ref 3)]) F dL_law_1291 (by decide) rfl ?_
    refine wa_aload_n F dL_law_1293 (i := 2) rfl 3 rfl ?_
    refine wa_aload_n F dL_law_1294 (i := 0) rfl 5 rfl ?_
    refine wa_iload F dL_law_1295 1 rfl ?_
    refine wa_iconst (v := 1) F dL_law_1297 (by decide) ?_
    refine wa_iaddN F dL_law_1298 (a := 5 * t) (b := 1) rfl rfl ?_
    refine wa_sld F hX hbs hbl had1 ((5 * t) + 1) rfl (by omega) hL dL_law_1299 ?_
    refine wa_aload_n F dL_law_1300 (i := 0) rfl 5 rfl ?_
    refine wa_iload F dL_law_1301 1 rfl ?_
    refine wa_iconst (v := 2) F dL_law_1303 (by decide) ?_
    refine wa_iaddN F dL_law_1304 (a := 5 * t) (b := 2) rfl rfl ?_
    refine wa_sld F hX hbs hbl had1 ((5 * t) + 2) rfl (by omega) hL dL_law_1305 ?_
    refine wa_if_eq (tgt := 1313) F dL_law_1306 (by decide) (fun _ => ?_) (fun z => absurd c1279 z)
    refine wa_iconst (v := 0) F dL_law_1313 (by decide) ?_
    refine wa_callV F [] (c_X6_visit hst D TC s.heap ad1 (kU (kVi S (xs ((5 * t) + 1))) (uVi (xs ((5 * t) + 1)) false) S) S (kO (kVi S (xs ((5 * t) + 1))) (rVi S (xs ((5 * t) + 1)) false) o) (xs ((5 * t) + 1)) false t hi) mw_X6_visit ml_L_178 hm_m rfl rfl (Nat.le_of_ble_eq_true rfl) ⟨(Nat.le_of_ble_eq_true rfl), (Nat.le_of_ble_eq_true rfl)⟩ ⟨show _ ≤ 601024 by omega, show _ ≤ 7293034 by omega⟩ dL_law_1314 PR_ag (fun _ z => z.elim) ?_
    rintro _ _ _ ⟨rfl, rfl, rfl⟩
    rw [mS_eq (S := S) (fun w => c0_visit), hall_ag (X := (kU (kVi S (xs ((5 * t) + 1))) (uVi (xs ((5 * t) + 1)) false) S)) ag_0]
    refine wa_istore (lv' := [(6, .int (mR (kVi S (xs ((5 * t) + 1))) (rVi S (xs ((5 * t) + 1)) false))), (5, .int (kVi S (xs ((5 * t) + 1)))), (4, .int (nI (5 * t))), (3, .ref 1), (2, .ref 2), (1, .ref 0), (0, .ref 3)]) F dL_law_1317 (by decide) rfl ?_
    refine wa_aload_n F dL_law_1319 (i := 2) rfl 4 rfl ?_
    refine wa_callV F [] (c_X6_thrown hst D TC s.heap ad1 (sU (kU (kVi S (xs ((5 * t) + 1))) (uVi (xs ((5 * t) + 1)) false) S) 0 0 (kVi S (xs ((5 * t) + 1)))) (sU (kU (kVi S (xs ((5 * t) + 1))) (uVi (xs ((5 * t) + 1)) false) S) 0 0 (kVi S (xs ((5 * t) + 1)))) (kO (kVi S (xs ((5 * t) + 1))) (rVi S (xs ((5 * t) + 1)) false) o)) mw_X6_thrown ml_L_126 hm_m rfl rfl (Nat.le_of_ble_eq_true rfl) ⟨(Nat.le_of_ble_eq_true rfl), (Nat.le_of_ble_eq_true rfl)⟩ ⟨show _ ≤ 601024 by omega, show _ ≤ 7293034 by omega⟩ dL_law_1320 PR_ag (fun _ z => z.elim) ?_
    rintro _ _ _ ⟨rfl, rfl, rfl⟩
    rw [show (sU (kU (kVi S (xs ((5 * t) + 1))) (uVi (xs ((5 * t) + 1)) false) S) 0 0 (kVi S (xs ((5 * t) + 1)))) 0 0 = kVi S (xs ((5 * t) + 1)) from by rw [sU_eq, if_pos rfl]]
    refine wa_iload F dL_law_1323 1 rfl ?_
    refine wa_icmp_eq (tgt := 1330) F dL_law_1325 (by decide) (fun _ => ?_) (fun z => absurd rfl z)
    refine wa_iload F dL_law_1330 1 rfl ?_
    refine wa_if_ne (tgt := 1354) F dL_law_1332 (by decide) (fun c1332 => ?_) (fun c1332 => ?_)
    · skip
      refine wa_goto (tgt := 2469) F dL_law_1354 (by decide) ?_
      refine wa_lv (lv' := [(4, .int (nI (5 * t))), (3, .ref 1), (2, .ref 2), (1, .ref 0), (0, .ref 3)]) [2, 3, 4, 5, 6] rfl ?_
      refine wa_widen (k := cells + 4) (n := slots + 39) (by omega) (by omega) ?_
      exact K _ _ _ (INV_0 hiX) had1
    · skip
      have eo : (kO (kVi S (xs ((5 * t) + 1))) (rVi S (xs ((5 * t) + 1)) false) o) 0 = (rVi S (xs ((5 * t) + 1)) false).toInt64 := by rw [c1332, kO_0]; exact if_pos rfl
      have er : mR (kVi S (xs ((5 * t) + 1))) (rVi S (xs ((5 * t) + 1)) false) = rVi S (xs ((5 * t) + 1)) false := by rw [c1332, mR_0]
      refine wa_aload_n F dL_law_1335 (i := 3) rfl 3 rfl ?_
      refine wa_iconst (v := 0) F dL_law_1336 (by decide) ?_
      refine wa_lald F 1 rfl (hm_o (TC := TC) (X := (sU (kU (kVi S (xs ((5 * t) + 1))) (uVi (xs ((5 * t) + 1)) false) S) 0 0 (kVi S (xs ((5 * t) + 1))))) (S := (sU (kU (kVi S (xs ((5 * t) + 1))) (uVi (xs ((5 * t) + 1)) false) S) 0 0 (kVi S (xs ((5 * t) + 1))))) (o := (kO (kVi S (xs ((5 * t) + 1))) (rVi S (xs ((5 * t) + 1)) false) o))) 0 rfl (by decide) (by decide) dL_law_1337 ?_
      refine wa_iload F dL_law_1338 0 rfl ?_
      refine wa_if_eq (tgt := 1347) F dL_law_1340 (by decide) (fun c1340 => ?_) (fun c1340 => ?_)
      · skip
        have eo2 : (kO (kVi S (xs ((5 * t) + 1))) (rVi S (xs ((5 * t) + 1)) false) o) 0 = 0 := by rw [eo, ← er]; exact b64f c1340
        refine wa_lconst (v := 0) F dL_law_1347 (by decide) ?_
        refine wa_lcmp F dL_law_1348 ?_
        refine wa_if_eq (tgt := 1354) F dL_law_1349 (by decide) (fun _ => ?_) (fun z => absurd ((lg_cmp_eq _ _).mpr eo2) z)
        refine wa_goto (tgt := 2469) F dL_law_1354 (by decide) ?_
        refine wa_lv (lv' := [(4, .int (nI (5 * t))), (3, .ref 1), (2, .ref 2), (1, .ref 0), (0, .ref 3)]) [2, 3, 4, 5, 6] rfl ?_
        refine wa_widen (k := cells + 4) (n := slots + 39) (by omega) (by omega) ?_
        exact K _ _ _ (INV_0 hiX) had1
      · skip
        have eo2 : (kO (kVi S (xs ((5 * t) + 1))) (rVi S (xs ((5 * t) + 1)) false) o) 0 = 1 := by rw [eo]; exact b64t rfl (by rw [← er]; exact c1340)
        refine wa_lconst (v := 1) F dL_law_1343 (by decide) ?_
        refine wa_goto (tgt := 1348) F dL_law_1344 (by decide) ?_
        refine wa_lcmp F dL_law_1348 ?_
        refine wa_if_eq (tgt := 1354) F dL_law_1349 (by decide) (fun _ => ?_) (fun z => absurd ((lg_cmp_eq _ _).mpr eo2) z)
        refine wa_goto (tgt := 2469) F dL_law_1354 (by decide) ?_
        refine wa_lv (lv' := [(4, .int (nI (5 * t))), (3, .ref 1), (2, .ref 2), (1, .ref 0), (0, .ref 3)]) [2, 3, 4, 5, 6] rfl ?_
        refine wa_widen (k := cells + 4) (n := slots + 39) (by omega) (by omega) ?_
        exact K _ _ _ (INV_0 hiX) had1
  · skip
    refine wa_iconst (v := 1) F dL_law_1282 (by decide) ?_
    refine wa_goto (tgt := 1287) F dL_law_1283 (by decide) ?_
    refine wa_aload_n F dL_law_1287 (i := 3) rfl 1 rfl ?_
    have hiX : INV (t + 1) (kU (kVi S (xs ((5 * t) + 1))) (uVi (xs ((5 * t) + 1)) true) S) := (st_visit hi)
    have hnr3 : noRef (hall TC (kU (kVi S (xs ((5 * t) + 1))) (uVi (xs ((5 * t) + 1)) true) S) S (kO (kVi S (xs ((5 * t) + 1))) (rVi S (xs ((5 * t) + 1)) true) o)) 3 := hall_nr (Or.inl rfl) rfl hiX.1.2 hiX.2.1.2 hiX.2.2.1.2 hiX.2.2.2.1.2 hiX.2.2.2.2.1.2 hiX.2.2.2.2.2.2.2.1
    refine wa_callH3 F [] (c_L_visit hst D TC s.heap ad S S o (xs ((5 * t) + 1)) true t hi) mw_L_visit ml_L_176 rfl hnr3 rfl (Nat.le_of_ble_eq_true rfl) ⟨(Nat.le_of_ble_eq_true rfl), (Nat.le_of_ble_eq_true rfl)⟩ ⟨show _ ≤ 601024 by omega, show _ ≤ 7293034 by omega⟩ dL_law_1288 (by intro y hy; simp only [List.mem_cons, List.not_mem_nil, or_false] at hy; rcases hy with rfl | rfl | rfl | rfl | rfl <;> intro z hz <;> first | (cases hz; exact Or.inl rfl) | (cases hz; exact Or.inr (by simp [hm_c, hm_m, hm_o])) | cases hz) rfl ?_
    intro ad1 had1
    replace had1 : ad1 3 = b := had1.trans had
    refine wa_istore (lv' := [(5, .int (kVi S (xs ((5 * t) + 1)))), (4, .int (nI (5 * t))), (3, .ref 1), (2, .ref 2), (1, .ref 0), (0, .ref 3)]) F dL_law_1291 (by decide) rfl ?_
    refine wa_aload_n F dL_law_1293 (i := 2) rfl 3 rfl ?_
    refine wa_aload_n F dL_law_1294 (i := 0) rfl 5 rfl ?_
    refine wa_iload F dL_law_1295 1 rfl ?_
    refine wa_iconst (v := 1) F dL_law_1297 (by decide) ?_
    refine wa_iaddN F dL_law_1298 (a := 5 * t) (b := 1) rfl rfl ?_
    refine wa_sld F hX hbs hbl had1 ((5 * t) + 1) rfl (by omega) hL dL_law_1299 ?_
    refine wa_aload_n F dL_law_1300 (i := 0) rfl 5 rfl ?_
    refine wa_iload F dL_law_1301 1 rfl ?_
    refine wa_iconst (v := 2) F dL_law_1303 (by decide) ?_
    refine wa_iaddN F dL_law_1304 (a := 5 * t) (b := 2) rfl rfl ?_
    refine wa_sld F hX hbs hbl had1 ((5 * t) + 2) rfl (by omega) hL dL_law_1305 ?_
    refine wa_if_eq (tgt := 1313) F dL_law_1306 (by decide) (fun z => absurd z c1279) (fun _ => ?_)
    refine wa_iconst (v := 1) F dL_law_1309 (by decide) ?_
    refine wa_goto (tgt := 1314) F dL_law_1310 (by decide) ?_
    refine wa_callV F [] (c_X6_visit hst D TC s.heap ad1 (kU (kVi S (xs ((5 * t) + 1))) (uVi (xs ((5 * t) + 1)) true) S) S (kO (kVi S (xs ((5 * t) + 1))) (rVi S (xs ((5 * t) + 1)) true) o) (xs ((5 * t) + 1)) true t hi) mw_X6_visit ml_L_178 hm_m rfl rfl (Nat.le_of_ble_eq_true rfl) ⟨(Nat.le_of_ble_eq_true rfl), (Nat.le_of_ble_eq_true rfl)⟩ ⟨show _ ≤ 601024 by omega, show _ ≤ 7293034 by omega⟩ dL_law_1314 PR_ag (fun _ z => z.elim) ?_
    rintro _ _ _ ⟨rfl, rfl, rfl⟩
    rw [mS_eq (S := S) (fun w => c0_visit), hall_ag (X := (kU (kVi S (xs ((5 * t) + 1))) (uVi (xs ((5 * t) + 1)) true) S)) ag_0]
    refine wa_istore (lv' := [(6, .int (mR (kVi S (xs ((5 * t) + 1))) (rVi S (xs ((5 * t) + 1)) true))), (5, .int (kVi S (xs ((5 * t) + 1)))), (4, .int (nI (5 * t))), (3, .ref 1), (2, .ref 2), (1, .ref 0), (0, .ref 3)]) F dL_law_1317 (by decide) rfl ?_
    refine wa_aload_n F dL_law_1319 (i := 2) rfl 4 rfl ?_
    refine wa_callV F [] (c_X6_thrown hst D TC s.heap ad1 (sU (kU (kVi S (xs ((5 * t) + 1))) (uVi (xs ((5 * t) + 1)) true) S) 0 0 (kVi S (xs ((5 * t) + 1)))) (sU (kU (kVi S (xs ((5 * t) + 1))) (uVi (xs ((5 * t) + 1)) true) S) 0 0 (kVi S (xs ((5 * t) + 1)))) (kO (kVi S (xs ((5 * t) + 1))) (rVi S (xs ((5 * t) + 1)) true) o)) mw_X6_thrown ml_L_126 hm_m rfl rfl (Nat.le_of_ble_eq_true rfl) ⟨(Nat.le_of_ble_eq_true rfl), (Nat.le_of_ble_eq_true rfl)⟩ ⟨show _ ≤ 601024 by omega, show _ ≤ 7293034 by omega⟩ dL_law_1320 PR_ag (fun _ z => z.elim) ?_
    rintro _ _ _ ⟨rfl, rfl, rfl⟩
    rw [show (sU (kU (kVi S (xs ((5 * t) + 1))) (uVi (xs ((5 * t) + 1)) true) S) 0 0 (kVi S (xs ((5 * t) + 1)))) 0 0 = kVi S (xs ((5 * t) + 1)) from by rw [sU_eq, if_pos rfl]]
    refine wa_iload F dL_law_1323 1 rfl ?_
    refine wa_icmp_eq (tgt := 1330) F dL_law_1325 (by decide) (fun _ => ?_) (fun z => absurd rfl z)
    refine wa_iload F dL_law_1330 1 rfl ?_
    refine wa_if_ne (tgt := 1354) F dL_law_1332 (by decide) (fun c1332 => ?_) (fun c1332 => ?_)
    · skip
      refine wa_goto (tgt := 2469) F dL_law_1354 (by decide) ?_
      refine wa_lv (lv' := [(4, .int (nI (5 * t))), (3, .ref 1), (2, .ref 2), (1, .ref 0), (0, .ref 3)]) [2, 3, 4, 5, 6] rfl ?_
      refine wa_widen (k := cells + 4) (n := slots + 39) (by omega) (by omega) ?_
      exact K _ _ _ (INV_0 hiX) had1
    · skip
      have eo : (kO (kVi S (xs ((5 * t) + 1))) (rVi S (xs ((5 * t) + 1)) true) o) 0 = (rVi S (xs ((5 * t) + 1)) true).toInt64 := by rw [c1332, kO_0]; exact if_pos rfl
      have er : mR (kVi S (xs ((5 * t) + 1))) (rVi S (xs ((5 * t) + 1)) true) = rVi S (xs ((5 * t) + 1)) true := by rw [c1332, mR_0]
      refine wa_aload_n F dL_law_1335 (i := 3) rfl 3 rfl ?_
      refine wa_iconst (v := 0) F dL_law_1336 (by decide) ?_
      refine wa_lald F 1 rfl (hm_o (TC := TC) (X := (sU (kU (kVi S (xs ((5 * t) + 1))) (uVi (xs ((5 * t) + 1)) true) S) 0 0 (kVi S (xs ((5 * t) + 1))))) (S := (sU (kU (kVi S (xs ((5 * t) + 1))) (uVi (xs ((5 * t) + 1)) true) S) 0 0 (kVi S (xs ((5 * t) + 1))))) (o := (kO (kVi S (xs ((5 * t) + 1))) (rVi S (xs ((5 * t) + 1)) true) o))) 0 rfl (by decide) (by decide) dL_law_1337 ?_
      refine wa_iload F dL_law_1338 0 rfl ?_
      refine wa_if_eq (tgt := 1347) F dL_law_1340 (by decide) (fun c1340 => ?_) (fun c1340 => ?_)
      · skip
        have eo2 : (kO (kVi S (xs ((5 * t) + 1))) (rVi S (xs ((5 * t) + 1)) true) o) 0 = 0 := by rw [eo, ← er]; exact b64f c1340
        refine wa_lconst (v := 0) F dL_law_1347 (by decide) ?_
        refine wa_lcmp F dL_law_1348 ?_
        refine wa_if_eq (tgt := 1354) F dL_law_1349 (by decide) (fun _ => ?_) (fun z => absurd ((lg_cmp_eq _ _).mpr eo2) z)
        refine wa_goto (tgt := 2469) F dL_law_1354 (by decide) ?_
        refine wa_lv (lv' := [(4, .int (nI (5 * t))), (3, .ref 1), (2, .ref 2), (1, .ref 0), (0, .ref 3)]) [2, 3, 4, 5, 6] rfl ?_
        refine wa_widen (k := cells + 4) (n := slots + 39) (by omega) (by omega) ?_
        exact K _ _ _ (INV_0 hiX) had1
      · skip
        have eo2 : (kO (kVi S (xs ((5 * t) + 1))) (rVi S (xs ((5 * t) + 1)) true) o) 0 = 1 := by rw [eo]; exact b64t rfl (by rw [← er]; exact c1340)
        refine wa_lconst (v := 1) F dL_law_1343 (by decide) ?_
        refine wa_goto (tgt := 1348) F dL_law_1344 (by decide) ?_
        refine wa_lcmp F dL_law_1348 ?_
        refine wa_if_eq (tgt := 1354) F dL_law_1349 (by decide) (fun _ => ?_) (fun z => absurd ((lg_cmp_eq _ _).mpr eo2) z)
        refine wa_goto (tgt := 2469) F dL_law_1354 (by decide) ?_
        refine wa_lv (lv' := [(4, .int (nI (5 * t))), (3, .ref 1), (2, .ref 2), (1, .ref 0), (0, .ref 3)]) [2, 3, 4, 5, 6] rfl ?_
        refine wa_widen (k := cells + 4) (n := slots + 39) (by omega) (by omega) ?_
        exact K _ _ _ (INV_0 hiX) had1
