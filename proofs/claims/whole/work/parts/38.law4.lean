set_option maxHeartbeats 4000000 in
set_option maxRecDepth 20000 in
theorem law_16 {p : Program} {l : Launch} {e : Env} {s : State} {m : MethodId} {below : List Frame} {meth : Method} {c : Code} {b L : Nat} {xs : Nat → Int32} {D : va_G} {TC : Nat → ClassId} {Q : State → Prop} {ret : Option FieldType} {nm : String} {tb : List ExceptionTableEntry} (F : FX D (tysOf TC) s.heap p l s m #[.ref b] meth c RL cL_law 7 ret nm tb) (hst : l.stackTraces = false) (hX : va_X b L xs s s.heap) (hbs : b < s.heap.size) (hbl : b < s.heap.size) (hL : L < 2 ^ 31)
    (ad : Nat → Nat) (had : ad 3 = b) (S : St) (o : Nat → Int64) (t : Nat) (hi : INV t S) (ht : t < 512) (h5 : 5 * t + 5 ≤ L) (cells slots : Nat) (hcl : cells + 4 ≤ 601024) (hsl : slots + 39 ≤ 7293034)
    (K : ∀ (S1 : St) (o1 : Nat → Int64) (ad1 : Nat → Nat), INV (t + 1) S1 → ad1 3 = b → WA D s.heap p l e room_1 s m #[.ref b] below meth c 7 Q ad1 (hall TC S1 S1 o1) (cells + 4) (slots + 39) 2469 [(4, .int (nI (5 * t))), (3, .ref 1), (2, .ref 2), (1, .ref 0), (0, .ref 3)] []) : WA D s.heap p l e room_1 s m #[.ref b] below meth c 7 Q ad (hall TC S S o) cells slots 1357 [(4, .int (nI (5 * t))), (3, .ref 1), (2, .ref 2), (1, .ref 0), (0, .ref 3)] [] := by
  refine wa_aload_n F dL_law_1357 (i := 1) rfl 3 rfl ?_
  refine wa_aload_n F dL_law_1358 (i := 0) rfl 4 rfl ?_
  refine wa_iload F dL_law_1359 0 rfl ?_
  refine wa_iconst (v := 1) F dL_law_1361 (by decide) ?_
  refine wa_iaddN F dL_law_1362 (a := 5 * t) (b := 1) rfl rfl ?_
  refine wa_sld F hX hbs hbl had ((5 * t) + 1) rfl (by omega) hL dL_law_1363 ?_
  refine wa_aload_n F dL_law_1364 (i := 0) rfl 4 rfl ?_
  refine wa_iload F dL_law_1365 0 rfl ?_
  refine wa_iconst (v := 2) F dL_law_1367 (by decide) ?_
  refine wa_iaddN F dL_law_1368 (a := 5 * t) (b := 2) rfl rfl ?_
  refine wa_sld F hX hbs hbl had ((5 * t) + 2) rfl (by omega) hL dL_law_1369 ?_
  refine wa_aload_n F dL_law_1370 (i := 3) rfl 1 rfl ?_
  have hiX : INV (t + 1) (kU (kPl S (xs ((5 * t) + 1)) (xs ((5 * t) + 2))) (uPl (xs ((5 * t) + 1)) (xs ((5 * t) + 2))) S) := (st_place hi)
  have hnr3 : noRef (hall TC (kU (kPl S (xs ((5 * t) + 1)) (xs ((5 * t) + 2))) (uPl (xs ((5 * t) + 1)) (xs ((5 * t) + 2))) S) S (kO (kPl S (xs ((5 * t) + 1)) (xs ((5 * t) + 2))) (rPl S) o)) 3 := hall_nr (Or.inl rfl) rfl hiX.1.2 hiX.2.1.2 hiX.2.2.1.2 hiX.2.2.2.1.2 hiX.2.2.2.2.1.2 hiX.2.2.2.2.2.2.2.1
  refine wa_callH3 F [] (c_L_place hst D TC s.heap ad S S o (xs ((5 * t) + 1)) (xs ((5 * t) + 2)) t hi) mw_L_place ml_L_179 rfl hnr3 rfl (Nat.le_of_ble_eq_true rfl) ⟨(Nat.le_of_ble_eq_true rfl), (Nat.le_of_ble_eq_true rfl)⟩ ⟨show _ ≤ 601024 by omega, show _ ≤ 7293034 by omega⟩ dL_law_1371 (by intro y hy; simp only [List.mem_cons, List.not_mem_nil, or_false] at hy; rcases hy with rfl | rfl | rfl | rfl | rfl <;> intro z hz <;> first | (cases hz; exact Or.inl rfl) | (cases hz; exact Or.inr (by simp [hm_c, hm_m, hm_o])) | cases hz) rfl ?_
  intro ad1 had1
  replace had1 : ad1 3 = b := had1.trans had
  refine wa_istore (lv' := [(5, .int (kPl S (xs ((5 * t) + 1)) (xs ((5 * t) + 2)))), (4, .int (nI (5 * t))), (3, .ref 1), (2, .ref 2), (1, .ref 0), (0, .ref 3)]) F dL_law_1374 (by decide) rfl ?_
  refine wa_aload_n F dL_law_1376 (i := 2) rfl 3 rfl ?_
  refine wa_aload_n F dL_law_1377 (i := 0) rfl 5 rfl ?_
  refine wa_iload F dL_law_1378 1 rfl ?_
  refine wa_iconst (v := 1) F dL_law_1380 (by decide) ?_
  refine wa_iaddN F dL_law_1381 (a := 5 * t) (b := 1) rfl rfl ?_
  refine wa_sld F hX hbs hbl had1 ((5 * t) + 1) rfl (by omega) hL dL_law_1382 ?_
  refine wa_aload_n F dL_law_1383 (i := 0) rfl 5 rfl ?_
  refine wa_iload F dL_law_1384 1 rfl ?_
  refine wa_iconst (v := 2) F dL_law_1386 (by decide) ?_
  refine wa_iaddN F dL_law_1387 (a := 5 * t) (b := 2) rfl rfl ?_
  refine wa_sld F hX hbs hbl had1 ((5 * t) + 2) rfl (by omega) hL dL_law_1388 ?_
  refine wa_callV F [] (c_X6_place hst D TC s.heap ad1 (kU (kPl S (xs ((5 * t) + 1)) (xs ((5 * t) + 2))) (uPl (xs ((5 * t) + 1)) (xs ((5 * t) + 2))) S) S (kO (kPl S (xs ((5 * t) + 1)) (xs ((5 * t) + 2))) (rPl S) o) (xs ((5 * t) + 1)) (xs ((5 * t) + 2)) t hi) mw_X6_place ml_L_181 hm_m rfl rfl (Nat.le_of_ble_eq_true rfl) ⟨(Nat.le_of_ble_eq_true rfl), (Nat.le_of_ble_eq_true rfl)⟩ ⟨show _ ≤ 601024 by omega, show _ ≤ 7293034 by omega⟩ dL_law_1389 PR_ag (fun _ z => z.elim) ?_
  rintro _ _ _ ⟨rfl, rfl, rfl⟩
  rw [mS_eq (S := S) (fun w => c0_place), hall_ag (X := (kU (kPl S (xs ((5 * t) + 1)) (xs ((5 * t) + 2))) (uPl (xs ((5 * t) + 1)) (xs ((5 * t) + 2))) S)) ag_0]
  refine wa_istore (lv' := [(6, .int (mR (kPl S (xs ((5 * t) + 1)) (xs ((5 * t) + 2))) (rPl S))), (5, .int (kPl S (xs ((5 * t) + 1)) (xs ((5 * t) + 2)))), (4, .int (nI (5 * t))), (3, .ref 1), (2, .ref 2), (1, .ref 0), (0, .ref 3)]) F dL_law_1392 (by decide) rfl ?_
  refine wa_aload_n F dL_law_1394 (i := 2) rfl 4 rfl ?_
  refine wa_callV F [] (c_X6_thrown hst D TC s.heap ad1 (sU (kU (kPl S (xs ((5 * t) + 1)) (xs ((5 * t) + 2))) (uPl (xs ((5 * t) + 1)) (xs ((5 * t) + 2))) S) 0 0 (kPl S (xs ((5 * t) + 1)) (xs ((5 * t) + 2)))) (sU (kU (kPl S (xs ((5 * t) + 1)) (xs ((5 * t) + 2))) (uPl (xs ((5 * t) + 1)) (xs ((5 * t) + 2))) S) 0 0 (kPl S (xs ((5 * t) + 1)) (xs ((5 * t) + 2)))) (kO (kPl S (xs ((5 * t) + 1)) (xs ((5 * t) + 2))) (rPl S) o)) mw_X6_thrown ml_L_126 hm_m rfl rfl (Nat.le_of_ble_eq_true rfl) ⟨(Nat.le_of_ble_eq_true rfl), (Nat.le_of_ble_eq_true rfl)⟩ ⟨show _ ≤ 601024 by omega, show _ ≤ 7293034 by omega⟩ dL_law_1395 PR_ag (fun _ z => z.elim) ?_
  rintro _ _ _ ⟨rfl, rfl, rfl⟩
  rw [show (sU (kU (kPl S (xs ((5 * t) + 1)) (xs ((5 * t) + 2))) (uPl (xs ((5 * t) + 1)) (xs ((5 * t) + 2))) S) 0 0 (kPl S (xs ((5 * t) + 1)) (xs ((5 * t) + 2)))) 0 0 = kPl S (xs ((5 * t) + 1)) (xs ((5 * t) + 2)) from by rw [sU_eq, if_pos rfl]]
  refine wa_iload F dL_law_1398 1 rfl ?_
  refine wa_icmp_eq (tgt := 1405) F dL_law_1400 (by decide) (fun _ => ?_) (fun z => absurd rfl z)
  refine wa_iload F dL_law_1405 1 rfl ?_
  refine wa_if_ne (tgt := 1422) F dL_law_1407 (by decide) (fun c1407 => ?_) (fun c1407 => ?_)
  · skip
    refine wa_goto (tgt := 2469) F dL_law_1422 (by decide) ?_
    refine wa_lv (lv' := [(4, .int (nI (5 * t))), (3, .ref 1), (2, .ref 2), (1, .ref 0), (0, .ref 3)]) [2, 3, 4, 5, 6] rfl ?_
    refine wa_widen (k := cells + 4) (n := slots + 39) (by omega) (by omega) ?_
    exact K _ _ _ (INV_0 hiX) had1
  · skip
    have eo : (kO (kPl S (xs ((5 * t) + 1)) (xs ((5 * t) + 2))) (rPl S) o) 0 = (rPl S).toInt64 := by rw [c1407, kO_0]; exact if_pos rfl
    have er : mR (kPl S (xs ((5 * t) + 1)) (xs ((5 * t) + 2))) (rPl S) = rPl S := by rw [c1407, mR_0]
    refine wa_aload_n F dL_law_1410 (i := 3) rfl 3 rfl ?_
    refine wa_iconst (v := 0) F dL_law_1411 (by decide) ?_
    refine wa_lald F 1 rfl (hm_o (TC := TC) (X := (sU (kU (kPl S (xs ((5 * t) + 1)) (xs ((5 * t) + 2))) (uPl (xs ((5 * t) + 1)) (xs ((5 * t) + 2))) S) 0 0 (kPl S (xs ((5 * t) + 1)) (xs ((5 * t) + 2))))) (S := (sU (kU (kPl S (xs ((5 * t) + 1)) (xs ((5 * t) + 2))) (uPl (xs ((5 * t) + 1)) (xs ((5 * t) + 2))) S) 0 0 (kPl S (xs ((5 * t) + 1)) (xs ((5 * t) + 2))))) (o := (kO (kPl S (xs ((5 * t) + 1)) (xs ((5 * t) + 2))) (rPl S) o))) 0 rfl (by decide) (by decide) dL_law_1412 ?_
    refine wa_iload F dL_law_1413 0 rfl ?_
    refine wa_i2l F dL_law_1415 rfl ?_
    have eo1 : (kO (kPl S (xs ((5 * t) + 1)) (xs ((5 * t) + 2))) (rPl S) o) 0 = (mR (kPl S (xs ((5 * t) + 1)) (xs ((5 * t) + 2))) (rPl S)).toInt64 := by rw [er]; exact eo
    refine wa_lcmp F dL_law_1416 ?_
    refine wa_if_eq (tgt := 1422) F dL_law_1417 (by decide) (fun _ => ?_) (fun z => absurd ((lg_cmp_eq _ _).mpr eo1) z)
    refine wa_goto (tgt := 2469) F dL_law_1422 (by decide) ?_
    refine wa_lv (lv' := [(4, .int (nI (5 * t))), (3, .ref 1), (2, .ref 2), (1, .ref 0), (0, .ref 3)]) [2, 3, 4, 5, 6] rfl ?_
    refine wa_widen (k := cells + 4) (n := slots + 39) (by omega) (by omega) ?_
    exact K _ _ _ (INV_0 hiX) had1
set_option maxHeartbeats 4000000 in
set_option maxRecDepth 20000 in
theorem law_17 {p : Program} {l : Launch} {e : Env} {s : State} {m : MethodId} {below : List Frame} {meth : Method} {c : Code} {b L : Nat} {xs : Nat → Int32} {D : va_G} {TC : Nat → ClassId} {Q : State → Prop} {ret : Option FieldType} {nm : String} {tb : List ExceptionTableEntry} (F : FX D (tysOf TC) s.heap p l s m #[.ref b] meth c RL cL_law 7 ret nm tb) (hst : l.stackTraces = false) (hX : va_X b L xs s s.heap) (hbs : b < s.heap.size) (hbl : b < s.heap.size) (hL : L < 2 ^ 31)
    (ad : Nat → Nat) (had : ad 3 = b) (S : St) (o : Nat → Int64) (t : Nat) (hi : INV t S) (ht : t < 512) (h5 : 5 * t + 5 ≤ L) (cells slots : Nat) (hcl : cells + 4 ≤ 601024) (hsl : slots + 39 ≤ 7293034)
    (K : ∀ (S1 : St) (o1 : Nat → Int64) (ad1 : Nat → Nat), INV (t + 1) S1 → ad1 3 = b → WA D s.heap p l e room_1 s m #[.ref b] below meth c 7 Q ad1 (hall TC S1 S1 o1) (cells + 4) (slots + 39) 2469 [(4, .int (nI (5 * t))), (3, .ref 1), (2, .ref 2), (1, .ref 0), (0, .ref 3)] []) : WA D s.heap p l e room_1 s m #[.ref b] below meth c 7 Q ad (hall TC S S o) cells slots 1425 [(4, .int (nI (5 * t))), (3, .ref 1), (2, .ref 2), (1, .ref 0), (0, .ref 3)] [] := by
  refine wa_aload_n F dL_law_1425 (i := 1) rfl 3 rfl ?_
  refine wa_aload_n F dL_law_1426 (i := 0) rfl 4 rfl ?_
  refine wa_iload F dL_law_1427 0 rfl ?_
  refine wa_iconst (v := 1) F dL_law_1429 (by decide) ?_
  refine wa_iaddN F dL_law_1430 (a := 5 * t) (b := 1) rfl rfl ?_
  refine wa_sld F hX hbs hbl had ((5 * t) + 1) rfl (by omega) hL dL_law_1431 ?_
  refine wa_aload_n F dL_law_1432 (i := 0) rfl 4 rfl ?_
  refine wa_iload F dL_law_1433 0 rfl ?_
  refine wa_iconst (v := 2) F dL_law_1435 (by decide) ?_
  refine wa_iaddN F dL_law_1436 (a := 5 * t) (b := 2) rfl rfl ?_
  refine wa_sld F hX hbs hbl had ((5 * t) + 2) rfl (by omega) hL dL_law_1437 ?_
  refine wa_aload_n F dL_law_1438 (i := 3) rfl 1 rfl ?_
  have hiX : INV (t + 1) (kU (kPo S (xs ((5 * t) + 1)) (xs ((5 * t) + 2))) (uPo (xs ((5 * t) + 1)) (xs ((5 * t) + 2))) S) := (st_post hi)
  have hnr3 : noRef (hall TC (kU (kPo S (xs ((5 * t) + 1)) (xs ((5 * t) + 2))) (uPo (xs ((5 * t) + 1)) (xs ((5 * t) + 2))) S) S (kO (kPo S (xs ((5 * t) + 1)) (xs ((5 * t) + 2))) (rPl S) o)) 3 := hall_nr (Or.inl rfl) rfl hiX.1.2 hiX.2.1.2 hiX.2.2.1.2 hiX.2.2.2.1.2 hiX.2.2.2.2.1.2 hiX.2.2.2.2.2.2.2.1
  refine wa_callH3 F [] (c_L_post hst D TC s.heap ad S S o (xs ((5 * t) + 1)) (xs ((5 * t) + 2)) t hi) mw_L_post ml_L_182 rfl hnr3 rfl (Nat.le_of_ble_eq_true rfl) ⟨(Nat.le_of_ble_eq_true rfl), (Nat.le_of_ble_eq_true rfl)⟩ ⟨show _ ≤ 601024 by omega, show _ ≤ 7293034 by omega⟩ dL_law_1439 (by intro y hy; simp only [List.mem_cons, List.not_mem_nil, or_false] at hy; rcases hy with rfl | rfl | rfl | rfl | rfl <;> intro z hz <;> first | (cases hz; exact Or.inl rfl) | (cases hz; exact Or.inr (by simp [hm_c, hm_m, hm_o])) | cases hz) rfl ?_
  intro ad1 had1
  replace had1 : ad1 3 = b := had1.trans had
  refine wa_istore (lv' := [(5, .int (kPo S (xs ((5 * t) + 1)) (xs ((5 * t) + 2)))), (4, .int (nI (5 * t))), (3, .ref 1), (2, .ref 2), (1, .ref 0), (0, .ref 3)]) F dL_law_1442 (by decide) rfl ?_
  refine wa_aload_n F dL_law_1444 (i := 2) rfl 3 rfl ?_
  refine wa_aload_n F dL_law_1445 (i := 0) rfl 5 rfl ?_
  refine wa_iload F dL_law_1446 1 rfl ?_
  refine wa_iconst (v := 1) F dL_law_1448 (by decide) ?_
  refine wa_iaddN F dL_law_1449 (a := 5 * t) (b := 1) rfl rfl ?_
  refine wa_sld F hX hbs hbl had1 ((5 * t) + 1) rfl (by omega) hL dL_law_1450 ?_
  refine wa_aload_n F dL_law_1451 (i := 0) rfl 5 rfl ?_
  refine wa_iload F dL_law_1452 1 rfl ?_
  refine wa_iconst (v := 2) F dL_law_1454 (by decide) ?_
  refine wa_iaddN F dL_law_1455 (a := 5 * t) (b := 2) rfl rfl ?_
  refine wa_sld F hX hbs hbl had1 ((5 * t) + 2) rfl (by omega) hL dL_law_1456 ?_
  refine wa_callV F [] (c_X6_post hst D TC s.heap ad1 (kU (kPo S (xs ((5 * t) + 1)) (xs ((5 * t) + 2))) (uPo (xs ((5 * t) + 1)) (xs ((5 * t) + 2))) S) S (kO (kPo S (xs ((5 * t) + 1)) (xs ((5 * t) + 2))) (rPl S) o) (xs ((5 * t) + 1)) (xs ((5 * t) + 2)) t hi) mw_X6_post ml_L_184 hm_m rfl rfl (Nat.le_of_ble_eq_true rfl) ⟨(Nat.le_of_ble_eq_true rfl), (Nat.le_of_ble_eq_true rfl)⟩ ⟨show _ ≤ 601024 by omega, show _ ≤ 7293034 by omega⟩ dL_law_1457 PR_ag (fun _ z => z.elim) ?_
  rintro _ _ _ ⟨rfl, rfl, rfl⟩
  rw [mS_eq (S := S) (fun w => c0_post), hall_ag (X := (kU (kPo S (xs ((5 * t) + 1)) (xs ((5 * t) + 2))) (uPo (xs ((5 * t) + 1)) (xs ((5 * t) + 2))) S)) ag_0]
  refine wa_istore (lv' := [(6, .int (mR (kPo S (xs ((5 * t) + 1)) (xs ((5 * t) + 2))) (rPl S))), (5, .int (kPo S (xs ((5 * t) + 1)) (xs ((5 * t) + 2)))), (4, .int (nI (5 * t))), (3, .ref 1), (2, .ref 2), (1, .ref 0), (0, .ref 3)]) F dL_law_1460 (by decide) rfl ?_
  refine wa_aload_n F dL_law_1462 (i := 2) rfl 4 rfl ?_
  refine wa_callV F [] (c_X6_thrown hst D TC s.heap ad1 (sU (kU (kPo S (xs ((5 * t) + 1)) (xs ((5 * t) + 2))) (uPo (xs ((5 * t) + 1)) (xs ((5 * t) + 2))) S) 0 0 (kPo S (xs ((5 * t) + 1)) (xs ((5 * t) + 2)))) (sU (kU (kPo S (xs ((5 * t) + 1)) (xs ((5 * t) + 2))) (uPo (xs ((5 * t) + 1)) (xs ((5 * t) + 2))) S) 0 0 (kPo S (xs ((5 * t) + 1)) (xs ((5 * t) + 2)))) (kO (kPo S (xs ((5 * t) + 1)) (xs ((5 * t) + 2))) (rPl S) o)) mw_X6_thrown ml_L_126 hm_m rfl rfl (Nat.le_of_ble_eq_true rfl) ⟨(Nat.le_of_ble_eq_true rfl), (Nat.le_of_ble_eq_true rfl)⟩ ⟨show _ ≤ 601024 by omega, show _ ≤ 7293034 by omega⟩ dL_law_1463 PR_ag (fun _ z => z.elim) ?_
  rintro _ _ _ ⟨rfl, rfl, rfl⟩
  rw [show (sU (kU (kPo S (xs ((5 * t) + 1)) (xs ((5 * t) + 2))) (uPo (xs ((5 * t) + 1)) (xs ((5 * t) + 2))) S) 0 0 (kPo S (xs ((5 * t) + 1)) (xs ((5 * t) + 2)))) 0 0 = kPo S (xs ((5 * t) + 1)) (xs ((5 * t) + 2)) from by rw [sU_eq, if_pos rfl]]
  refine wa_iload F dL_law_1466 1 rfl ?_
  refine wa_icmp_eq (tgt := 1473) F dL_law_1468 (by decide) (fun _ => ?_) (fun z => absurd rfl z)
  refine wa_iload F dL_law_1473 1 rfl ?_
  refine wa_if_ne (tgt := 1490) F dL_law_1475 (by decide) (fun c1475 => ?_) (fun c1475 => ?_)
  · skip
    refine wa_goto (tgt := 2469) F dL_law_1490 (by decide) ?_
    refine wa_lv (lv' := [(4, .int (nI (5 * t))), (3, .ref 1), (2, .ref 2), (1, .ref 0), (0, .ref 3)]) [2, 3, 4, 5, 6] rfl ?_
    refine wa_widen (k := cells + 4) (n := slots + 39) (by omega) (by omega) ?_
    exact K _ _ _ (INV_0 hiX) had1
  · skip
    have eo : (kO (kPo S (xs ((5 * t) + 1)) (xs ((5 * t) + 2))) (rPl S) o) 0 = (rPl S).toInt64 := by rw [c1475, kO_0]; exact if_pos rfl
    have er : mR (kPo S (xs ((5 * t) + 1)) (xs ((5 * t) + 2))) (rPl S) = rPl S := by rw [c1475, mR_0]
    refine wa_aload_n F dL_law_1478 (i := 3) rfl 3 rfl ?_
    refine wa_iconst (v := 0) F dL_law_1479 (by decide) ?_
    refine wa_lald F 1 rfl (hm_o (TC := TC) (X := (sU (kU (kPo S (xs ((5 * t) + 1)) (xs ((5 * t) + 2))) (uPo (xs ((5 * t) + 1)) (xs ((5 * t) + 2))) S) 0 0 (kPo S (xs ((5 * t) + 1)) (xs ((5 * t) + 2))))) (S := (sU (kU (kPo S (xs ((5 * t) + 1)) (xs ((5 * t) + 2))) (uPo (xs ((5 * t) + 1)) (xs ((5 * t) + 2))) S) 0 0 (kPo S (xs ((5 * t) + 1)) (xs ((5 * t) + 2))))) (o := (kO (kPo S (xs ((5 * t) + 1)) (xs ((5 * t) + 2))) (rPl S) o))) 0 rfl (by decide) (by decide) dL_law_1480 ?_
    refine wa_iload F dL_law_1481 0 rfl ?_
    refine wa_i2l F dL_law_1483 rfl ?_
    have eo1 : (kO (kPo S (xs ((5 * t) + 1)) (xs ((5 * t) + 2))) (rPl S) o) 0 = (mR (kPo S (xs ((5 * t) + 1)) (xs ((5 * t) + 2))) (rPl S)).toInt64 := by rw [er]; exact eo
    refine wa_lcmp F dL_law_1484 ?_
    refine wa_if_eq (tgt := 1490) F dL_law_1485 (by decide) (fun _ => ?_) (fun z => absurd ((lg_cmp_eq _ _).mpr eo1) z)
    refine wa_goto (tgt := 2469) F dL_law_1490 (by decide) ?_
    refine wa_lv (lv' := [(4, .int (nI (5 * t))), (3, .ref 1), (2, .ref 2), (1, .ref 0), (0, .ref 3)]) [2, 3, 4, 5, 6] rfl ?_
    refine wa_widen (k := cells + 4) (n := slots + 39) (by omega) (by omega) ?_
    exact K _ _ _ (INV_0 hiX) had1
set_option maxHeartbeats 4000000 in
set_option maxRecDepth 20000 in
theorem law_18 {p : Program} {l : Launch} {e : Env} {s : State} {m : MethodId} {below : List Frame} {meth : Method} {c : Code} {b L : Nat} {xs : Nat → Int32} {D : va_G} {TC : Nat → ClassId} {Q : State → Prop} {ret : Option FieldType} {nm : String} {tb : List ExceptionTableEntry} (F : FX D (tysOf TC) s.heap p l s m #[.ref b] meth c RL cL_law 7 ret nm tb) (hst : l.stackTraces = false) (hX : va_X b L xs s s.heap) (hbs : b < s.heap.size) (hbl : b < s.heap.size) (hL : L < 2 ^ 31)
    (ad : Nat → Nat) (had : ad 3 = b) (S : St) (o : Nat → Int64) (t : Nat) (hi : INV t S) (ht : t < 512) (h5 : 5 * t + 5 ≤ L) (cells slots : Nat) (hcl : cells + 4 ≤ 601024) (hsl : slots + 39 ≤ 7293034)
    (K : ∀ (S1 : St) (o1 : Nat → Int64) (ad1 : Nat → Nat), INV (t + 1) S1 → ad1 3 = b → WA D s.heap p l e room_1 s m #[.ref b] below meth c 7 Q ad1 (hall TC S1 S1 o1) (cells + 4) (slots + 39) 2469 [(4, .int (nI (5 * t))), (3, .ref 1), (2, .ref 2), (1, .ref 0), (0, .ref 3)] []) : WA D s.heap p l e room_1 s m #[.ref b] below meth c 7 Q ad (hall TC S S o) cells slots 1493 [(4, .int (nI (5 * t))), (3, .ref 1), (2, .ref 2), (1, .ref 0), (0, .ref 3)] [] := by
  refine wa_aload_n F dL_law_1493 (i := 1) rfl 3 rfl ?_
  refine wa_aload_n F dL_law_1494 (i := 0) rfl 4 rfl ?_
  refine wa_iload F dL_law_1495 0 rfl ?_
  refine wa_iconst (v := 1) F dL_law_1497 (by decide) ?_
  refine wa_iaddN F dL_law_1498 (a := 5 * t) (b := 1) rfl rfl ?_
  refine wa_sld F hX hbs hbl had ((5 * t) + 1) rfl (by omega) hL dL_law_1499 ?_
  refine wa_aload_n F dL_law_1500 (i := 0) rfl 4 rfl ?_
  refine wa_iload F dL_law_1501 0 rfl ?_
  refine wa_iconst (v := 2) F dL_law_1503 (by decide) ?_
  refine wa_iaddN F dL_law_1504 (a := 5 * t) (b := 2) rfl rfl ?_
  refine wa_sld F hX hbs hbl had ((5 * t) + 2) rfl (by omega) hL dL_law_1505 ?_
  refine wa_aload_n F dL_law_1506 (i := 0) rfl 4 rfl ?_
  refine wa_iload F dL_law_1507 0 rfl ?_
  refine wa_iconst (v := 3) F dL_law_1509 (by decide) ?_
  refine wa_iaddN F dL_law_1510 (a := 5 * t) (b := 3) rfl rfl ?_
  refine wa_sld F hX hbs hbl had ((5 * t) + 3) rfl (by omega) hL dL_law_1511 ?_
  refine wa_aload_n F dL_law_1512 (i := 0) rfl 4 rfl ?_
  refine wa_iload F dL_law_1513 0 rfl ?_
  refine wa_iconst (v := 4) F dL_law_1515 (by decide) ?_
  refine wa_iaddN F dL_law_1516 (a := 5 * t) (b := 4) rfl rfl ?_
  refine wa_sld F hX hbs hbl had ((5 * t) + 4) rfl (by omega) hL dL_law_1517 ?_
  refine wa_aload_n F dL_law_1518 (i := 3) rfl 1 rfl ?_
  have hiX : INV (t + 1) (kU (kSa S (xs ((5 * t) + 1)) (xs ((5 * t) + 2)) (xs ((5 * t) + 3)) (xs ((5 * t) + 4))) (uSa (xs ((5 * t) + 1)) (xs ((5 * t) + 2)) (xs ((5 * t) + 3)) (xs ((5 * t) + 4))) S) := (st_sample hi)
  have hnr3 : noRef (hall TC (kU (kSa S (xs ((5 * t) + 1)) (xs ((5 * t) + 2)) (xs ((5 * t) + 3)) (xs ((5 * t) + 4))) (uSa (xs ((5 * t) + 1)) (xs ((5 * t) + 2)) (xs ((5 * t) + 3)) (xs ((5 * t) + 4))) S) S (kO (kSa S (xs ((5 * t) + 1)) (xs ((5 * t) + 2)) (xs ((5 * t) + 3)) (xs ((5 * t) + 4))) (rSa (xs ((5 * t) + 2)) (xs ((5 * t) + 3)) (xs ((5 * t) + 4))) o)) 3 := hall_nr (Or.inl rfl) rfl hiX.1.2 hiX.2.1.2 hiX.2.2.1.2 hiX.2.2.2.1.2 hiX.2.2.2.2.1.2 hiX.2.2.2.2.2.2.2.1
  refine wa_callH3 F [] (c_L_sample hst D TC s.heap ad S S o (xs ((5 * t) + 1)) (xs ((5 * t) + 2)) (xs ((5 * t) + 3)) (xs ((5 * t) + 4)) t hi) mw_L_sample ml_L_185 rfl hnr3 rfl (Nat.le_of_ble_eq_true rfl) ⟨(Nat.le_of_ble_eq_true rfl), (Nat.le_of_ble_eq_true rfl)⟩ ⟨show _ ≤ 601024 by omega, show _ ≤ 7293034 by omega⟩ dL_law_1519 (by intro y hy; simp only [List.mem_cons, List.not_mem_nil, or_false] at hy; rcases hy with rfl | rfl | rfl | rfl | rfl <;> intro z hz <;> first | (cases hz; exact Or.inl rfl) | (cases hz; exact Or.inr (by simp [hm_c, hm_m, hm_o])) | cases hz) rfl ?_
  intro ad1 had1
  replace had1 : ad1 3 = b := had1.trans had
  refine wa_istore (lv' := [(5, .int (kSa S (xs ((5 * t) + 1)) (xs ((5 * t) + 2)) (xs ((5 * t) + 3)) (xs ((5 * t) + 4)))), (4, .int (nI (5 * t))), (3, .ref 1), (2, .ref 2), (1, .ref 0), (0, .ref 3)]) F dL_law_1522 (by decide) rfl ?_
  refine wa_aload_n F dL_law_1524 (i := 2) rfl 3 rfl ?_
  refine wa_aload_n F dL_law_1525 (i := 0) rfl 5 rfl ?_
  refine wa_iload F dL_law_1526 1 rfl ?_
  refine wa_iconst (v := 1) F dL_law_1528 (by decide) ?_
  refine wa_iaddN F dL_law_1529 (a := 5 * t) (b := 1) rfl rfl ?_
  refine wa_sld F hX hbs hbl had1 ((5 * t) + 1) rfl (by omega) hL dL_law_1530 ?_
  refine wa_aload_n F dL_law_1531 (i := 0) rfl 5 rfl ?_
  refine wa_iload F dL_law_1532 1 rfl ?_
  refine wa_iconst (v := 2) F dL_law_1534 (by decide) ?_
  refine wa_iaddN F dL_law_1535 (a := 5 * t) (b := 2) rfl rfl ?_
  refine wa_sld F hX hbs hbl had1 ((5 * t) + 2) rfl (by omega) hL dL_law_1536 ?_
  refine wa_aload_n F dL_law_1537 (i := 0) rfl 5 rfl ?_
  refine wa_iload F dL_law_1538 1 rfl ?_
  refine wa_iconst (v := 3) F dL_law_1540 (by decide) ?_
  refine wa_iaddN F dL_law_1541 (a := 5 * t) (b := 3) rfl rfl ?_
  refine wa_sld F hX hbs hbl had1 ((5 * t) + 3) rfl (by omega) hL dL_law_1542 ?_
  refine wa_aload_n F dL_law_1543 (i := 0) rfl 5 rfl ?_
  refine wa_iload F dL_law_1544 1 rfl ?_
  refine wa_iconst (v := 4) F dL_law_1546 (by decide) ?_
  refine wa_iaddN F dL_law_1547 (a := 5 * t) (b := 4) rfl rfl ?_
  refine wa_sld F hX hbs hbl had1 ((5 * t) + 4) rfl (by omega) hL dL_law_1548 ?_
  refine wa_callV F [] (c_X6_sample hst D TC s.heap ad1 (kU (kSa S (xs ((5 * t) + 1)) (xs ((5 * t) + 2)) (xs ((5 * t) + 3)) (xs ((5 * t) + 4))) (uSa (xs ((5 * t) + 1)) (xs ((5 * t) + 2)) (xs ((5 * t) + 3)) (xs ((5 * t) + 4))) S) S (kO (kSa S (xs ((5 * t) + 1)) (xs ((5 * t) + 2)) (xs ((5 * t) + 3)) (xs ((5 * t) + 4))) (rSa (xs ((5 * t) + 2)) (xs ((5 * t) + 3)) (xs ((5 * t) + 4))) o) (xs ((5 * t) + 1)) (xs ((5 * t) + 2)) (xs ((5 * t) + 3)) (xs ((5 * t) + 4)) t hi) mw_X6_sample ml_L_187 hm_m rfl rfl (Nat.le_of_ble_eq_true rfl) ⟨(Nat.le_of_ble_eq_true rfl), (Nat.le_of_ble_eq_true rfl)⟩ ⟨show _ ≤ 601024 by omega, show _ ≤ 7293034 by omega⟩ dL_law_1549 PR_ag (fun _ z => z.elim) ?_
  rintro _ _ _ ⟨rfl, rfl, rfl⟩
  rw [mS_eq (S := S) (fun w => c0_sample), hall_ag (X := (kU (kSa S (xs ((5 * t) + 1)) (xs ((5 * t) + 2)) (xs ((5 * t) + 3)) (xs ((5 * t) + 4))) (uSa (xs ((5 * t) + 1)) (xs ((5 * t) + 2)) (xs ((5 * t) + 3)) (xs ((5 * t) + 4))) S)) ag_0]
  refine wa_istore (lv' := [(6, .int (mR (kSa S (xs ((5 * t) + 1)) (xs ((5 * t) + 2)) (xs ((5 * t) + 3)) (xs ((5 * t) + 4))) (rSa (xs ((5 * t) + 2)) (xs ((5 * t) + 3)) (xs ((5 * t) + 4))))), (5, .int (kSa S (xs ((5 * t) + 1)) (xs ((5 * t) + 2)) (xs ((5 * t) + 3)) (xs ((5 * t) + 4)))), (4, .int (nI (5 * t))), (3, .ref 1), (2, .ref 2), (1, .ref 0), (0, .ref 3)]) F dL_law_1552 (by decide) rfl ?_
  refine wa_aload_n F dL_law_1554 (i := 2) rfl 4 rfl ?_
  refine wa_callV F [] (c_X6_thrown hst D TC s.heap ad1 (sU (kU (kSa S (xs ((5 * t) + 1)) (xs ((5 * t) + 2)) (xs ((5 * t) + 3)) (xs ((5 * t) + 4))) (uSa (xs ((5 * t) + 1)) (xs ((5 * t) + 2)) (xs ((5 * t) + 3)) (xs ((5 * t) + 4))) S) 0 0 (kSa S (xs ((5 * t) + 1)) (xs ((5 * t) + 2)) (xs ((5 * t) + 3)) (xs ((5 * t) + 4)))) (sU (kU (kSa S (xs ((5 * t) + 1)) (xs ((5 * t) + 2)) (xs ((5 * t) + 3)) (xs ((5 * t) + 4))) (uSa (xs ((5 * t) + 1)) (xs ((5 * t) + 2)) (xs ((5 * t) + 3)) (xs ((5 * t) + 4))) S) 0 0 (kSa S (xs ((5 * t) + 1)) (xs ((5 * t) + 2)) (xs ((5 * t) + 3)) (xs ((5 * t) + 4)))) (kO (kSa S (xs ((5 * t) + 1)) (xs ((5 * t) + 2)) (xs ((5 * t) + 3)) (xs ((5 * t) + 4))) (rSa (xs ((5 * t) + 2)) (xs ((5 * t) + 3)) (xs ((5 * t) + 4))) o)) mw_X6_thrown ml_L_126 hm_m rfl rfl (Nat.le_of_ble_eq_true rfl) ⟨(Nat.le_of_ble_eq_true rfl), (Nat.le_of_ble_eq_true rfl)⟩ ⟨show _ ≤ 601024 by omega, show _ ≤ 7293034 by omega⟩ dL_law_1555 PR_ag (fun _ z => z.elim) ?_
  rintro _ _ _ ⟨rfl, rfl, rfl⟩
  rw [show (sU (kU (kSa S (xs ((5 * t) + 1)) (xs ((5 * t) + 2)) (xs ((5 * t) + 3)) (xs ((5 * t) + 4))) (uSa (xs ((5 * t) + 1)) (xs ((5 * t) + 2)) (xs ((5 * t) + 3)) (xs ((5 * t) + 4))) S) 0 0 (kSa S (xs ((5 * t) + 1)) (xs ((5 * t) + 2)) (xs ((5 * t) + 3)) (xs ((5 * t) + 4)))) 0 0 = kSa S (xs ((5 * t) + 1)) (xs ((5 * t) + 2)) (xs ((5 * t) + 3)) (xs ((5 * t) + 4)) from by rw [sU_eq, if_pos rfl]]
  refine wa_iload F dL_law_1558 1 rfl ?_
  refine wa_icmp_eq (tgt := 1565) F dL_law_1560 (by decide) (fun _ => ?_) (fun z => absurd rfl z)
  refine wa_iload F dL_law_1565 1 rfl ?_
  refine wa_if_ne (tgt := 1582) F dL_law_1567 (by decide) (fun c1567 => ?_) (fun c1567 => ?_)
  · skip
    refine wa_goto (tgt := 2469) F dL_law_1582 (by decide) ?_
    refine wa_lv (lv' := [(4, .int (nI (5 * t))), (3, .ref 1), (2, .ref 2), (1, .ref 0), (0, .ref 3)]) [2, 3, 4, 5, 6] rfl ?_
    refine wa_widen (k := cells + 4) (n := slots + 39) (by omega) (by omega) ?_
    exact K _ _ _ (INV_0 hiX) had1
  · skip
    have eo : (kO (kSa S (xs ((5 * t) + 1)) (xs ((5 * t) + 2)) (xs ((5 * t) + 3)) (xs ((5 * t) + 4))) (rSa (xs ((5 * t) + 2)) (xs ((5 * t) + 3)) (xs ((5 * t) + 4))) o) 0 = (rSa (xs ((5 * t) + 2)) (xs ((5 * t) + 3)) (xs ((5 * t) + 4))).toInt64 := by rw [c1567, kO_0]; exact if_pos rfl
    have er : mR (kSa S (xs ((5 * t) + 1)) (xs ((5 * t) + 2)) (xs ((5 * t) + 3)) (xs ((5 * t) + 4))) (rSa (xs ((5 * t) + 2)) (xs ((5 * t) + 3)) (xs ((5 * t) + 4))) = rSa (xs ((5 * t) + 2)) (xs ((5 * t) + 3)) (xs ((5 * t) + 4)) := by rw [c1567, mR_0]
    refine wa_aload_n F dL_law_1570 (i := 3) rfl 3 rfl ?_
    refine wa_iconst (v := 0) F dL_law_1571 (by decide) ?_
    refine wa_lald F 1 rfl (hm_o (TC := TC) (X := (sU (kU (kSa S (xs ((5 * t) + 1)) (xs ((5 * t) + 2)) (xs ((5 * t) + 3)) (xs ((5 * t) + 4))) (uSa (xs ((5 * t) + 1)) (xs ((5 * t) + 2)) (xs ((5 * t) + 3)) (xs ((5 * t) + 4))) S) 0 0 (kSa S (xs ((5 * t) + 1)) (xs ((5 * t) + 2)) (xs ((5 * t) + 3)) (xs ((5 * t) + 4))))) (S := (sU (kU (kSa S (xs ((5 * t) + 1)) (xs ((5 * t) + 2)) (xs ((5 * t) + 3)) (xs ((5 * t) + 4))) (uSa (xs ((5 * t) + 1)) (xs ((5 * t) + 2)) (xs ((5 * t) + 3)) (xs ((5 * t) + 4))) S) 0 0 (kSa S (xs ((5 * t) + 1)) (xs ((5 * t) + 2)) (xs ((5 * t) + 3)) (xs ((5 * t) + 4))))) (o := (kO (kSa S (xs ((5 * t) + 1)) (xs ((5 * t) + 2)) (xs ((5 * t) + 3)) (xs ((5 * t) + 4))) (rSa (xs ((5 * t) + 2)) (xs ((5 * t) + 3)) (xs ((5 * t) + 4))) o))) 0 rfl (by decide) (by decide) dL_law_1572 ?_
    refine wa_iload F dL_law_1573 0 rfl ?_
    refine wa_i2l F dL_law_1575 rfl ?_
    have eo1 : (kO (kSa S (xs ((5 * t) + 1)) (xs ((5 * t) + 2)) (xs ((5 * t) + 3)) (xs ((5 * t) + 4))) (rSa (xs ((5 * t) + 2)) (xs ((5 * t) + 3)) (xs ((5 * t) + 4))) o) 0 = (mR (kSa S (xs ((5 * t) + 1)) (xs ((5 * t) + 2)) (xs ((5 * t) + 3)) (xs ((5 * t) + 4))) (rSa (xs ((5 * t) + 2)) (xs ((5 * t) + 3)) (xs ((5 * t) + 4)))).toInt64 := by rw [er]; exact eo
    refine wa_lcmp F dL_law_1576 ?_
    refine wa_if_eq (tgt := 1582) F dL_law_1577 (by decide) (fun _ => ?_) (fun z => absurd ((lg_cmp_eq _ _).mpr eo1) z)
    refine wa_goto (tgt := 2469) F dL_law_1582 (by decide) ?_
    refine wa_lv (lv' := [(4, .int (nI (5 * t))), (3, .ref 1), (2, .ref 2), (1, .ref 0), (0, .ref 3)]) [2, 3, 4, 5, 6] rfl ?_
    refine wa_widen (k := cells + 4) (n := slots + 39) (by omega) (by omega) ?_
    exact K _ _ _ (INV_0 hiX) had1
set_option maxHeartbeats 4000000 in
set_option maxRecDepth 20000 in
theorem law_19 {p : Program} {l : Launch} {e : Env} {s : State} {m : MethodId} {below : List Frame} {meth : Method} {c : Code} {b L : Nat} {xs : Nat → Int32} {D : va_G} {TC : Nat → ClassId} {Q : State → Prop} {ret : Option FieldType} {nm : String} {tb : List ExceptionTableEntry} (F : FX D (tysOf TC) s.heap p l s m #[.ref b] meth c RL cL_law 7 ret nm tb) (hst : l.stackTraces = false) (hX : va_X b L xs s s.heap) (hbs : b < s.heap.size) (hbl : b < s.heap.size) (hL : L < 2 ^ 31)
    (ad : Nat → Nat) (had : ad 3 = b) (S : St) (o : Nat → Int64) (t : Nat) (hi : INV t S) (ht : t < 512) (h5 : 5 * t + 5 ≤ L) (cells slots : Nat) (hcl : cells + 4 ≤ 601024) (hsl : slots + 39 ≤ 7293034)
    (K : ∀ (S1 : St) (o1 : Nat → Int64) (ad1 : Nat → Nat), INV (t + 1) S1 → ad1 3 = b → WA D s.heap p l e room_1 s m #[.ref b] below meth c 7 Q ad1 (hall TC S1 S1 o1) (cells + 4) (slots + 39) 2469 [(4, .int (nI (5 * t))), (3, .ref 1), (2, .ref 2), (1, .ref 0), (0, .ref 3)] []) : WA D s.heap p l e room_1 s m #[.ref b] below meth c 7 Q ad (hall TC S S o) cells slots 1585 [(4, .int (nI (5 * t))), (3, .ref 1), (2, .ref 2), (1, .ref 0), (0, .ref 3)] [] := by
  refine wa_aload_n F dL_law_1585 (i := 1) rfl 3 rfl ?_
  refine wa_aload_n F dL_law_1586 (i := 0) rfl 4 rfl ?_
  refine wa_iload F dL_law_1587 0 rfl ?_
  refine wa_iconst (v := 1) F dL_law_1589 (by decide) ?_
  refine wa_iaddN F dL_law_1590 (a := 5 * t) (b := 1) rfl rfl ?_
  refine wa_sld F hX hbs hbl had ((5 * t) + 1) rfl (by omega) hL dL_law_1591 ?_
  refine wa_aload_n F dL_law_1592 (i := 0) rfl 4 rfl ?_
  refine wa_iload F dL_law_1593 0 rfl ?_
  refine wa_iconst (v := 2) F dL_law_1595 (by decide) ?_
  refine wa_iaddN F dL_law_1596 (a := 5 * t) (b := 2) rfl rfl ?_
  refine wa_sld F hX hbs hbl had ((5 * t) + 2) rfl (by omega) hL dL_law_1597 ?_
  refine wa_aload_n F dL_law_1598 (i := 0) rfl 4 rfl ?_
  refine wa_iload F dL_law_1599 0 rfl ?_
  refine wa_iconst (v := 3) F dL_law_1601 (by decide) ?_
  refine wa_iaddN F dL_law_1602 (a := 5 * t) (b := 3) rfl rfl ?_
  refine wa_sld F hX hbs hbl had ((5 * t) + 3) rfl (by omega) hL dL_law_1603 ?_
  refine wa_aload_n F dL_law_1604 (i := 3) rfl 1 rfl ?_
  have hiX : INV (t + 1) (kU (kEv S (xs ((5 * t) + 1)) (xs ((5 * t) + 2)) (xs ((5 * t) + 3))) (uEv (xs ((5 * t) + 1)) (xs ((5 * t) + 2)) (xs ((5 * t) + 3))) S) := (st_event hi ht)
  have hnr3 : noRef (hall TC (kU (kEv S (xs ((5 * t) + 1)) (xs ((5 * t) + 2)) (xs ((5 * t) + 3))) (uEv (xs ((5 * t) + 1)) (xs ((5 * t) + 2)) (xs ((5 * t) + 3))) S) S (kO (kEv S (xs ((5 * t) + 1)) (xs ((5 * t) + 2)) (xs ((5 * t) + 3))) (rEv S (xs ((5 * t) + 1)) (xs ((5 * t) + 2)) (xs ((5 * t) + 3))) o)) 3 := hall_nr (Or.inl rfl) rfl hiX.1.2 hiX.2.1.2 hiX.2.2.1.2 hiX.2.2.2.1.2 hiX.2.2.2.2.1.2 hiX.2.2.2.2.2.2.2.1
  refine wa_callH3 F [] (c_L_event hst D TC s.heap ad S S o (xs ((5 * t) + 1)) (xs ((5 * t) + 2)) (xs ((5 * t) + 3)) t hi ht) mw_L_event ml_L_188 rfl hnr3 rfl (Nat.le_of_ble_eq_true rfl) ⟨(Nat.le_of_ble_eq_true rfl), (Nat.le_of_ble_eq_true rfl)⟩ ⟨show _ ≤ 601024 by omega, show _ ≤ 7293034 by omega⟩ dL_law_1605 (by intro y hy; simp only [List.mem_cons, List.not_mem_nil, or_false] at hy; rcases hy with rfl | rfl | rfl | rfl | rfl <;> intro z hz <;> first | (cases hz; exact Or.inl rfl) | (cases hz; exact Or.inr (by simp [hm_c, hm_m, hm_o])) | cases hz) rfl ?_
  intro ad1 had1
  replace had1 : ad1 3 = b := had1.trans had
  refine wa_istore (lv' := [(5, .int (kEv S (xs ((5 * t) + 1)) (xs ((5 * t) + 2)) (xs ((5 * t) + 3)))), (4, .int (nI (5 * t))), (3, .ref 1), (2, .ref 2), (1, .ref 0), (0, .ref 3)]) F dL_law_1608 (by decide) rfl ?_
  refine wa_aload_n F dL_law_1610 (i := 2) rfl 3 rfl ?_
  refine wa_aload_n F dL_law_1611 (i := 0) rfl 5 rfl ?_
  refine wa_iload F dL_law_1612 1 rfl ?_
  refine wa_iconst (v := 1) F dL_law_1614 (by decide) ?_
  refine wa_iaddN F dL_law_1615 (a := 5 * t) (b := 1) rfl rfl ?_
  refine wa_sld F hX hbs hbl had1 ((5 * t) + 1) rfl (by omega) hL dL_law_1616 ?_
  refine wa_aload_n F dL_law_1617 (i := 0) rfl 5 rfl ?_
  refine wa_iload F dL_law_1618 1 rfl ?_
  refine wa_iconst (v := 2) F dL_law_1620 (by decide) ?_
  refine wa_iaddN F dL_law_1621 (a := 5 * t) (b := 2) rfl rfl ?_
  refine wa_sld F hX hbs hbl had1 ((5 * t) + 2) rfl (by omega) hL dL_law_1622 ?_
  refine wa_aload_n F dL_law_1623 (i := 0) rfl 5 rfl ?_
  refine wa_iload F dL_law_1624 1 rfl ?_
  refine wa_iconst (v := 3) F dL_law_1626 (by decide) ?_
  refine wa_iaddN F dL_law_1627 (a := 5 * t) (b := 3) rfl rfl ?_
  refine wa_sld F hX hbs hbl had1 ((5 * t) + 3) rfl (by omega) hL dL_law_1628 ?_
  refine wa_callV F [] (c_X6_event hst D TC s.heap ad1 (kU (kEv S (xs ((5 * t) + 1)) (xs ((5 * t) + 2)) (xs ((5 * t) + 3))) (uEv (xs ((5 * t) + 1)) (xs ((5 * t) + 2)) (xs ((5 * t) + 3))) S) S (kO (kEv S (xs ((5 * t) + 1)) (xs ((5 * t) + 2)) (xs ((5 * t) + 3))) (rEv S (xs ((5 * t) + 1)) (xs ((5 * t) + 2)) (xs ((5 * t) + 3))) o) (xs ((5 * t) + 1)) (xs ((5 * t) + 2)) (xs ((5 * t) + 3)) t hi) mw_X6_event ml_L_190 hm_m rfl rfl (Nat.le_of_ble_eq_true rfl) ⟨(Nat.le_of_ble_eq_true rfl), (Nat.le_of_ble_eq_true rfl)⟩ ⟨show _ ≤ 601024 by omega, show _ ≤ 7293034 by omega⟩ dL_law_1629 PR_ag (fun _ z => z.elim) ?_
  rintro _ _ _ ⟨rfl, rfl, rfl⟩
  rw [mS_eq (S := S) (fun w => c0_event), hall_ag (X := (kU (kEv S (xs ((5 * t) + 1)) (xs ((5 * t) + 2)) (xs ((5 * t) + 3))) (uEv (xs ((5 * t) + 1)) (xs ((5 * t) + 2)) (xs ((5 * t) + 3))) S)) ag_0]
  refine wa_istore (lv' := [(6, .int (mR (kEv S (xs ((5 * t) + 1)) (xs ((5 * t) + 2)) (xs ((5 * t) + 3))) (rEv S (xs ((5 * t) + 1)) (xs ((5 * t) + 2)) (xs ((5 * t) + 3))))), (5, .int (kEv S (xs ((5 * t) + 1)) (xs ((5 * t) + 2)) (xs ((5 * t) + 3)))), (4, .int (nI (5 * t))), (3, .ref 1), (2, .ref 2), (1, .ref 0), (0, .ref 3)]) F dL_law_1632 (by decide) rfl ?_
  refine wa_aload_n F dL_law_1634 (i := 2) rfl 4 rfl ?_
  refine wa_callV F [] (c_X6_thrown hst D TC s.heap ad1 (sU (kU (kEv S (xs ((5 * t) + 1)) (xs ((5 * t) + 2)) (xs ((5 * t) + 3))) (uEv (xs ((5 * t) + 1)) (xs ((5 * t) + 2)) (xs ((5 * t) + 3))) S) 0 0 (kEv S (xs ((5 * t) + 1)) (xs ((5 * t) + 2)) (xs ((5 * t) + 3)))) (sU (kU (kEv S (xs ((5 * t) + 1)) (xs ((5 * t) + 2)) (xs ((5 * t) + 3))) (uEv (xs ((5 * t) + 1)) (xs ((5 * t) + 2)) (xs ((5 * t) + 3))) S) 0 0 (kEv S (xs ((5 * t) + 1)) (xs ((5 * t) + 2)) (xs ((5 * t) + 3)))) (kO (kEv S (xs ((5 * t) + 1)) (xs ((5 * t) + 2)) (xs ((5 * t) + 3))) (rEv S (xs ((5 * t) + 1)) (xs ((5 * t) + 2)) (xs ((5 * t) + 3))) o)) mw_X6_thrown ml_L_126 hm_m rfl rfl (Nat.le_of_ble_eq_true rfl) ⟨(Nat.le_of_ble_eq_true rfl), (Nat.le_of_ble_eq_true rfl)⟩ ⟨show _ ≤ 601024 by omega, show _ ≤ 7293034 by omega⟩ dL_law_1635 PR_ag (fun _ z => z.elim) ?_
  rintro _ _ _ ⟨rfl, rfl, rfl⟩
  rw [show (sU (kU (kEv S (xs ((5 * t) + 1)) (xs ((5 * t) + 2)) (xs ((5 * t) + 3))) (uEv (xs ((5 * t) + 1)) (xs ((5 * t) + 2)) (xs ((5 * t) + 3))) S) 0 0 (kEv S (xs ((5 * t) + 1)) (xs ((5 * t) + 2)) (xs ((5 * t) + 3)))) 0 0 = kEv S (xs ((5 * t) + 1)) (xs ((5 * t) + 2)) (xs ((5 * t) + 3)) from by rw [sU_eq, if_pos rfl]]
  refine wa_iload F dL_law_1638 1 rfl ?_
  refine wa_icmp_eq (tgt := 1645) F dL_law_1640 (by decide) (fun _ => ?_) (fun z => absurd rfl z)
  refine wa_iload F dL_law_1645 1 rfl ?_
  refine wa_if_ne (tgt := 1662) F dL_law_1647 (by decide) (fun c1647 => ?_) (fun c1647 => ?_)
  · skip
    refine wa_goto (tgt := 2469) F dL_law_1662 (by decide) ?_
    refine wa_lv (lv' := [(4, .int (nI (5 * t))), (3, .ref 1), (2, .ref 2), (1, .ref 0), (0, .ref 3)]) [2, 3, 4, 5, 6] rfl ?_
    refine wa_widen (k := cells + 4) (n := slots + 39) (by omega) (by omega) ?_
    exact K _ _ _ (INV_0 hiX) had1
  · skip
    have eo : (kO (kEv S (xs ((5 * t) + 1)) (xs ((5 * t) + 2)) (xs ((5 * t) + 3))) (rEv S (xs ((5 * t) + 1)) (xs ((5 * t) + 2)) (xs ((5 * t) + 3))) o) 0 = (rEv S (xs ((5 * t) + 1)) (xs ((5 * t) + 2)) (xs ((5 * t) + 3))).toInt64 := by rw [c1647, kO_0]; exact if_pos rfl
    have er : mR (kEv S (xs ((5 * t) + 1)) (xs ((5 * t) + 2)) (xs ((5 * t) + 3))) (rEv S (xs ((5 * t) + 1)) (xs ((5 * t) + 2)) (xs ((5 * t) + 3))) = rEv S (xs ((5 * t) + 1)) (xs ((5 * t) + 2)) (xs ((5 * t) + 3)) := by rw [c1647, mR_0]
    refine wa_aload_n F dL_law_1650 (i := 3) rfl 3 rfl ?_
    refine wa_iconst (v := 0) F dL_law_1651 (by decide) ?_
    refine wa_lald F 1 rfl (hm_o (TC := TC) (X := (sU (kU (kEv S (xs ((5 * t) + 1)) (xs ((5 * t) + 2)) (xs ((5 * t) + 3))) (uEv (xs ((5 * t) + 1)) (xs ((5 * t) + 2)) (xs ((5 * t) + 3))) S) 0 0 (kEv S (xs ((5 * t) + 1)) (xs ((5 * t) + 2)) (xs ((5 * t) + 3))))) (S := (sU (kU (kEv S (xs ((5 * t) + 1)) (xs ((5 * t) + 2)) (xs ((5 * t) + 3))) (uEv (xs ((5 * t) + 1)) (xs ((5 * t) + 2)) (xs ((5 * t) + 3))) S) 0 0 (kEv S (xs ((5 * t) + 1)) (xs ((5 * t) + 2)) (xs ((5 * t) + 3))))) (o := (kO (kEv S (xs ((5 * t) + 1)) (xs ((5 * t) + 2)) (xs ((5 * t) + 3))) (rEv S (xs ((5 * t) + 1)) (xs ((5 * t) + 2)) (xs ((5 * t) + 3))) o))) 0 rfl (by decide) (by decide) dL_law_1652 ?_
    refine wa_iload F dL_law_1653 0 rfl ?_
    refine wa_i2l F dL_law_1655 rfl ?_
    have eo1 : (kO (kEv S (xs ((5 * t) + 1)) (xs ((5 * t) + 2)) (xs ((5 * t) + 3))) (rEv S (xs ((5 * t) + 1)) (xs ((5 * t) + 2)) (xs ((5 * t) + 3))) o) 0 = (mR (kEv S (xs ((5 * t) + 1)) (xs ((5 * t) + 2)) (xs ((5 * t) + 3))) (rEv S (xs ((5 * t) + 1)) (xs ((5 * t) + 2)) (xs ((5 * t) + 3)))).toInt64 := by rw [er]; exact eo
    refine wa_lcmp F dL_law_1656 ?_
    refine wa_if_eq (tgt := 1662) F dL_law_1657 (by decide) (fun _ => ?_) (fun z => absurd ((lg_cmp_eq _ _).mpr eo1) z)
    refine wa_goto (tgt := 2469) F dL_law_1662 (by decide) ?_
    refine wa_lv (lv' := [(4, .int (nI (5 * t))), (3, .ref 1), (2, .ref 2), (1, .ref 0), (0, .ref 3)]) [2, 3, 4, 5, 6] rfl ?_
    refine wa_widen (k := cells + 4) (n := slots + 39) (by omega) (by omega) ?_
    exact K _ _ _ (INV_0 hiX) had1
set_option maxHeartbeats 4000000 in
set_option maxRecDepth 20000 in
theorem law_20 {p : Program} {l : Launch} {e : Env} {s : State} {m : MethodId} {below : List Frame} {meth : Method} {c : Code} {b L : Nat} {xs : Nat → Int32} {D : va_G} {TC : Nat → ClassId} {Q : State → Prop} {ret : Option FieldType} {nm : String} {tb : List ExceptionTableEntry} (F : FX D (tysOf TC) s.heap p l s m #[.ref b] meth c RL cL_law 7 ret nm tb) (hst : l.stackTraces = false) (hX : va_X b L xs s s.heap) (hbs : b < s.heap.size) (hbl : b < s.heap.size) (hL : L < 2 ^ 31)
    (ad : Nat → Nat) (had : ad 3 = b) (S : St) (o : Nat → Int64) (t : Nat) (hi : INV t S) (ht : t < 512) (h5 : 5 * t + 5 ≤ L) (cells slots : Nat) (hcl : cells + 4 ≤ 601024) (hsl : slots + 39 ≤ 7293034)
    (K : ∀ (S1 : St) (o1 : Nat → Int64) (ad1 : Nat → Nat), INV (t + 1) S1 → ad1 3 = b → WA D s.heap p l e room_1 s m #[.ref b] below meth c 7 Q ad1 (hall TC S1 S1 o1) (cells + 4) (slots + 39) 2469 [(4, .int (nI (5 * t))), (3, .ref 1), (2, .ref 2), (1, .ref 0), (0, .ref 3)] []) : WA D s.heap p l e room_1 s m #[.ref b] below meth c 7 Q ad (hall TC S S o) cells slots 1665 [(4, .int (nI (5 * t))), (3, .ref 1), (2, .ref 2), (1, .ref 0), (0, .ref 3)] [] := by
  refine wa_aload_n F dL_law_1665 (i := 1) rfl 3 rfl ?_
  refine wa_aload_n F dL_law_1666 (i := 0) rfl 4 rfl ?_
  refine wa_iload F dL_law_1667 0 rfl ?_
  refine wa_iconst (v := 1) F dL_law_1669 (by decide) ?_
  refine wa_iaddN F dL_law_1670 (a := 5 * t) (b := 1) rfl rfl ?_
  refine wa_sld F hX hbs hbl had ((5 * t) + 1) rfl (by omega) hL dL_law_1671 ?_
  refine wa_aload_n F dL_law_1672 (i := 0) rfl 4 rfl ?_
  refine wa_iload F dL_law_1673 0 rfl ?_
  refine wa_iconst (v := 2) F dL_law_1675 (by decide) ?_
  refine wa_iaddN F dL_law_1676 (a := 5 * t) (b := 2) rfl rfl ?_
  refine wa_sld F hX hbs hbl had ((5 * t) + 2) rfl (by omega) hL dL_law_1677 ?_
  refine wa_aload_n F dL_law_1678 (i := 0) rfl 4 rfl ?_
  refine wa_iload F dL_law_1679 0 rfl ?_
  refine wa_iconst (v := 3) F dL_law_1681 (by decide) ?_
  refine wa_iaddN F dL_law_1682 (a := 5 * t) (b := 3) rfl rfl ?_
  refine wa_sld F hX hbs hbl had ((5 * t) + 3) rfl (by omega) hL dL_law_1683 ?_
  refine wa_aload_n F dL_law_1684 (i := 3) rfl 1 rfl ?_
  have hiX : INV (t + 1) (kU (kRc S (xs ((5 * t) + 1)) (xs ((5 * t) + 2)) (xs ((5 * t) + 3))) (uRc (xs ((5 * t) + 1)) (xs ((5 * t) + 2)) (xs ((5 * t) + 3))) S) := (st_recall hi)
  have hnr3 : noRef (hall TC (kU (kRc S (xs ((5 * t) + 1)) (xs ((5 * t) + 2)) (xs ((5 * t) + 3))) (uRc (xs ((5 * t) + 1)) (xs ((5 * t) + 2)) (xs ((5 * t) + 3))) S) S (kO (kRc S (xs ((5 * t) + 1)) (xs ((5 * t) + 2)) (xs ((5 * t) + 3))) (rRc S (xs ((5 * t) + 1)) (xs ((5 * t) + 2)) (xs ((5 * t) + 3))) o)) 3 := hall_nr (Or.inl rfl) rfl hiX.1.2 hiX.2.1.2 hiX.2.2.1.2 hiX.2.2.2.1.2 hiX.2.2.2.2.1.2 hiX.2.2.2.2.2.2.2.1
  refine wa_callH3 F [] (c_L_recall hst D TC s.heap ad S S o (xs ((5 * t) + 1)) (xs ((5 * t) + 2)) (xs ((5 * t) + 3)) t hi) mw_L_recall ml_L_191 rfl hnr3 rfl (Nat.le_of_ble_eq_true rfl) ⟨(Nat.le_of_ble_eq_true rfl), (Nat.le_of_ble_eq_true rfl)⟩ ⟨show _ ≤ 601024 by omega, show _ ≤ 7293034 by omega⟩ dL_law_1685 (by intro y hy; simp only [List.mem_cons, List.not_mem_nil, or_false] at hy; rcases hy with rfl | rfl | rfl | rfl | rfl <;> intro z hz <;> first | (cases hz; exact Or.inl rfl) | (cases hz; exact Or.inr (by simp [hm_c, hm_m, hm_o])) | cases hz) rfl ?_
  intro ad1 had1
  replace had1 : ad1 3 = b := had1.trans had
  refine wa_istore (lv' := [(5, .int (kRc S (xs ((5 * t) + 1)) (xs ((5 * t) + 2)) (xs ((5 * t) + 3)))), (4, .int (nI (5 * t))), (3, .ref 1), (2, .ref 2), (1, .ref 0), (0, .ref 3)]) F dL_law_1688 (by decide) rfl ?_
  refine wa_aload_n F dL_law_1690 (i := 2) rfl 3 rfl ?_
  refine wa_aload_n F dL_law_1691 (i := 0) rfl 5 rfl ?_
  refine wa_iload F dL_law_1692 1 rfl ?_
  refine wa_iconst (v := 1) F dL_law_1694 (by decide) ?_
  refine wa_iaddN F dL_law_1695 (a := 5 * t) (b := 1) rfl rfl ?_
  refine wa_sld F hX hbs hbl had1 ((5 * t) + 1) rfl (by omega) hL dL_law_1696 ?_
  refine wa_aload_n F dL_law_1697 (i := 0) rfl 5 rfl ?_
  refine wa_iload F dL_law_1698 1 rfl ?_
  refine wa_iconst (v := 2) F dL_law_1700 (by decide) ?_
  refine wa_iaddN F dL_law_1701 (a := 5 * t) (b := 2) rfl rfl ?_
  refine wa_sld F hX hbs hbl had1 ((5 * t) + 2) rfl (by omega) hL dL_law_1702 ?_
  refine wa_aload_n F dL_law_1703 (i := 0) rfl 5 rfl ?_
  refine wa_iload F dL_law_1704 1 rfl ?_
  refine wa_iconst (v := 3) F dL_law_1706 (by decide) ?_
  refine wa_iaddN F dL_law_1707 (a := 5 * t) (b := 3) rfl rfl ?_
  refine wa_sld F hX hbs hbl had1 ((5 * t) + 3) rfl (by omega) hL dL_law_1708 ?_
  refine wa_callV F [] (c_X6_recall hst D TC s.heap ad1 (kU (kRc S (xs ((5 * t) + 1)) (xs ((5 * t) + 2)) (xs ((5 * t) + 3))) (uRc (xs ((5 * t) + 1)) (xs ((5 * t) + 2)) (xs ((5 * t) + 3))) S) S (kO (kRc S (xs ((5 * t) + 1)) (xs ((5 * t) + 2)) (xs ((5 * t) + 3))) (rRc S (xs ((5 * t) + 1)) (xs ((5 * t) + 2)) (xs ((5 * t) + 3))) o) (xs ((5 * t) + 1)) (xs ((5 * t) + 2)) (xs ((5 * t) + 3)) t hi) mw_X6_recall ml_L_193 hm_m rfl rfl (Nat.le_of_ble_eq_true rfl) ⟨(Nat.le_of_ble_eq_true rfl), (Nat.le_of_ble_eq_true rfl)⟩ ⟨show _ ≤ 601024 by omega, show _ ≤ 7293034 by omega⟩ dL_law_1709 PR_ag (fun _ z => z.elim) ?_
  rintro _ _ _ ⟨rfl, rfl, rfl⟩
  rw [mS_eq (S := S) (fun w => c0_recall), hall_ag (X := (kU (kRc S (xs ((5 * t) + 1)) (xs ((5 * t) + 2)) (xs ((5 * t) + 3))) (uRc (xs ((5 * t) + 1)) (xs ((5 * t) + 2)) (xs ((5 * t) + 3))) S)) ag_0]
  refine wa_istore (lv' := [(6, .int (mR (kRc S (xs ((5 * t) + 1)) (xs ((5 * t) + 2)) (xs ((5 * t) + 3))) (rRc S (xs ((5 * t) + 1)) (xs ((5 * t) + 2)) (xs ((5 * t) + 3))))), (5, .int (kRc S (xs ((5 * t) + 1)) (xs ((5 * t) + 2)) (xs ((5 * t) + 3)))), (4, .int (nI (5 * t))), (3, .ref 1), (2, .ref 2), (1, .ref 0), (0, .ref 3)]) F dL_law_1712 (by decide) rfl ?_
  refine wa_aload_n F dL_law_1714 (i := 2) rfl 4 rfl ?_
  refine wa_callV F [] (c_X6_thrown hst D TC s.heap ad1 (sU (kU (kRc S (xs ((5 * t) + 1)) (xs ((5 * t) + 2)) (xs ((5 * t) + 3))) (uRc (xs ((5 * t) + 1)) (xs ((5 * t) + 2)) (xs ((5 * t) + 3))) S) 0 0 (kRc S (xs ((5 * t) + 1)) (xs ((5 * t) + 2)) (xs ((5 * t) + 3)))) (sU (kU (kRc S (xs ((5 * t) + 1)) (xs ((5 * t) + 2)) (xs ((5 * t) + 3))) (uRc (xs ((5 * t) + 1)) (xs ((5 * t) + 2)) (xs ((5 * t) + 3))) S) 0 0 (kRc S (xs ((5 * t) + 1)) (xs ((5 * t) + 2)) (xs ((5 * t) + 3)))) (kO (kRc S (xs ((5 * t) + 1)) (xs ((5 * t) + 2)) (xs ((5 * t) + 3))) (rRc S (xs ((5 * t) + 1)) (xs ((5 * t) + 2)) (xs ((5 * t) + 3))) o)) mw_X6_thrown ml_L_126 hm_m rfl rfl (Nat.le_of_ble_eq_true rfl) ⟨(Nat.le_of_ble_eq_true rfl), (Nat.le_of_ble_eq_true rfl)⟩ ⟨show _ ≤ 601024 by omega, show _ ≤ 7293034 by omega⟩ dL_law_1715 PR_ag (fun _ z => z.elim) ?_
  rintro _ _ _ ⟨rfl, rfl, rfl⟩
  rw [show (sU (kU (kRc S (xs ((5 * t) + 1)) (xs ((5 * t) + 2)) (xs ((5 * t) + 3))) (uRc (xs ((5 * t) + 1)) (xs ((5 * t) + 2)) (xs ((5 * t) + 3))) S) 0 0 (kRc S (xs ((5 * t) + 1)) (xs ((5 * t) + 2)) (xs ((5 * t) + 3)))) 0 0 = kRc S (xs ((5 * t) + 1)) (xs ((5 * t) + 2)) (xs ((5 * t) + 3)) from by rw [sU_eq, if_pos rfl]]
  refine wa_iload F dL_law_1718 1 rfl ?_
  refine wa_icmp_eq (tgt := 1725) F dL_law_1720 (by decide) (fun _ => ?_) (fun z => absurd rfl z)
  refine wa_iload F dL_law_1725 1 rfl ?_
  refine wa_if_ne (tgt := 1742) F dL_law_1727 (by decide) (fun c1727 => ?_) (fun c1727 => ?_)
  · skip
    refine wa_goto (tgt := 2469) F dL_law_1742 (by decide) ?_
    refine wa_lv (lv' := [(4, .int (nI (5 * t))), (3, .ref 1), (2, .ref 2), (1, .ref 0), (0, .ref 3)]) [2, 3, 4, 5, 6] rfl ?_
    refine wa_widen (k := cells + 4) (n := slots + 39) (by omega) (by omega) ?_
    exact K _ _ _ (INV_0 hiX) had1
  · skip
    have eo : (kO (kRc S (xs ((5 * t) + 1)) (xs ((5 * t) + 2)) (xs ((5 * t) + 3))) (rRc S (xs ((5 * t) + 1)) (xs ((5 * t) + 2)) (xs ((5 * t) + 3))) o) 0 = (rRc S (xs ((5 * t) + 1)) (xs ((5 * t) + 2)) (xs ((5 * t) + 3))).toInt64 := by rw [c1727, kO_0]; exact if_pos rfl
    have er : mR (kRc S (xs ((5 * t) + 1)) (xs ((5 * t) + 2)) (xs ((5 * t) + 3))) (rRc S (xs ((5 * t) + 1)) (xs ((5 * t) + 2)) (xs ((5 * t) + 3))) = rRc S (xs ((5 * t) + 1)) (xs ((5 * t) + 2)) (xs ((5 * t) + 3)) := by rw [c1727, mR_0]
    refine wa_aload_n F dL_law_1730 (i := 3) rfl 3 rfl ?_
    refine wa_iconst (v := 0) F dL_law_1731 (by decide) ?_
    refine wa_lald F 1 rfl (hm_o (TC := TC) (X := (sU (kU (kRc S (xs ((5 * t) + 1)) (xs ((5 * t) + 2)) (xs ((5 * t) + 3))) (uRc (xs ((5 * t) + 1)) (xs ((5 * t) + 2)) (xs ((5 * t) + 3))) S) 0 0 (kRc S (xs ((5 * t) + 1)) (xs ((5 * t) + 2)) (xs ((5 * t) + 3))))) (S := (sU (kU (kRc S (xs ((5 * t) + 1)) (xs ((5 * t) + 2)) (xs ((5 * t) + 3))) (uRc (xs ((5 * t) + 1)) (xs ((5 * t) + 2)) (xs ((5 * t) + 3))) S) 0 0 (kRc S (xs ((5 * t) + 1)) (xs ((5 * t) + 2)) (xs ((5 * t) + 3))))) (o := (kO (kRc S (xs ((5 * t) + 1)) (xs ((5 * t) + 2)) (xs ((5 * t) + 3))) (rRc S (xs ((5 * t) + 1)) (xs ((5 * t) + 2)) (xs ((5 * t) + 3))) o))) 0 rfl (by decide) (by decide) dL_law_1732 ?_
    refine wa_iload F dL_law_1733 0 rfl ?_
    refine wa_i2l F dL_law_1735 rfl ?_
    have eo1 : (kO (kRc S (xs ((5 * t) + 1)) (xs ((5 * t) + 2)) (xs ((5 * t) + 3))) (rRc S (xs ((5 * t) + 1)) (xs ((5 * t) + 2)) (xs ((5 * t) + 3))) o) 0 = (mR (kRc S (xs ((5 * t) + 1)) (xs ((5 * t) + 2)) (xs ((5 * t) + 3))) (rRc S (xs ((5 * t) + 1)) (xs ((5 * t) + 2)) (xs ((5 * t) + 3)))).toInt64 := by rw [er]; exact eo
    refine wa_lcmp F dL_law_1736 ?_
    refine wa_if_eq (tgt := 1742) F dL_law_1737 (by decide) (fun _ => ?_) (fun z => absurd ((lg_cmp_eq _ _).mpr eo1) z)
    refine wa_goto (tgt := 2469) F dL_law_1742 (by decide) ?_
    refine wa_lv (lv' := [(4, .int (nI (5 * t))), (3, .ref 1), (2, .ref 2), (1, .ref 0), (0, .ref 3)]) [2, 3, 4, 5, 6] rfl ?_
    refine wa_widen (k := cells + 4) (n := slots + 39) (by omega) (by omega) ?_
    exact K _ _ _ (INV_0 hiX) had1
set_option maxHeartbeats 4000000 in
set_option maxRecDepth 20000 in
theorem law_21 {p : Program} {l : Launch} {e : Env} {s : State} {m : MethodId} {below : List Frame} {meth : Method} {c : Code} {b L : Nat} {xs : Nat → Int32} {D : va_G} {TC : Nat → ClassId} {Q : State → Prop} {ret : Option FieldType} {nm : String} {tb : List ExceptionTableEntry} (F : FX D (tysOf TC) s.heap p l s m #[.ref b] meth c RL cL_law 7 ret nm tb) (hst : l.stackTraces = false) (hX : va_X b L xs s s.heap) (hbs : b < s.heap.size) (hbl : b < s.heap.size) (hL : L < 2 ^ 31)
    (ad : Nat → Nat) (had : ad 3 = b) (S : St) (o : Nat → Int64) (t : Nat) (hi : INV t S) (ht : t < 512) (h5 : 5 * t + 5 ≤ L) (cells slots : Nat) (hcl : cells + 4 ≤ 601024) (hsl : slots + 39 ≤ 7293034)
    (K : ∀ (S1 : St) (o1 : Nat → Int64) (ad1 : Nat → Nat), INV (t + 1) S1 → ad1 3 = b → WA D s.heap p l e room_1 s m #[.ref b] below meth c 7 Q ad1 (hall TC S1 S1 o1) (cells + 4) (slots + 39) 2469 [(4, .int (nI (5 * t))), (3, .ref 1), (2, .ref 2), (1, .ref 0), (0, .ref 3)] []) : WA D s.heap p l e room_1 s m #[.ref b] below meth c 7 Q ad (hall TC S S o) cells slots 1745 [(4, .int (nI (5 * t))), (3, .ref 1), (2, .ref 2), (1, .ref 0), (0, .ref 3)] [] := by
  refine wa_aload_n F dL_law_1745 (i := 1) rfl 3 rfl ?_
  refine wa_aload_n F dL_law_1746 (i := 0) rfl 4 rfl ?_
  refine wa_iload F dL_law_1747 0 rfl ?_
  refine wa_iconst (v := 1) F dL_law_1749 (by decide) ?_
  refine wa_iaddN F dL_law_1750 (a := 5 * t) (b := 1) rfl rfl ?_
  refine wa_sld F hX hbs hbl had ((5 * t) + 1) rfl (by omega) hL dL_law_1751 ?_
  refine wa_aload_n F dL_law_1752 (i := 0) rfl 4 rfl ?_
  refine wa_iload F dL_law_1753 0 rfl ?_
  refine wa_iconst (v := 2) F dL_law_1755 (by decide) ?_
  refine wa_iaddN F dL_law_1756 (a := 5 * t) (b := 2) rfl rfl ?_
  refine wa_sld F hX hbs hbl had ((5 * t) + 2) rfl (by omega) hL dL_law_1757 ?_
  refine wa_aload_n F dL_law_1758 (i := 0) rfl 4 rfl ?_
  refine wa_iload F dL_law_1759 0 rfl ?_
  refine wa_iconst (v := 3) F dL_law_1761 (by decide) ?_
  refine wa_iaddN F dL_law_1762 (a := 5 * t) (b := 3) rfl rfl ?_
  refine wa_sld F hX hbs hbl had ((5 * t) + 3) rfl (by omega) hL dL_law_1763 ?_
  refine wa_if_eq (tgt := 1771) F dL_law_1764 (by decide) (fun c1764 => ?_) (fun c1764 => ?_)
  · skip
    refine wa_iconst (v := 0) F dL_law_1771 (by decide) ?_
    refine wa_aload_n F dL_law_1772 (i := 3) rfl 1 rfl ?_
    have hiX : INV (t + 1) (kU (kBa S (xs ((5 * t) + 1)) (xs ((5 * t) + 2))) (uBa (xs ((5 * t) + 1)) (xs ((5 * t) + 2)) false) S) := (st_ban hi)
    have hnr3 : noRef (hall TC (kU (kBa S (xs ((5 * t) + 1)) (xs ((5 * t) + 2))) (uBa (xs ((5 * t) + 1)) (xs ((5 * t) + 2)) false) S) S (kO (kBa S (xs ((5 * t) + 1)) (xs ((5 * t) + 2))) (rBa S (xs ((5 * t) + 1)) (xs ((5 * t) + 2)) false) o)) 3 := hall_nr (Or.inl rfl) rfl hiX.1.2 hiX.2.1.2 hiX.2.2.1.2 hiX.2.2.2.1.2 hiX.2.2.2.2.1.2 hiX.2.2.2.2.2.2.2.1
    refine wa_callH3 F [] (c_L_ban hst D TC s.heap ad S S o (xs ((5 * t) + 1)) (xs ((5 * t) + 2)) false t hi) mw_L_ban ml_L_194 rfl hnr3 rfl (Nat.le_of_ble_eq_true rfl) ⟨(Nat.le_of_ble_eq_true rfl), (Nat.le_of_ble_eq_true rfl)⟩ ⟨show _ ≤ 601024 by omega, show _ ≤ 7293034 by omega⟩ dL_law_1773 (by intro y hy; simp only [List.mem_cons, List.not_mem_nil, or_false] at hy; rcases hy with rfl | rfl | rfl | rfl | rfl <;> intro z hz <;> first | (cases hz; exact Or.inl rfl) | (cases hz; exact Or.inr (by simp [hm_c, hm_m, hm_o])) | cases hz) rfl ?_
    intro ad1 had1
    replace had1 : ad1 3 = b := had1.trans had
    refine wa_istore (lv' := [(5, .int (kBa S (xs ((5 * t) + 1)) (xs ((5 * t) + 2)))), (4, .int (nI (5 * t))), (3, .ref 1), (2, .ref 2), (1, .ref 0), (0, .ref 3)]) F dL_law_1776 (by decide) rfl ?_
    refine wa_aload_n F dL_law_1778 (i := 2) rfl 3 rfl ?_
    refine wa_aload_n F dL_law_1779 (i := 0) rfl 5 rfl ?_
    refine wa_iload F dL_law_1780 1 rfl ?_
    refine wa_iconst (v := 1) F dL_law_1782 (by decide) ?_
    refine wa_iaddN F dL_law_1783 (a := 5 * t) (b := 1) rfl rfl ?_
    refine wa_sld F hX hbs hbl had1 ((5 * t) + 1) rfl (by omega) hL dL_law_1784 ?_
    refine wa_aload_n F dL_law_1785 (i := 0) rfl 5 rfl ?_
    refine wa_iload F dL_law_1786 1 rfl ?_
    refine wa_iconst (v := 2) F dL_law_1788 (by decide) ?_
    refine wa_iaddN F dL_law_1789 (a := 5 * t) (b := 2) rfl rfl ?_
    refine wa_sld F hX hbs hbl had1 ((5 * t) + 2) rfl (by omega) hL dL_law_1790 ?_
    refine wa_aload_n F dL_law_1791 (i := 0) rfl 5 rfl ?_
    refine wa_iload F dL_law_1792 1 rfl ?_
    refine wa_iconst (v := 3) F dL_law_1794 (by decide) ?_
    refine wa_iaddN F dL_law_1795 (a := 5 * t) (b := 3) rfl rfl ?_
    refine wa_sld F hX hbs hbl had1 ((5 * t) + 3) rfl (by omega) hL dL_law_1796 ?_
    refine wa_if_eq (tgt := 1804) F dL_law_1797 (by decide) (fun _ => ?_) (fun z => absurd c1764 z)
    refine wa_iconst (v := 0) F dL_law_1804 (by decide) ?_
    refine wa_callV F [] (c_X6_ban hst D TC s.heap ad1 (kU (kBa S (xs ((5 * t) + 1)) (xs ((5 * t) + 2))) (uBa (xs ((5 * t) + 1)) (xs ((5 * t) + 2)) false) S) S (kO (kBa S (xs ((5 * t) + 1)) (xs ((5 * t) + 2))) (rBa S (xs ((5 * t) + 1)) (xs ((5 * t) + 2)) false) o) (xs ((5 * t) + 1)) (xs ((5 * t) + 2)) false t hi) mw_X6_ban ml_L_197 hm_m rfl rfl (Nat.le_of_ble_eq_true rfl) ⟨(Nat.le_of_ble_eq_true rfl), (Nat.le_of_ble_eq_true rfl)⟩ ⟨show _ ≤ 601024 by omega, show _ ≤ 7293034 by omega⟩ dL_law_1805 PR_ag (fun _ z => z.elim) ?_
    rintro _ _ _ ⟨rfl, rfl, rfl⟩
    rw [mS_eq (S := S) (fun w => c0_ban), hall_ag (X := (kU (kBa S (xs ((5 * t) + 1)) (xs ((5 * t) + 2))) (uBa (xs ((5 * t) + 1)) (xs ((5 * t) + 2)) false) S)) ag_0]
    refine wa_istore (lv' := [(6, .int (mR (kBa S (xs ((5 * t) + 1)) (xs ((5 * t) + 2))) (rBa S (xs ((5 * t) + 1)) (xs ((5 * t) + 2)) false))), (5, .int (kBa S (xs ((5 * t) + 1)) (xs ((5 * t) + 2)))), (4, .int (nI (5 * t))), (3, .ref 1), (2, .ref 2), (1, .ref 0), (0, .ref 3)]) F dL_law_1808 (by decide) rfl ?_
    refine wa_aload_n F dL_law_1810 (i := 2) rfl 4 rfl ?_
    refine wa_callV F [] (c_X6_thrown hst D TC s.heap ad1 (sU (kU (kBa S (xs ((5 * t) + 1)) (xs ((5 * t) + 2))) (uBa (xs ((5 * t) + 1)) (xs ((5 * t) + 2)) false) S) 0 0 (kBa S (xs ((5 * t) + 1)) (xs ((5 * t) + 2)))) (sU (kU (kBa S (xs ((5 * t) + 1)) (xs ((5 * t) + 2))) (uBa (xs ((5 * t) + 1)) (xs ((5 * t) + 2)) false) S) 0 0 (kBa S (xs ((5 * t) + 1)) (xs ((5 * t) + 2)))) (kO (kBa S (xs ((5 * t) + 1)) (xs ((5 * t) + 2))) (rBa S (xs ((5 * t) + 1)) (xs ((5 * t) + 2)) false) o)) mw_X6_thrown ml_L_126 hm_m rfl rfl (Nat.le_of_ble_eq_true rfl) ⟨(Nat.le_of_ble_eq_true rfl), (Nat.le_of_ble_eq_true rfl)⟩ ⟨show _ ≤ 601024 by omega, show _ ≤ 7293034 by omega⟩ dL_law_1811 PR_ag (fun _ z => z.elim) ?_
    rintro _ _ _ ⟨rfl, rfl, rfl⟩
    rw [show (sU (kU (kBa S (xs ((5 * t) + 1)) (xs ((5 * t) + 2))) (uBa (xs ((5 * t) + 1)) (xs ((5 * t) + 2)) false) S) 0 0 (kBa S (xs ((5 * t) + 1)) (xs ((5 * t) + 2)))) 0 0 = kBa S (xs ((5 * t) + 1)) (xs ((5 * t) + 2)) from by rw [sU_eq, if_pos rfl]]
    refine wa_iload F dL_law_1814 1 rfl ?_
    refine wa_icmp_eq (tgt := 1821) F dL_law_1816 (by decide) (fun _ => ?_) (fun z => absurd rfl z)
    refine wa_iload F dL_law_1821 1 rfl ?_
    refine wa_if_ne (tgt := 1838) F dL_law_1823 (by decide) (fun c1823 => ?_) (fun c1823 => ?_)
    · skip
      refine wa_goto (tgt := 2469) F dL_law_1838 (by decide) ?_
      refine wa_lv (lv' := [(4, .int (nI (5 * t))), (3, .ref 1), (2, .ref 2), (1, .ref 0), (0, .ref 3)]) [2, 3, 4, 5, 6] rfl ?_
      refine wa_widen (k := cells + 4) (n := slots + 39) (by omega) (by omega) ?_
      exact K _ _ _ (INV_0 hiX) had1
    · skip
      have eo : (kO (kBa S (xs ((5 * t) + 1)) (xs ((5 * t) + 2))) (rBa S (xs ((5 * t) + 1)) (xs ((5 * t) + 2)) false) o) 0 = (rBa S (xs ((5 * t) + 1)) (xs ((5 * t) + 2)) false).toInt64 := by rw [c1823, kO_0]; exact if_pos rfl
      have er : mR (kBa S (xs ((5 * t) + 1)) (xs ((5 * t) + 2))) (rBa S (xs ((5 * t) + 1)) (xs ((5 * t) + 2)) false) = rBa S (xs ((5 * t) + 1)) (xs ((5 * t) + 2)) false := by rw [c1823, mR_0]
      refine wa_aload_n F dL_law_1826 (i := 3) rfl 3 rfl ?_
      refine wa_iconst (v := 0) F dL_law_1827 (by decide) ?_
      refine wa_lald F 1 rfl (hm_o (TC := TC) (X := (sU (kU (kBa S (xs ((5 * t) + 1)) (xs ((5 * t) + 2))) (uBa (xs ((5 * t) + 1)) (xs ((5 * t) + 2)) false) S) 0 0 (kBa S (xs ((5 * t) + 1)) (xs ((5 * t) + 2))))) (S := (sU (kU (kBa S (xs ((5 * t) + 1)) (xs ((5 * t) + 2))) (uBa (xs ((5 * t) + 1)) (xs ((5 * t) + 2)) false) S) 0 0 (kBa S (xs ((5 * t) + 1)) (xs ((5 * t) + 2))))) (o := (kO (kBa S (xs ((5 * t) + 1)) (xs ((5 * t) + 2))) (rBa S (xs ((5 * t) + 1)) (xs ((5 * t) + 2)) false) o))) 0 rfl (by decide) (by decide) dL_law_1828 ?_
      refine wa_iload F dL_law_1829 0 rfl ?_
      refine wa_i2l F dL_law_1831 rfl ?_
      have eo1 : (kO (kBa S (xs ((5 * t) + 1)) (xs ((5 * t) + 2))) (rBa S (xs ((5 * t) + 1)) (xs ((5 * t) + 2)) false) o) 0 = (mR (kBa S (xs ((5 * t) + 1)) (xs ((5 * t) + 2))) (rBa S (xs ((5 * t) + 1)) (xs ((5 * t) + 2)) false)).toInt64 := by rw [er]; exact eo
      refine wa_lcmp F dL_law_1832 ?_
      refine wa_if_eq (tgt := 1838) F dL_law_1833 (by decide) (fun _ => ?_) (fun z => absurd ((lg_cmp_eq _ _).mpr eo1) z)
      refine wa_goto (tgt := 2469) F dL_law_1838 (by decide) ?_
      refine wa_lv (lv' := [(4, .int (nI (5 * t))), (3, .ref 1), (2, .ref 2), (1, .ref 0), (0, .ref 3)]) [2, 3, 4, 5, 6] rfl ?_
      refine wa_widen (k := cells + 4) (n := slots + 39) (by omega) (by omega) ?_
      exact K _ _ _ (INV_0 hiX) had1
  · skip
    refine wa_iconst (v := 1) F dL_law_1767 (by decide) ?_
    refine wa_goto (tgt := 1772) F dL_law_1768 (by decide) ?_
    refine wa_aload_n F dL_law_1772 (i := 3) rfl 1 rfl ?_
    have hiX : INV (t + 1) (kU (kBa S (xs ((5 * t) + 1)) (xs ((5 * t) + 2))) (uBa (xs ((5 * t) + 1)) (xs ((5 * t) + 2)) true) S) := (st_ban hi)
    have hnr3 : noRef (hall TC (kU (kBa S (xs ((5 * t) + 1)) (xs ((5 * t) + 2))) (uBa (xs ((5 * t) + 1)) (xs ((5 * t) + 2)) true) S) S (kO (kBa S (xs ((5 * t) + 1)) (xs ((5 * t) + 2))) (rBa S (xs ((5 * t) + 1)) (xs ((5 * t) + 2)) true) o)) 3 := hall_nr (Or.inl rfl) rfl hiX.1.2 hiX.2.1.2 hiX.2.2.1.2 hiX.2.2.2.1.2 hiX.2.2.2.2.1.2 hiX.2.2.2.2.2.2.2.1
    refine wa_callH3 F [] (c_L_ban hst D TC s.heap ad S S o (xs ((5 * t) + 1)) (xs ((5 * t) + 2)) true t hi) mw_L_ban ml_L_194 rfl hnr3 rfl (Nat.le_of_ble_eq_true rfl) ⟨(Nat.le_of_ble_eq_true rfl), (Nat.le_of_ble_eq_true rfl)⟩ ⟨show _ ≤ 601024 by omega, show _ ≤ 7293034 by omega⟩ dL_law_1773 (by intro y hy; simp only [List.mem_cons, List.not_mem_nil, or_false] at hy; rcases hy with rfl | rfl | rfl | rfl | rfl <;> intro z hz <;> first | (cases hz; exact Or.inl rfl) | (cases hz; exact Or.inr (by simp [hm_c, hm_m, hm_o])) | cases hz) rfl ?_
    intro ad1 had1
    replace had1 : ad1 3 = b := had1.trans had
    refine wa_istore (lv' := [(5, .int (kBa S (xs ((5 * t) + 1)) (xs ((5 * t) + 2)))), (4, .int (nI (5 * t))), (3, .ref 1), (2, .ref 2), (1, .ref 0), (0, .ref 3)]) F dL_law_1776 (by decide) rfl ?_
    refine wa_aload_n F dL_law_1778 (i := 2) rfl 3 rfl ?_
    refine wa_aload_n F dL_law_1779 (i := 0) rfl 5 rfl ?_
    refine wa_iload F dL_law_1780 1 rfl ?_
    refine wa_iconst (v := 1) F dL_law_1782 (by decide) ?_
    refine wa_iaddN F dL_law_1783 (a := 5 * t) (b := 1) rfl rfl ?_
    refine wa_sld F hX hbs hbl had1 ((5 * t) + 1) rfl (by omega) hL dL_law_1784 ?_
    refine wa_aload_n F dL_law_1785 (i := 0) rfl 5 rfl ?_
    refine wa_iload F dL_law_1786 1 rfl ?_
    refine wa_iconst (v := 2) F dL_law_1788 (by decide) ?_
    refine wa_iaddN F dL_law_1789 (a := 5 * t) (b := 2) rfl rfl ?_
    refine wa_sld F hX hbs hbl had1 ((5 * t) + 2) rfl (by omega) hL dL_law_1790 ?_
    refine wa_aload_n F dL_law_1791 (i := 0) rfl 5 rfl ?_
    refine wa_iload F dL_law_1792 1 rfl ?_
    refine wa_iconst (v := 3) F dL_law_1794 (by decide) ?_
    refine wa_iaddN F dL_law_1795 (a := 5 * t) (b := 3) rfl rfl ?_
    refine wa_sld F hX hbs hbl had1 ((5 * t) + 3) rfl (by omega) hL dL_law_1796 ?_
    refine wa_if_eq (tgt := 1804) F dL_law_1797 (by decide) (fun z => absurd z c1764) (fun _ => ?_)
    refine wa_iconst (v := 1) F dL_law_1800 (by decide) ?_
    refine wa_goto (tgt := 1805) F dL_law_1801 (by decide) ?_
    refine wa_callV F [] (c_X6_ban hst D TC s.heap ad1 (kU (kBa S (xs ((5 * t) + 1)) (xs ((5 * t) + 2))) (uBa (xs ((5 * t) + 1)) (xs ((5 * t) + 2)) true) S) S (kO (kBa S (xs ((5 * t) + 1)) (xs ((5 * t) + 2))) (rBa S (xs ((5 * t) + 1)) (xs ((5 * t) + 2)) true) o) (xs ((5 * t) + 1)) (xs ((5 * t) + 2)) true t hi) mw_X6_ban ml_L_197 hm_m rfl rfl (Nat.le_of_ble_eq_true rfl) ⟨(Nat.le_of_ble_eq_true rfl), (Nat.le_of_ble_eq_true rfl)⟩ ⟨show _ ≤ 601024 by omega, show _ ≤ 7293034 by omega⟩ dL_law_1805 PR_ag (fun _ z => z.elim) ?_
    rintro _ _ _ ⟨rfl, rfl, rfl⟩
    rw [mS_eq (S := S) (fun w => c0_ban), hall_ag (X := (kU (kBa S (xs ((5 * t) + 1)) (xs ((5 * t) + 2))) (uBa (xs ((5 * t) + 1)) (xs ((5 * t) + 2)) true) S)) ag_0]
    refine wa_istore (lv' := [(6, .int (mR (kBa S (xs ((5 * t) + 1)) (xs ((5 * t) + 2))) (rBa S (xs ((5 * t) + 1)) (xs ((5 * t) + 2)) true))), (5, .int (kBa S (xs ((5 * t) + 1)) (xs ((5 * t) + 2)))), (4, .int (nI (5 * t))), (3, .ref 1), (2, .ref 2), (1, .ref 0), (0, .ref 3)]) F dL_law_1808 (by decide) rfl ?_
    refine wa_aload_n F dL_law_1810 (i := 2) rfl 4 rfl ?_
    refine wa_callV F [] (c_X6_thrown hst D TC s.heap ad1 (sU (kU (kBa S (xs ((5 * t) + 1)) (xs ((5 * t) + 2))) (uBa (xs ((5 * t) + 1)) (xs ((5 * t) + 2)) true) S) 0 0 (kBa S (xs ((5 * t) + 1)) (xs ((5 * t) + 2)))) (sU (kU (kBa S (xs ((5 * t) + 1)) (xs ((5 * t) + 2))) (uBa (xs ((5 * t) + 1)) (xs ((5 * t) + 2)) true) S) 0 0 (kBa S (xs ((5 * t) + 1)) (xs ((5 * t) + 2)))) (kO (kBa S (xs ((5 * t) + 1)) (xs ((5 * t) + 2))) (rBa S (xs ((5 * t) + 1)) (xs ((5 * t) + 2)) true) o)) mw_X6_thrown ml_L_126 hm_m rfl rfl (Nat.le_of_ble_eq_true rfl) ⟨(Nat.le_of_ble_eq_true rfl), (Nat.le_of_ble_eq_true rfl)⟩ ⟨show _ ≤ 601024 by omega, show _ ≤ 7293034 by omega⟩ dL_law_1811 PR_ag (fun _ z => z.elim) ?_
    rintro _ _ _ ⟨rfl, rfl, rfl⟩
    rw [show (sU (kU (kBa S (xs ((5 * t) + 1)) (xs ((5 * t) + 2))) (uBa (xs ((5 * t) + 1)) (xs ((5 * t) + 2)) true) S) 0 0 (kBa S (xs ((5 * t) + 1)) (xs ((5 * t) + 2)))) 0 0 = kBa S (xs ((5 * t) + 1)) (xs ((5 * t) + 2)) from by rw [sU_eq, if_pos rfl]]
    refine wa_iload F dL_law_1814 1 rfl ?_
    refine wa_icmp_eq (tgt := 1821) F dL_law_1816 (by decide) (fun _ => ?_) (fun z => absurd rfl z)
    refine wa_iload F dL_law_1821 1 rfl ?_
    refine wa_if_ne (tgt := 1838) F dL_law_1823 (by decide) (fun c1823 => ?_) (fun c1823 => ?_)
    · skip
      refine wa_goto (tgt := 2469) F dL_law_1838 (by decide) ?_
      refine wa_lv (lv' := [(4, .int (nI (5 * t))), (3, .ref 1), (2, .ref 2), (1, .ref 0), (0, .ref 3)]) [2, 3, 4, 5, 6] rfl ?_
      refine wa_widen (k := cells + 4) (n := slots + 39) (by omega) (by omega) ?_
      exact K _ _ _ (INV_0 hiX) had1
    · skip
      have eo : (kO (kBa S (xs ((5 * t) + 1)) (xs ((5 * t) + 2))) (rBa S (xs ((5 * t) + 1)) (xs ((5 * t) + 2)) true) o) 0 = (rBa S (xs ((5 * t) + 1)) (xs ((5 * t) + 2)) true).toInt64 := by rw [c1823, kO_0]; exact if_pos rfl
      have er : mR (kBa S (xs ((5 * t) + 1)) (xs ((5 * t) + 2))) (rBa S (xs ((5 * t) + 1)) (xs ((5 * t) + 2)) true) = rBa S (xs ((5 * t) + 1)) (xs ((5 * t) + 2)) true := by rw [c1823, mR_0]
      refine wa_aload_n F dL_law_1826 (i := 3) rfl 3 rfl ?_
      refine wa_iconst (v := 0) F dL_law_1827 (by decide) ?_
      refine wa_lald F 1 rfl (hm_o (TC := TC) (X := (sU (kU (kBa S (xs ((5 * t) + 1)) (xs ((5 * t) + 2))) (uBa (xs ((5 * t) + 1)) (xs ((5 * t) + 2)) true) S) 0 0 (kBa S (xs ((5 * t) + 1)) (xs ((5 * t) + 2))))) (S := (sU (kU (kBa S (xs ((5 * t) + 1)) (xs ((5 * t) + 2))) (uBa (xs ((5 * t) + 1)) (xs ((5 * t) + 2)) true) S) 0 0 (kBa S (xs ((5 * t) + 1)) (xs ((5 * t) + 2))))) (o := (kO (kBa S (xs ((5 * t) + 1)) (xs ((5 * t) + 2))) (rBa S (xs ((5 * t) + 1)) (xs ((5 * t) + 2)) true) o))) 0 rfl (by decide) (by decide) dL_law_1828 ?_
      refine wa_iload F dL_law_1829 0 rfl ?_
      refine wa_i2l F dL_law_1831 rfl ?_
      have eo1 : (kO (kBa S (xs ((5 * t) + 1)) (xs ((5 * t) + 2))) (rBa S (xs ((5 * t) + 1)) (xs ((5 * t) + 2)) true) o) 0 = (mR (kBa S (xs ((5 * t) + 1)) (xs ((5 * t) + 2))) (rBa S (xs ((5 * t) + 1)) (xs ((5 * t) + 2)) true)).toInt64 := by rw [er]; exact eo
      refine wa_lcmp F dL_law_1832 ?_
      refine wa_if_eq (tgt := 1838) F dL_law_1833 (by decide) (fun _ => ?_) (fun z => absurd ((lg_cmp_eq _ _).mpr eo1) z)
      refine wa_goto (tgt := 2469) F dL_law_1838 (by decide) ?_
      refine wa_lv (lv' := [(4, .int (nI (5 * t))), (3, .ref 1), (2, .ref 2), (1, .ref 0), (0, .ref 3)]) [2, 3, 4, 5, 6] rfl ?_
      refine wa_widen (k := cells + 4) (n := slots + 39) (by omega) (by omega) ?_
      exact K _ _ _ (INV_0 hiX) had1
set_option maxHeartbeats 4000000 in
set_option maxRecDepth 20000 in
theorem law_22 {p : Program} {l : Launch} {e : Env} {s : State} {m : MethodId} {below : List Frame} {meth : Method} {c : Code} {b L : Nat} {xs : Nat → Int32} {D : va_G} {TC : Nat → ClassId} {Q : State → Prop} {ret : Option FieldType} {nm : String} {tb : List ExceptionTableEntry} (F : FX D (tysOf TC) s.heap p l s m #[.ref b] meth c RL cL_law 7 ret nm tb) (hst : l.stackTraces = false) (hX : va_X b L xs s s.heap) (hbs : b < s.heap.size) (hbl : b < s.heap.size) (hL : L < 2 ^ 31)
    (ad : Nat → Nat) (had : ad 3 = b) (S : St) (o : Nat → Int64) (t : Nat) (hi : INV t S) (ht : t < 512) (h5 : 5 * t + 5 ≤ L) (cells slots : Nat) (hcl : cells + 4 ≤ 601024) (hsl : slots + 39 ≤ 7293034)
    (K : ∀ (S1 : St) (o1 : Nat → Int64) (ad1 : Nat → Nat), INV (t + 1) S1 → ad1 3 = b → WA D s.heap p l e room_1 s m #[.ref b] below meth c 7 Q ad1 (hall TC S1 S1 o1) (cells + 4) (slots + 39) 2469 [(4, .int (nI (5 * t))), (3, .ref 1), (2, .ref 2), (1, .ref 0), (0, .ref 3)] []) : WA D s.heap p l e room_1 s m #[.ref b] below meth c 7 Q ad (hall TC S S o) cells slots 1841 [(4, .int (nI (5 * t))), (3, .ref 1), (2, .ref 2), (1, .ref 0), (0, .ref 3)] [] := by
  refine wa_aload_n F dL_law_1841 (i := 1) rfl 3 rfl ?_
  refine wa_aload_n F dL_law_1842 (i := 0) rfl 4 rfl ?_
  refine wa_iload F dL_law_1843 0 rfl ?_
  refine wa_iconst (v := 1) F dL_law_1845 (by decide) ?_
  refine wa_iaddN F dL_law_1846 (a := 5 * t) (b := 1) rfl rfl ?_
  refine wa_sld F hX hbs hbl had ((5 * t) + 1) rfl (by omega) hL dL_law_1847 ?_
  refine wa_aload_n F dL_law_1848 (i := 3) rfl 1 rfl ?_
  have hiX : INV (t + 1) (kU (kPa S (xs ((5 * t) + 1))) (uPa (xs ((5 * t) + 1))) S) := (st_pass hi)
  have hnr3 : noRef (hall TC (kU (kPa S (xs ((5 * t) + 1))) (uPa (xs ((5 * t) + 1))) S) S (kO (kPa S (xs ((5 * t) + 1))) (rPa S (xs ((5 * t) + 1))) o)) 3 := hall_nr (Or.inl rfl) rfl hiX.1.2 hiX.2.1.2 hiX.2.2.1.2 hiX.2.2.2.1.2 hiX.2.2.2.2.1.2 hiX.2.2.2.2.2.2.2.1
  refine wa_callH3 F [] (c_L_pass hst D TC s.heap ad S S o (xs ((5 * t) + 1)) t hi) mw_L_pass ml_L_198 rfl hnr3 rfl (Nat.le_of_ble_eq_true rfl) ⟨(Nat.le_of_ble_eq_true rfl), (Nat.le_of_ble_eq_true rfl)⟩ ⟨show _ ≤ 601024 by omega, show _ ≤ 7293034 by omega⟩ dL_law_1849 (by intro y hy; simp only [List.mem_cons, List.not_mem_nil, or_false] at hy; rcases hy with rfl | rfl | rfl | rfl | rfl <;> intro z hz <;> first | (cases hz; exact Or.inl rfl) | (cases hz; exact Or.inr (by simp [hm_c, hm_m, hm_o])) | cases hz) rfl ?_
  intro ad1 had1
  replace had1 : ad1 3 = b := had1.trans had
  refine wa_istore (lv' := [(5, .int (kPa S (xs ((5 * t) + 1)))), (4, .int (nI (5 * t))), (3, .ref 1), (2, .ref 2), (1, .ref 0), (0, .ref 3)]) F dL_law_1852 (by decide) rfl ?_
  refine wa_aload_n F dL_law_1854 (i := 2) rfl 3 rfl ?_
  refine wa_aload_n F dL_law_1855 (i := 0) rfl 5 rfl ?_
  refine wa_iload F dL_law_1856 1 rfl ?_
  refine wa_iconst (v := 1) F dL_law_1858 (by decide) ?_
  refine wa_iaddN F dL_law_1859 (a := 5 * t) (b := 1) rfl rfl ?_
  refine wa_sld F hX hbs hbl had1 ((5 * t) + 1) rfl (by omega) hL dL_law_1860 ?_
  refine wa_callV F [] (c_X6_pass hst D TC s.heap ad1 (kU (kPa S (xs ((5 * t) + 1))) (uPa (xs ((5 * t) + 1))) S) S (kO (kPa S (xs ((5 * t) + 1))) (rPa S (xs ((5 * t) + 1))) o) (xs ((5 * t) + 1)) t hi) mw_X6_pass ml_L_200 hm_m rfl rfl (Nat.le_of_ble_eq_true rfl) ⟨(Nat.le_of_ble_eq_true rfl), (Nat.le_of_ble_eq_true rfl)⟩ ⟨show _ ≤ 601024 by omega, show _ ≤ 7293034 by omega⟩ dL_law_1861 PR_ag (fun _ z => z.elim) ?_
  rintro _ _ _ ⟨rfl, rfl, rfl⟩
  rw [mS_eq (S := S) (fun w => c0_pass), hall_ag (X := (kU (kPa S (xs ((5 * t) + 1))) (uPa (xs ((5 * t) + 1))) S)) ag_0]
  refine wa_istore (lv' := [(6, .int (mR (kPa S (xs ((5 * t) + 1))) (rPa S (xs ((5 * t) + 1))))), (5, .int (kPa S (xs ((5 * t) + 1)))), (4, .int (nI (5 * t))), (3, .ref 1), (2, .ref 2), (1, .ref 0), (0, .ref 3)]) F dL_law_1864 (by decide) rfl ?_
  refine wa_aload_n F dL_law_1866 (i := 2) rfl 4 rfl ?_
  refine wa_callV F [] (c_X6_thrown hst D TC s.heap ad1 (sU (kU (kPa S (xs ((5 * t) + 1))) (uPa (xs ((5 * t) + 1))) S) 0 0 (kPa S (xs ((5 * t) + 1)))) (sU (kU (kPa S (xs ((5 * t) + 1))) (uPa (xs ((5 * t) + 1))) S) 0 0 (kPa S (xs ((5 * t) + 1)))) (kO (kPa S (xs ((5 * t) + 1))) (rPa S (xs ((5 * t) + 1))) o)) mw_X6_thrown ml_L_126 hm_m rfl rfl (Nat.le_of_ble_eq_true rfl) ⟨(Nat.le_of_ble_eq_true rfl), (Nat.le_of_ble_eq_true rfl)⟩ ⟨show _ ≤ 601024 by omega, show _ ≤ 7293034 by omega⟩ dL_law_1867 PR_ag (fun _ z => z.elim) ?_
  rintro _ _ _ ⟨rfl, rfl, rfl⟩
  rw [show (sU (kU (kPa S (xs ((5 * t) + 1))) (uPa (xs ((5 * t) + 1))) S) 0 0 (kPa S (xs ((5 * t) + 1)))) 0 0 = kPa S (xs ((5 * t) + 1)) from by rw [sU_eq, if_pos rfl]]
  refine wa_iload F dL_law_1870 1 rfl ?_
  refine wa_icmp_eq (tgt := 1877) F dL_law_1872 (by decide) (fun _ => ?_) (fun z => absurd rfl z)
  refine wa_iload F dL_law_1877 1 rfl ?_
  refine wa_if_ne (tgt := 1894) F dL_law_1879 (by decide) (fun c1879 => ?_) (fun c1879 => ?_)
  · skip
    refine wa_goto (tgt := 2469) F dL_law_1894 (by decide) ?_
    refine wa_lv (lv' := [(4, .int (nI (5 * t))), (3, .ref 1), (2, .ref 2), (1, .ref 0), (0, .ref 3)]) [2, 3, 4, 5, 6] rfl ?_
    refine wa_widen (k := cells + 4) (n := slots + 39) (by omega) (by omega) ?_
    exact K _ _ _ (INV_0 hiX) had1
  · skip
    have eo : (kO (kPa S (xs ((5 * t) + 1))) (rPa S (xs ((5 * t) + 1))) o) 0 = (rPa S (xs ((5 * t) + 1))).toInt64 := by rw [c1879, kO_0]; exact if_pos rfl
    have er : mR (kPa S (xs ((5 * t) + 1))) (rPa S (xs ((5 * t) + 1))) = rPa S (xs ((5 * t) + 1)) := by rw [c1879, mR_0]
    refine wa_aload_n F dL_law_1882 (i := 3) rfl 3 rfl ?_
    refine wa_iconst (v := 0) F dL_law_1883 (by decide) ?_
    refine wa_lald F 1 rfl (hm_o (TC := TC) (X := (sU (kU (kPa S (xs ((5 * t) + 1))) (uPa (xs ((5 * t) + 1))) S) 0 0 (kPa S (xs ((5 * t) + 1))))) (S := (sU (kU (kPa S (xs ((5 * t) + 1))) (uPa (xs ((5 * t) + 1))) S) 0 0 (kPa S (xs ((5 * t) + 1))))) (o := (kO (kPa S (xs ((5 * t) + 1))) (rPa S (xs ((5 * t) + 1))) o))) 0 rfl (by decide) (by decide) dL_law_1884 ?_
    refine wa_iload F dL_law_1885 0 rfl ?_
    refine wa_i2l F dL_law_1887 rfl ?_
    have eo1 : (kO (kPa S (xs ((5 * t) + 1))) (rPa S (xs ((5 * t) + 1))) o) 0 = (mR (kPa S (xs ((5 * t) + 1))) (rPa S (xs ((5 * t) + 1)))).toInt64 := by rw [er]; exact eo
    refine wa_lcmp F dL_law_1888 ?_
    refine wa_if_eq (tgt := 1894) F dL_law_1889 (by decide) (fun _ => ?_) (fun z => absurd ((lg_cmp_eq _ _).mpr eo1) z)
    refine wa_goto (tgt := 2469) F dL_law_1894 (by decide) ?_
    refine wa_lv (lv' := [(4, .int (nI (5 * t))), (3, .ref 1), (2, .ref 2), (1, .ref 0), (0, .ref 3)]) [2, 3, 4, 5, 6] rfl ?_
    refine wa_widen (k := cells + 4) (n := slots + 39) (by omega) (by omega) ?_
    exact K _ _ _ (INV_0 hiX) had1
set_option maxHeartbeats 4000000 in
set_option maxRecDepth 20000 in
theorem law_23 {p : Program} {l : Launch} {e : Env} {s : State} {m : MethodId} {below : List Frame} {meth : Method} {c : Code} {b L : Nat} {xs : Nat → Int32} {D : va_G} {TC : Nat → ClassId} {Q : State → Prop} {ret : Option FieldType} {nm : String} {tb : List ExceptionTableEntry} (F : FX D (tysOf TC) s.heap p l s m #[.ref b] meth c RL cL_law 7 ret nm tb) (hst : l.stackTraces = false) (hX : va_X b L xs s s.heap) (hbs : b < s.heap.size) (hbl : b < s.heap.size) (hL : L < 2 ^ 31)
    (ad : Nat → Nat) (had : ad 3 = b) (S : St) (o : Nat → Int64) (t : Nat) (hi : INV t S) (ht : t < 512) (h5 : 5 * t + 5 ≤ L) (cells slots : Nat) (hcl : cells + 4 ≤ 601024) (hsl : slots + 39 ≤ 7293034)
    (K : ∀ (S1 : St) (o1 : Nat → Int64) (ad1 : Nat → Nat), INV (t + 1) S1 → ad1 3 = b → WA D s.heap p l e room_1 s m #[.ref b] below meth c 7 Q ad1 (hall TC S1 S1 o1) (cells + 4) (slots + 39) 2469 [(4, .int (nI (5 * t))), (3, .ref 1), (2, .ref 2), (1, .ref 0), (0, .ref 3)] []) : WA D s.heap p l e room_1 s m #[.ref b] below meth c 7 Q ad (hall TC S S o) cells slots 1897 [(4, .int (nI (5 * t))), (3, .ref 1), (2, .ref 2), (1, .ref 0), (0, .ref 3)] [] := by
  refine wa_aload_n F dL_law_1897 (i := 1) rfl 3 rfl ?_
  refine wa_callV F [] (c_X5_day hst D TC s.heap ad S S o (hall TC S S o) (fun _ _ z => z)) mw_X5_day ml_L_201 hm_c rfl rfl (Nat.le_of_ble_eq_true rfl) ⟨(Nat.le_of_ble_eq_true rfl), (Nat.le_of_ble_eq_true rfl)⟩ ⟨show _ ≤ 601024 by omega, show _ ≤ 7293034 by omega⟩ dL_law_1898 PR_ag (fun _ z => z.elim) ?_
  rintro _ _ _ ⟨rfl, rfl, rfl⟩
  refine wa_aload_n F dL_law_1901 (i := 2) rfl 2 rfl ?_
  refine wa_callV F [.int (S 1 0)] (c_X6_day hst D TC s.heap ad S S o) mw_X6_day ml_L_204 hm_m rfl rfl (Nat.le_of_ble_eq_true rfl) ⟨(Nat.le_of_ble_eq_true rfl), (Nat.le_of_ble_eq_true rfl)⟩ ⟨show _ ≤ 601024 by omega, show _ ≤ 7293034 by omega⟩ dL_law_1902 PR_ag (fun _ z => z.elim) ?_
  rintro _ _ _ ⟨rfl, rfl, rfl⟩
  rw [hall_ag (X := S) (Y := sU S 0 0 0) ag_0]
  refine wa_icmp_eq (tgt := 2469) F dL_law_1905 (by decide) (fun _ => ?_) (fun z => absurd rfl z)
  refine wa_lv (lv' := [(4, .int (nI (5 * t))), (3, .ref 1), (2, .ref 2), (1, .ref 0), (0, .ref 3)]) [0, 1, 2, 3, 4] rfl ?_
  refine wa_widen (k := cells + 4) (n := slots + 39) (by omega) (by omega) ?_
  exact K _ _ _ (INV_up hi) had
set_option maxHeartbeats 4000000 in
set_option maxRecDepth 20000 in
theorem law_24 {p : Program} {l : Launch} {e : Env} {s : State} {m : MethodId} {below : List Frame} {meth : Method} {c : Code} {b L : Nat} {xs : Nat → Int32} {D : va_G} {TC : Nat → ClassId} {Q : State → Prop} {ret : Option FieldType} {nm : String} {tb : List ExceptionTableEntry} (F : FX D (tysOf TC) s.heap p l s m #[.ref b] meth c RL cL_law 7 ret nm tb) (hst : l.stackTraces = false) (hX : va_X b L xs s s.heap) (hbs : b < s.heap.size) (hbl : b < s.heap.size) (hL : L < 2 ^ 31)
    (ad : Nat → Nat) (had : ad 3 = b) (S : St) (o : Nat → Int64) (t : Nat) (hi : INV t S) (ht : t < 512) (h5 : 5 * t + 5 ≤ L) (cells slots : Nat) (hcl : cells + 4 ≤ 601024) (hsl : slots + 39 ≤ 7293034)
    (K : ∀ (S1 : St) (o1 : Nat → Int64) (ad1 : Nat → Nat), INV (t + 1) S1 → ad1 3 = b → WA D s.heap p l e room_1 s m #[.ref b] below meth c 7 Q ad1 (hall TC S1 S1 o1) (cells + 4) (slots + 39) 2469 [(4, .int (nI (5 * t))), (3, .ref 1), (2, .ref 2), (1, .ref 0), (0, .ref 3)] []) : WA D s.heap p l e room_1 s m #[.ref b] below meth c 7 Q ad (hall TC S S o) cells slots 1910 [(4, .int (nI (5 * t))), (3, .ref 1), (2, .ref 2), (1, .ref 0), (0, .ref 3)] [] := by
  refine wa_aload_n F dL_law_1910 (i := 1) rfl 3 rfl ?_
  refine wa_aload_n F dL_law_1911 (i := 0) rfl 4 rfl ?_
  refine wa_iload F dL_law_1912 0 rfl ?_
  refine wa_iconst (v := 1) F dL_law_1914 (by decide) ?_
  refine wa_iaddN F dL_law_1915 (a := 5 * t) (b := 1) rfl rfl ?_
  refine wa_sld F hX hbs hbl had ((5 * t) + 1) rfl (by omega) hL dL_law_1916 ?_
  refine wa_aload_n F dL_law_1917 (i := 0) rfl 4 rfl ?_
  refine wa_iload F dL_law_1918 0 rfl ?_
  refine wa_iconst (v := 2) F dL_law_1920 (by decide) ?_
  refine wa_iaddN F dL_law_1921 (a := 5 * t) (b := 2) rfl rfl ?_
  refine wa_sld F hX hbs hbl had ((5 * t) + 2) rfl (by omega) hL dL_law_1922 ?_
  refine wa_aload_n F dL_law_1923 (i := 3) rfl 1 rfl ?_
  have hiX : INV (t + 1) (kU (kAp S (xs ((5 * t) + 1)) (xs ((5 * t) + 2))) (fun Y => Y) S) := by rw [kU_id]; exact INV_up hi
  have hnr3 : noRef (hall TC (kU (kAp S (xs ((5 * t) + 1)) (xs ((5 * t) + 2))) (fun Y => Y) S) S (kO (kAp S (xs ((5 * t) + 1)) (xs ((5 * t) + 2))) (rAp S (xs ((5 * t) + 1)) (xs ((5 * t) + 2))) o)) 3 := hall_nr (Or.inl rfl) rfl hiX.1.2 hiX.2.1.2 hiX.2.2.1.2 hiX.2.2.2.1.2 hiX.2.2.2.2.1.2 hiX.2.2.2.2.2.2.2.1
  refine wa_callH3 F [] (c_L_applies hst D TC s.heap ad S S o (xs ((5 * t) + 1)) (xs ((5 * t) + 2)) t hi) mw_L_applies ml_L_205 rfl hnr3 rfl (Nat.le_of_ble_eq_true rfl) ⟨(Nat.le_of_ble_eq_true rfl), (Nat.le_of_ble_eq_true rfl)⟩ ⟨show _ ≤ 601024 by omega, show _ ≤ 7293034 by omega⟩ dL_law_1924 (by intro y hy; simp only [List.mem_cons, List.not_mem_nil, or_false] at hy; rcases hy with rfl | rfl | rfl | rfl | rfl <;> intro z hz <;> first | (cases hz; exact Or.inl rfl) | (cases hz; exact Or.inr (by simp [hm_c, hm_m, hm_o])) | cases hz) rfl ?_
  intro ad1 had1
  replace had1 : ad1 3 = b := had1.trans had
  refine wa_istore (lv' := [(5, .int (kAp S (xs ((5 * t) + 1)) (xs ((5 * t) + 2)))), (4, .int (nI (5 * t))), (3, .ref 1), (2, .ref 2), (1, .ref 0), (0, .ref 3)]) F dL_law_1927 (by decide) rfl ?_
  refine wa_aload_n F dL_law_1929 (i := 2) rfl 3 rfl ?_
  refine wa_aload_n F dL_law_1930 (i := 0) rfl 5 rfl ?_
  refine wa_iload F dL_law_1931 1 rfl ?_
  refine wa_iconst (v := 1) F dL_law_1933 (by decide) ?_
  refine wa_iaddN F dL_law_1934 (a := 5 * t) (b := 1) rfl rfl ?_
  refine wa_sld F hX hbs hbl had1 ((5 * t) + 1) rfl (by omega) hL dL_law_1935 ?_
  refine wa_aload_n F dL_law_1936 (i := 0) rfl 5 rfl ?_
  refine wa_iload F dL_law_1937 1 rfl ?_
  refine wa_iconst (v := 2) F dL_law_1939 (by decide) ?_
  refine wa_iaddN F dL_law_1940 (a := 5 * t) (b := 2) rfl rfl ?_
  refine wa_sld F hX hbs hbl had1 ((5 * t) + 2) rfl (by omega) hL dL_law_1941 ?_
  refine wa_callV F [] (c_X6_applies hst D TC s.heap ad1 (kU (kAp S (xs ((5 * t) + 1)) (xs ((5 * t) + 2))) (fun Y => Y) S) S (kO (kAp S (xs ((5 * t) + 1)) (xs ((5 * t) + 2))) (rAp S (xs ((5 * t) + 1)) (xs ((5 * t) + 2))) o) (xs ((5 * t) + 1)) (xs ((5 * t) + 2)) t hi) mw_X6_applies ml_L_207 hm_m rfl rfl (Nat.le_of_ble_eq_true rfl) ⟨(Nat.le_of_ble_eq_true rfl), (Nat.le_of_ble_eq_true rfl)⟩ ⟨show _ ≤ 601024 by omega, show _ ≤ 7293034 by omega⟩ dL_law_1942 PR_ag (fun _ z => z.elim) ?_
  rintro _ _ _ ⟨rfl, rfl, rfl⟩
  rw [mS_id, kU_id, hall_ag (X := S) (Y := sU S 0 0 (kAp S (xs ((5 * t) + 1)) (xs ((5 * t) + 2)))) ag_0]
  refine wa_istore (lv' := [(6, .int (mR (kAp S (xs ((5 * t) + 1)) (xs ((5 * t) + 2))) (rAp S (xs ((5 * t) + 1)) (xs ((5 * t) + 2))))), (5, .int (kAp S (xs ((5 * t) + 1)) (xs ((5 * t) + 2)))), (4, .int (nI (5 * t))), (3, .ref 1), (2, .ref 2), (1, .ref 0), (0, .ref 3)]) F dL_law_1945 (by decide) rfl ?_
  refine wa_aload_n F dL_law_1947 (i := 2) rfl 4 rfl ?_
  refine wa_callV F [] (c_X6_thrown hst D TC s.heap ad1 (sU S 0 0 (kAp S (xs ((5 * t) + 1)) (xs ((5 * t) + 2)))) (sU S 0 0 (kAp S (xs ((5 * t) + 1)) (xs ((5 * t) + 2)))) (kO (kAp S (xs ((5 * t) + 1)) (xs ((5 * t) + 2))) (rAp S (xs ((5 * t) + 1)) (xs ((5 * t) + 2))) o)) mw_X6_thrown ml_L_126 hm_m rfl rfl (Nat.le_of_ble_eq_true rfl) ⟨(Nat.le_of_ble_eq_true rfl), (Nat.le_of_ble_eq_true rfl)⟩ ⟨show _ ≤ 601024 by omega, show _ ≤ 7293034 by omega⟩ dL_law_1948 PR_ag (fun _ z => z.elim) ?_
  rintro _ _ _ ⟨rfl, rfl, rfl⟩
  rw [show (sU S 0 0 (kAp S (xs ((5 * t) + 1)) (xs ((5 * t) + 2)))) 0 0 = kAp S (xs ((5 * t) + 1)) (xs ((5 * t) + 2)) from by rw [sU_eq, if_pos rfl]]
  refine wa_iload F dL_law_1951 1 rfl ?_
  refine wa_icmp_eq (tgt := 1958) F dL_law_1953 (by decide) (fun _ => ?_) (fun z => absurd rfl z)
  refine wa_iload F dL_law_1958 1 rfl ?_
  refine wa_if_ne (tgt := 1982) F dL_law_1960 (by decide) (fun c1960 => ?_) (fun c1960 => ?_)
  · skip
    refine wa_goto (tgt := 2469) F dL_law_1982 (by decide) ?_
    refine wa_lv (lv' := [(4, .int (nI (5 * t))), (3, .ref 1), (2, .ref 2), (1, .ref 0), (0, .ref 3)]) [2, 3, 4, 5, 6] rfl ?_
    refine wa_widen (k := cells + 4) (n := slots + 39) (by omega) (by omega) ?_
    exact K _ _ _ (INV_0 (INV_up hi)) had1
  · skip
    have eo : (kO (kAp S (xs ((5 * t) + 1)) (xs ((5 * t) + 2))) (rAp S (xs ((5 * t) + 1)) (xs ((5 * t) + 2))) o) 0 = (rAp S (xs ((5 * t) + 1)) (xs ((5 * t) + 2))).toInt64 := by rw [c1960, kO_0]; exact if_pos rfl
    have er : mR (kAp S (xs ((5 * t) + 1)) (xs ((5 * t) + 2))) (rAp S (xs ((5 * t) + 1)) (xs ((5 * t) + 2))) = rAp S (xs ((5 * t) + 1)) (xs ((5 * t) + 2)) := by rw [c1960, mR_0]
    refine wa_aload_n F dL_law_1963 (i := 3) rfl 3 rfl ?_
    refine wa_iconst (v := 0) F dL_law_1964 (by decide) ?_
    refine wa_lald F 1 rfl (hm_o (TC := TC) (X := (sU S 0 0 (kAp S (xs ((5 * t) + 1)) (xs ((5 * t) + 2))))) (S := (sU S 0 0 (kAp S (xs ((5 * t) + 1)) (xs ((5 * t) + 2))))) (o := (kO (kAp S (xs ((5 * t) + 1)) (xs ((5 * t) + 2))) (rAp S (xs ((5 * t) + 1)) (xs ((5 * t) + 2))) o))) 0 rfl (by decide) (by decide) dL_law_1965 ?_
    refine wa_iload F dL_law_1966 0 rfl ?_
    refine wa_if_eq (tgt := 1975) F dL_law_1968 (by decide) (fun c1968 => ?_) (fun c1968 => ?_)
    · skip
      have eo2 : (kO (kAp S (xs ((5 * t) + 1)) (xs ((5 * t) + 2))) (rAp S (xs ((5 * t) + 1)) (xs ((5 * t) + 2))) o) 0 = 0 := by rw [eo, ← er]; exact b64f c1968
      refine wa_lconst (v := 0) F dL_law_1975 (by decide) ?_
      refine wa_lcmp F dL_law_1976 ?_
      refine wa_if_eq (tgt := 1982) F dL_law_1977 (by decide) (fun _ => ?_) (fun z => absurd ((lg_cmp_eq _ _).mpr eo2) z)
      refine wa_goto (tgt := 2469) F dL_law_1982 (by decide) ?_
      refine wa_lv (lv' := [(4, .int (nI (5 * t))), (3, .ref 1), (2, .ref 2), (1, .ref 0), (0, .ref 3)]) [2, 3, 4, 5, 6] rfl ?_
      refine wa_widen (k := cells + 4) (n := slots + 39) (by omega) (by omega) ?_
      exact K _ _ _ (INV_0 (INV_up hi)) had1
    · skip
      have eo2 : (kO (kAp S (xs ((5 * t) + 1)) (xs ((5 * t) + 2))) (rAp S (xs ((5 * t) + 1)) (xs ((5 * t) + 2))) o) 0 = 1 := by rw [eo]; exact b64t rfl (by rw [← er]; exact c1968)
      refine wa_lconst (v := 1) F dL_law_1971 (by decide) ?_
      refine wa_goto (tgt := 1976) F dL_law_1972 (by decide) ?_
      refine wa_lcmp F dL_law_1976 ?_
      refine wa_if_eq (tgt := 1982) F dL_law_1977 (by decide) (fun _ => ?_) (fun z => absurd ((lg_cmp_eq _ _).mpr eo2) z)
      refine wa_goto (tgt := 2469) F dL_law_1982 (by decide) ?_
      refine wa_lv (lv' := [(4, .int (nI (5 * t))), (3, .ref 1), (2, .ref 2), (1, .ref 0), (0, .ref 3)]) [2, 3, 4, 5, 6] rfl ?_
      refine wa_widen (k := cells + 4) (n := slots + 39) (by omega) (by omega) ?_
      exact K _ _ _ (INV_0 (INV_up hi)) had1
set_option maxHeartbeats 4000000 in
set_option maxRecDepth 20000 in
theorem law_25 {p : Program} {l : Launch} {e : Env} {s : State} {m : MethodId} {below : List Frame} {meth : Method} {c : Code} {b L : Nat} {xs : Nat → Int32} {D : va_G} {TC : Nat → ClassId} {Q : State → Prop} {ret : Option FieldType} {nm : String} {tb : List ExceptionTableEntry} (F : FX D (tysOf TC) s.heap p l s m #[.ref b] meth c RL cL_law 7 ret nm tb) (hst : l.stackTraces = false) (hX : va_X b L xs s s.heap) (hbs : b < s.heap.size) (hbl : b < s.heap.size) (hL : L < 2 ^ 31)
    (ad : Nat → Nat) (had : ad 3 = b) (S : St) (o : Nat → Int64) (t : Nat) (hi : INV t S) (ht : t < 512) (h5 : 5 * t + 5 ≤ L) (cells slots : Nat) (hcl : cells + 4 ≤ 601024) (hsl : slots + 39 ≤ 7293034)
    (K : ∀ (S1 : St) (o1 : Nat → Int64) (ad1 : Nat → Nat), INV (t + 1) S1 → ad1 3 = b → WA D s.heap p l e room_1 s m #[.ref b] below meth c 7 Q ad1 (hall TC S1 S1 o1) (cells + 4) (slots + 39) 2469 [(4, .int (nI (5 * t))), (3, .ref 1), (2, .ref 2), (1, .ref 0), (0, .ref 3)] []) : WA D s.heap p l e room_1 s m #[.ref b] below meth c 7 Q ad (hall TC S S o) cells slots 1985 [(4, .int (nI (5 * t))), (3, .ref 1), (2, .ref 2), (1, .ref 0), (0, .ref 3)] [] := by
  refine wa_aload_n F dL_law_1985 (i := 1) rfl 3 rfl ?_
  refine wa_aload_n F dL_law_1986 (i := 0) rfl 4 rfl ?_
  refine wa_iload F dL_law_1987 0 rfl ?_
  refine wa_iconst (v := 1) F dL_law_1989 (by decide) ?_
  refine wa_iaddN F dL_law_1990 (a := 5 * t) (b := 1) rfl rfl ?_
  refine wa_sld F hX hbs hbl had ((5 * t) + 1) rfl (by omega) hL dL_law_1991 ?_
  refine wa_aload_n F dL_law_1992 (i := 0) rfl 4 rfl ?_
  refine wa_iload F dL_law_1993 0 rfl ?_
  refine wa_iconst (v := 2) F dL_law_1995 (by decide) ?_
  refine wa_iaddN F dL_law_1996 (a := 5 * t) (b := 2) rfl rfl ?_
  refine wa_sld F hX hbs hbl had ((5 * t) + 2) rfl (by omega) hL dL_law_1997 ?_
  refine wa_if_eq (tgt := 2005) F dL_law_1998 (by decide) (fun c1998 => ?_) (fun c1998 => ?_)
  · skip
    refine wa_iconst (v := 0) F dL_law_2005 (by decide) ?_
    refine wa_aload_n F dL_law_2006 (i := 3) rfl 1 rfl ?_
    have hiX : INV (t + 1) (kU (kQp S (xs ((5 * t) + 1))) (fun Y => Y) S) := by rw [kU_id]; exact INV_up hi
    have hnr3 : noRef (hall TC (kU (kQp S (xs ((5 * t) + 1))) (fun Y => Y) S) S (kO (kQp S (xs ((5 * t) + 1))) (rDm S (xs ((5 * t) + 1)) false) o)) 3 := hall_nr (Or.inl rfl) rfl hiX.1.2 hiX.2.1.2 hiX.2.2.1.2 hiX.2.2.2.1.2 hiX.2.2.2.2.1.2 hiX.2.2.2.2.2.2.2.1
    refine wa_callH3 F [] (c_L_demands hst D TC s.heap ad S S o (xs ((5 * t) + 1)) false t hi) mw_L_demands ml_L_208 rfl hnr3 rfl (Nat.le_of_ble_eq_true rfl) ⟨(Nat.le_of_ble_eq_true rfl), (Nat.le_of_ble_eq_true rfl)⟩ ⟨show _ ≤ 601024 by omega, show _ ≤ 7293034 by omega⟩ dL_law_2007 (by intro y hy; simp only [List.mem_cons, List.not_mem_nil, or_false] at hy; rcases hy with rfl | rfl | rfl | rfl | rfl <;> intro z hz <;> first | (cases hz; exact Or.inl rfl) | (cases hz; exact Or.inr (by simp [hm_c, hm_m, hm_o])) | cases hz) rfl ?_
    intro ad1 had1
    replace had1 : ad1 3 = b := had1.trans had
    refine wa_istore (lv' := [(5, .int (kQp S (xs ((5 * t) + 1)))), (4, .int (nI (5 * t))), (3, .ref 1), (2, .ref 2), (1, .ref 0), (0, .ref 3)]) F dL_law_2010 (by decide) rfl ?_
    refine wa_aload_n F dL_law_2012 (i := 2) rfl 3 rfl ?_
    refine wa_aload_n F dL_law_2013 (i := 0) rfl 5 rfl ?_
    refine wa_iload F dL_law_2014 1 rfl ?_
    refine wa_iconst (v := 1) F dL_law_2016 (by decide) ?_
    refine wa_iaddN F dL_law_2017 (a := 5 * t) (b := 1) rfl rfl ?_
    refine wa_sld F hX hbs hbl had1 ((5 * t) + 1) rfl (by omega) hL dL_law_2018 ?_
    refine wa_aload_n F dL_law_2019 (i := 0) rfl 5 rfl ?_
    refine wa_iload F dL_law_2020 1 rfl ?_
    refine wa_iconst (v := 2) F dL_law_2022 (by decide) ?_
    refine wa_iaddN F dL_law_2023 (a := 5 * t) (b := 2) rfl rfl ?_
    refine wa_sld F hX hbs hbl had1 ((5 * t) + 2) rfl (by omega) hL dL_law_2024 ?_
    refine wa_if_eq (tgt := 2032) F dL_law_2025 (by decide) (fun _ => ?_) (fun z => absurd c1998 z)
    refine wa_iconst (v := 0) F dL_law_2032 (by decide) ?_
    refine wa_callV F [] (c_X6_demands hst D TC s.heap ad1 (kU (kQp S (xs ((5 * t) + 1))) (fun Y => Y) S) S (kO (kQp S (xs ((5 * t) + 1))) (rDm S (xs ((5 * t) + 1)) false) o) (xs ((5 * t) + 1)) false t hi) mw_X6_demands ml_L_210 hm_m rfl rfl (Nat.le_of_ble_eq_true rfl) ⟨(Nat.le_of_ble_eq_true rfl), (Nat.le_of_ble_eq_true rfl)⟩ ⟨show _ ≤ 601024 by omega, show _ ≤ 7293034 by omega⟩ dL_law_2033 PR_ag (fun _ z => z.elim) ?_
    rintro _ _ _ ⟨rfl, rfl, rfl⟩
    rw [mS_id, kU_id, hall_ag (X := S) (Y := sU S 0 0 (kQp S (xs ((5 * t) + 1)))) ag_0]
    refine wa_istore (lv' := [(6, .int (mR (kQp S (xs ((5 * t) + 1))) (rDm S (xs ((5 * t) + 1)) false))), (5, .int (kQp S (xs ((5 * t) + 1)))), (4, .int (nI (5 * t))), (3, .ref 1), (2, .ref 2), (1, .ref 0), (0, .ref 3)]) F dL_law_2036 (by decide) rfl ?_
    refine wa_aload_n F dL_law_2038 (i := 2) rfl 4 rfl ?_
    refine wa_callV F [] (c_X6_thrown hst D TC s.heap ad1 (sU S 0 0 (kQp S (xs ((5 * t) + 1)))) (sU S 0 0 (kQp S (xs ((5 * t) + 1)))) (kO (kQp S (xs ((5 * t) + 1))) (rDm S (xs ((5 * t) + 1)) false) o)) mw_X6_thrown ml_L_126 hm_m rfl rfl (Nat.le_of_ble_eq_true rfl) ⟨(Nat.le_of_ble_eq_true rfl), (Nat.le_of_ble_eq_true rfl)⟩ ⟨show _ ≤ 601024 by omega, show _ ≤ 7293034 by omega⟩ dL_law_2039 PR_ag (fun _ z => z.elim) ?_
    rintro _ _ _ ⟨rfl, rfl, rfl⟩
    rw [show (sU S 0 0 (kQp S (xs ((5 * t) + 1)))) 0 0 = kQp S (xs ((5 * t) + 1)) from by rw [sU_eq, if_pos rfl]]
    refine wa_iload F dL_law_2042 1 rfl ?_
    refine wa_icmp_eq (tgt := 2049) F dL_law_2044 (by decide) (fun _ => ?_) (fun z => absurd rfl z)
    refine wa_iload F dL_law_2049 1 rfl ?_
    refine wa_if_ne (tgt := 2066) F dL_law_2051 (by decide) (fun c2051 => ?_) (fun c2051 => ?_)
    · skip
      refine wa_goto (tgt := 2469) F dL_law_2066 (by decide) ?_
      refine wa_lv (lv' := [(4, .int (nI (5 * t))), (3, .ref 1), (2, .ref 2), (1, .ref 0), (0, .ref 3)]) [2, 3, 4, 5, 6] rfl ?_
      refine wa_widen (k := cells + 4) (n := slots + 39) (by omega) (by omega) ?_
      exact K _ _ _ (INV_0 (INV_up hi)) had1
    · skip
      have eo : (kO (kQp S (xs ((5 * t) + 1))) (rDm S (xs ((5 * t) + 1)) false) o) 0 = (rDm S (xs ((5 * t) + 1)) false).toInt64 := by rw [c2051, kO_0]; exact if_pos rfl
      have er : mR (kQp S (xs ((5 * t) + 1))) (rDm S (xs ((5 * t) + 1)) false) = rDm S (xs ((5 * t) + 1)) false := by rw [c2051, mR_0]
      refine wa_aload_n F dL_law_2054 (i := 3) rfl 3 rfl ?_
      refine wa_iconst (v := 0) F dL_law_2055 (by decide) ?_
      refine wa_lald F 1 rfl (hm_o (TC := TC) (X := (sU S 0 0 (kQp S (xs ((5 * t) + 1))))) (S := (sU S 0 0 (kQp S (xs ((5 * t) + 1))))) (o := (kO (kQp S (xs ((5 * t) + 1))) (rDm S (xs ((5 * t) + 1)) false) o))) 0 rfl (by decide) (by decide) dL_law_2056 ?_
      refine wa_iload F dL_law_2057 0 rfl ?_
      refine wa_i2l F dL_law_2059 rfl ?_
      have eo1 : (kO (kQp S (xs ((5 * t) + 1))) (rDm S (xs ((5 * t) + 1)) false) o) 0 = (mR (kQp S (xs ((5 * t) + 1))) (rDm S (xs ((5 * t) + 1)) false)).toInt64 := by rw [er]; exact eo
      refine wa_lcmp F dL_law_2060 ?_
      refine wa_if_eq (tgt := 2066) F dL_law_2061 (by decide) (fun _ => ?_) (fun z => absurd ((lg_cmp_eq _ _).mpr eo1) z)
      refine wa_goto (tgt := 2469) F dL_law_2066 (by decide) ?_
      refine wa_lv (lv' := [(4, .int (nI (5 * t))), (3, .ref 1), (2, .ref 2), (1, .ref 0), (0, .ref 3)]) [2, 3, 4, 5, 6] rfl ?_
      refine wa_widen (k := cells + 4) (n := slots + 39) (by omega) (by omega) ?_
      exact K _ _ _ (INV_0 (INV_up hi)) had1
  · skip
    refine wa_iconst (v := 1) F dL_law_2001 (by decide) ?_
    refine wa_goto (tgt := 2006) F dL_law_2002 (by decide) ?_
    refine wa_aload_n F dL_law_2006 (i := 3) rfl 1 rfl ?_
    have hiX : INV (t + 1) (kU (kQp S (xs ((5 * t) + 1))) (fun Y => Y) S) := by rw [kU_id]; exact INV_up hi
    have hnr3 : noRef (hall TC (kU (kQp S (xs ((5 * t) + 1))) (fun Y => Y) S) S (kO (kQp S (xs ((5 * t) + 1))) (rDm S (xs ((5 * t) + 1)) true) o)) 3 := hall_nr (Or.inl rfl) rfl hiX.1.2 hiX.2.1.2 hiX.2.2.1.2 hiX.2.2.2.1.2 hiX.2.2.2.2.1.2 hiX.2.2.2.2.2.2.2.1
    refine wa_callH3 F [] (c_L_demands hst D TC s.heap ad S S o (xs ((5 * t) + 1)) true t hi) mw_L_demands ml_L_208 rfl hnr3 rfl (Nat.le_of_ble_eq_true rfl) ⟨(Nat.le_of_ble_eq_true rfl), (Nat.le_of_ble_eq_true rfl)⟩ ⟨show _ ≤ 601024 by omega, show _ ≤ 7293034 by omega⟩ dL_law_2007 (by intro y hy; simp only [List.mem_cons, List.not_mem_nil, or_false] at hy; rcases hy with rfl | rfl | rfl | rfl | rfl <;> intro z hz <;> first | (cases hz; exact Or.inl rfl) | (cases hz; exact Or.inr (by simp [hm_c, hm_m, hm_o])) | cases hz) rfl ?_
    intro ad1 had1
    replace had1 : ad1 3 = b := had1.trans had
    refine wa_istore (lv' := [(5, .int (kQp S (xs ((5 * t) + 1)))), (4, .int (nI (5 * t))), (3, .ref 1), (2, .ref 2), (1, .ref 0), (0, .ref 3)]) F dL_law_2010 (by decide) rfl ?_
    refine wa_aload_n F dL_law_2012 (i := 2) rfl 3 rfl ?_
    refine wa_aload_n F dL_law_2013 (i := 0) rfl 5 rfl ?_
    refine wa_iload F dL_law_2014 1 rfl ?_
    refine wa_iconst (v := 1) F dL_law_2016 (by decide) ?_
    refine wa_iaddN F dL_law_2017 (a := 5 * t) (b := 1) rfl rfl ?_
    refine wa_sld F hX hbs hbl had1 ((5 * t) + 1) rfl (by omega) hL dL_law_2018 ?_
    refine wa_aload_n F dL_law_2019 (i := 0) rfl 5 rfl ?_
    refine wa_iload F dL_law_2020 1 rfl ?_
    refine wa_iconst (v := 2) F dL_law_2022 (by decide) ?_
    refine wa_iaddN F dL_law_2023 (a := 5 * t) (b := 2) rfl rfl ?_
    refine wa_sld F hX hbs hbl had1 ((5 * t) + 2) rfl (by omega) hL dL_law_2024 ?_
    refine wa_if_eq (tgt := 2032) F dL_law_2025 (by decide) (fun z => absurd z c1998) (fun _ => ?_)
    refine wa_iconst (v := 1) F dL_law_2028 (by decide) ?_
    refine wa_goto (tgt := 2033) F dL_law_2029 (by decide) ?_
    refine wa_callV F [] (c_X6_demands hst D TC s.heap ad1 (kU (kQp S (xs ((5 * t) + 1))) (fun Y => Y) S) S (kO (kQp S (xs ((5 * t) + 1))) (rDm S (xs ((5 * t) + 1)) true) o) (xs ((5 * t) + 1)) true t hi) mw_X6_demands ml_L_210 hm_m rfl rfl (Nat.le_of_ble_eq_true rfl) ⟨(Nat.le_of_ble_eq_true rfl), (Nat.le_of_ble_eq_true rfl)⟩ ⟨show _ ≤ 601024 by omega, show _ ≤ 7293034 by omega⟩ dL_law_2033 PR_ag (fun _ z => z.elim) ?_
    rintro _ _ _ ⟨rfl, rfl, rfl⟩
    rw [mS_id, kU_id, hall_ag (X := S) (Y := sU S 0 0 (kQp S (xs ((5 * t) + 1)))) ag_0]
    refine wa_istore (lv' := [(6, .int (mR (kQp S (xs ((5 * t) + 1))) (rDm S (xs ((5 * t) + 1)) true))), (5, .int (kQp S (xs ((5 * t) + 1)))), (4, .int (nI (5 * t))), (3, .ref 1), (2, .ref 2), (1, .ref 0), (0, .ref 3)]) F dL_law_2036 (by decide) rfl ?_
    refine wa_aload_n F dL_law_2038 (i := 2) rfl 4 rfl ?_
    refine wa_callV F [] (c_X6_thrown hst D TC s.heap ad1 (sU S 0 0 (kQp S (xs ((5 * t) + 1)))) (sU S 0 0 (kQp S (xs ((5 * t) + 1)))) (kO (kQp S (xs ((5 * t) + 1))) (rDm S (xs ((5 * t) + 1)) true) o)) mw_X6_thrown ml_L_126 hm_m rfl rfl (Nat.le_of_ble_eq_true rfl) ⟨(Nat.le_of_ble_eq_true rfl), (Nat.le_of_ble_eq_true rfl)⟩ ⟨show _ ≤ 601024 by omega, show _ ≤ 7293034 by omega⟩ dL_law_2039 PR_ag (fun _ z => z.elim) ?_
    rintro _ _ _ ⟨rfl, rfl, rfl⟩
    rw [show (sU S 0 0 (kQp S (xs ((5 * t) + 1)))) 0 0 = kQp S (xs ((5 * t) + 1)) from by rw [sU_eq, if_pos rfl]]
    refine wa_iload F dL_law_2042 1 rfl ?_
    refine wa_icmp_eq (tgt := 2049) F dL_law_2044 (by decide) (fun _ => ?_) (fun z => absurd rfl z)
    refine wa_iload F dL_law_2049 1 rfl ?_
    refine wa_if_ne (tgt := 2066) F dL_law_2051 (by decide) (fun c2051 => ?_) (fun c2051 => ?_)
    · skip
      refine wa_goto (tgt := 2469) F dL_law_2066 (by decide) ?_
      refine wa_lv (lv' := [(4, .int (nI (5 * t))), (3, .ref 1), (2, .ref 2), (1, .ref 0), (0, .ref 3)]) [2, 3, 4, 5, 6] rfl ?_
      refine wa_widen (k := cells + 4) (n := slots + 39) (by omega) (by omega) ?_
      exact K _ _ _ (INV_0 (INV_up hi)) had1
    · skip
      have eo : (kO (kQp S (xs ((5 * t) + 1))) (rDm S (xs ((5 * t) + 1)) true) o) 0 = (rDm S (xs ((5 * t) + 1)) true).toInt64 := by rw [c2051, kO_0]; exact if_pos rfl
      have er : mR (kQp S (xs ((5 * t) + 1))) (rDm S (xs ((5 * t) + 1)) true) = rDm S (xs ((5 * t) + 1)) true := by rw [c2051, mR_0]
      refine wa_aload_n F dL_law_2054 (i := 3) rfl 3 rfl ?_
      refine wa_iconst (v := 0) F dL_law_2055 (by decide) ?_
      refine wa_lald F 1 rfl (hm_o (TC := TC) (X := (sU S 0 0 (kQp S (xs ((5 * t) + 1))))) (S := (sU S 0 0 (kQp S (xs ((5 * t) + 1))))) (o := (kO (kQp S (xs ((5 * t) + 1))) (rDm S (xs ((5 * t) + 1)) true) o))) 0 rfl (by decide) (by decide) dL_law_2056 ?_
      refine wa_iload F dL_law_2057 0 rfl ?_
      refine wa_i2l F dL_law_2059 rfl ?_
      have eo1 : (kO (kQp S (xs ((5 * t) + 1))) (rDm S (xs ((5 * t) + 1)) true) o) 0 = (mR (kQp S (xs ((5 * t) + 1))) (rDm S (xs ((5 * t) + 1)) true)).toInt64 := by rw [er]; exact eo
      refine wa_lcmp F dL_law_2060 ?_
      refine wa_if_eq (tgt := 2066) F dL_law_2061 (by decide) (fun _ => ?_) (fun z => absurd ((lg_cmp_eq _ _).mpr eo1) z)
      refine wa_goto (tgt := 2469) F dL_law_2066 (by decide) ?_
      refine wa_lv (lv' := [(4, .int (nI (5 * t))), (3, .ref 1), (2, .ref 2), (1, .ref 0), (0, .ref 3)]) [2, 3, 4, 5, 6] rfl ?_
      refine wa_widen (k := cells + 4) (n := slots + 39) (by omega) (by omega) ?_
      exact K _ _ _ (INV_0 (INV_up hi)) had1
set_option maxHeartbeats 4000000 in
set_option maxRecDepth 20000 in
theorem law_26 {p : Program} {l : Launch} {e : Env} {s : State} {m : MethodId} {below : List Frame} {meth : Method} {c : Code} {b L : Nat} {xs : Nat → Int32} {D : va_G} {TC : Nat → ClassId} {Q : State → Prop} {ret : Option FieldType} {nm : String} {tb : List ExceptionTableEntry} (F : FX D (tysOf TC) s.heap p l s m #[.ref b] meth c RL cL_law 7 ret nm tb) (hst : l.stackTraces = false) (hX : va_X b L xs s s.heap) (hbs : b < s.heap.size) (hbl : b < s.heap.size) (hL : L < 2 ^ 31)
    (ad : Nat → Nat) (had : ad 3 = b) (S : St) (o : Nat → Int64) (t : Nat) (hi : INV t S) (ht : t < 512) (h5 : 5 * t + 5 ≤ L) (cells slots : Nat) (hcl : cells + 4 ≤ 601024) (hsl : slots + 39 ≤ 7293034)
    (K : ∀ (S1 : St) (o1 : Nat → Int64) (ad1 : Nat → Nat), INV (t + 1) S1 → ad1 3 = b → WA D s.heap p l e room_1 s m #[.ref b] below meth c 7 Q ad1 (hall TC S1 S1 o1) (cells + 4) (slots + 39) 2469 [(4, .int (nI (5 * t))), (3, .ref 1), (2, .ref 2), (1, .ref 0), (0, .ref 3)] []) : WA D s.heap p l e room_1 s m #[.ref b] below meth c 7 Q ad (hall TC S S o) cells slots 2069 [(4, .int (nI (5 * t))), (3, .ref 1), (2, .ref 2), (1, .ref 0), (0, .ref 3)] [] := by
  refine wa_aload_n F dL_law_2069 (i := 1) rfl 3 rfl ?_
  refine wa_aload_n F dL_law_2070 (i := 0) rfl 4 rfl ?_
  refine wa_iload F dL_law_2071 0 rfl ?_
  refine wa_iconst (v := 1) F dL_law_2073 (by decide) ?_
  refine wa_iaddN F dL_law_2074 (a := 5 * t) (b := 1) rfl rfl ?_
  refine wa_sld F hX hbs hbl had ((5 * t) + 1) rfl (by omega) hL dL_law_2075 ?_
  refine wa_aload_n F dL_law_2076 (i := 3) rfl 1 rfl ?_
  have hiX : INV (t + 1) (kU (kQp S (xs ((5 * t) + 1))) (fun Y => Y) S) := by rw [kU_id]; exact INV_up hi
  have hnr3 : noRef (hall TC (kU (kQp S (xs ((5 * t) + 1))) (fun Y => Y) S) S (kO (kQp S (xs ((5 * t) + 1))) (rWy S (xs ((5 * t) + 1))) o)) 3 := hall_nr (Or.inl rfl) rfl hiX.1.2 hiX.2.1.2 hiX.2.2.1.2 hiX.2.2.2.1.2 hiX.2.2.2.2.1.2 hiX.2.2.2.2.2.2.2.1
  refine wa_callH3 F [] (c_L_way hst D TC s.heap ad S S o (xs ((5 * t) + 1)) t hi) mw_L_way ml_L_211 rfl hnr3 rfl (Nat.le_of_ble_eq_true rfl) ⟨(Nat.le_of_ble_eq_true rfl), (Nat.le_of_ble_eq_true rfl)⟩ ⟨show _ ≤ 601024 by omega, show _ ≤ 7293034 by omega⟩ dL_law_2077 (by intro y hy; simp only [List.mem_cons, List.not_mem_nil, or_false] at hy; rcases hy with rfl | rfl | rfl | rfl | rfl <;> intro z hz <;> first | (cases hz; exact Or.inl rfl) | (cases hz; exact Or.inr (by simp [hm_c, hm_m, hm_o])) | cases hz) rfl ?_
  intro ad1 had1
  replace had1 : ad1 3 = b := had1.trans had
  refine wa_istore (lv' := [(5, .int (kQp S (xs ((5 * t) + 1)))), (4, .int (nI (5 * t))), (3, .ref 1), (2, .ref 2), (1, .ref 0), (0, .ref 3)]) F dL_law_2080 (by decide) rfl ?_
  refine wa_aload_n F dL_law_2082 (i := 2) rfl 3 rfl ?_
  refine wa_aload_n F dL_law_2083 (i := 0) rfl 5 rfl ?_
  refine wa_iload F dL_law_2084 1 rfl ?_
  refine wa_iconst (v := 1) F dL_law_2086 (by decide) ?_
  refine wa_iaddN F dL_law_2087 (a := 5 * t) (b := 1) rfl rfl ?_
  refine wa_sld F hX hbs hbl had1 ((5 * t) + 1) rfl (by omega) hL dL_law_2088 ?_
  refine wa_callV F [] (c_X6_way hst D TC s.heap ad1 (kU (kQp S (xs ((5 * t) + 1))) (fun Y => Y) S) S (kO (kQp S (xs ((5 * t) + 1))) (rWy S (xs ((5 * t) + 1))) o) (xs ((5 * t) + 1)) t hi) mw_X6_way ml_L_213 hm_m rfl rfl (Nat.le_of_ble_eq_true rfl) ⟨(Nat.le_of_ble_eq_true rfl), (Nat.le_of_ble_eq_true rfl)⟩ ⟨show _ ≤ 601024 by omega, show _ ≤ 7293034 by omega⟩ dL_law_2089 PR_ag (fun _ z => z.elim) ?_
  rintro _ _ _ ⟨rfl, rfl, rfl⟩
  rw [mS_id, kU_id, hall_ag (X := S) (Y := sU S 0 0 (kQp S (xs ((5 * t) + 1)))) ag_0]
  refine wa_istore (lv' := [(6, .int (mR (kQp S (xs ((5 * t) + 1))) (rWy S (xs ((5 * t) + 1))))), (5, .int (kQp S (xs ((5 * t) + 1)))), (4, .int (nI (5 * t))), (3, .ref 1), (2, .ref 2), (1, .ref 0), (0, .ref 3)]) F dL_law_2092 (by decide) rfl ?_
  refine wa_aload_n F dL_law_2094 (i := 2) rfl 4 rfl ?_
  refine wa_callV F [] (c_X6_thrown hst D TC s.heap ad1 (sU S 0 0 (kQp S (xs ((5 * t) + 1)))) (sU S 0 0 (kQp S (xs ((5 * t) + 1)))) (kO (kQp S (xs ((5 * t) + 1))) (rWy S (xs ((5 * t) + 1))) o)) mw_X6_thrown ml_L_126 hm_m rfl rfl (Nat.le_of_ble_eq_true rfl) ⟨(Nat.le_of_ble_eq_true rfl), (Nat.le_of_ble_eq_true rfl)⟩ ⟨show _ ≤ 601024 by omega, show _ ≤ 7293034 by omega⟩ dL_law_2095 PR_ag (fun _ z => z.elim) ?_
  rintro _ _ _ ⟨rfl, rfl, rfl⟩
  rw [show (sU S 0 0 (kQp S (xs ((5 * t) + 1)))) 0 0 = kQp S (xs ((5 * t) + 1)) from by rw [sU_eq, if_pos rfl]]
  refine wa_iload F dL_law_2098 1 rfl ?_
  refine wa_icmp_eq (tgt := 2105) F dL_law_2100 (by decide) (fun _ => ?_) (fun z => absurd rfl z)
  refine wa_iload F dL_law_2105 1 rfl ?_
  refine wa_if_ne (tgt := 2122) F dL_law_2107 (by decide) (fun c2107 => ?_) (fun c2107 => ?_)
  · skip
    refine wa_goto (tgt := 2469) F dL_law_2122 (by decide) ?_
    refine wa_lv (lv' := [(4, .int (nI (5 * t))), (3, .ref 1), (2, .ref 2), (1, .ref 0), (0, .ref 3)]) [2, 3, 4, 5, 6] rfl ?_
    refine wa_widen (k := cells + 4) (n := slots + 39) (by omega) (by omega) ?_
    exact K _ _ _ (INV_0 (INV_up hi)) had1
  · skip
    have eo : (kO (kQp S (xs ((5 * t) + 1))) (rWy S (xs ((5 * t) + 1))) o) 0 = (rWy S (xs ((5 * t) + 1))).toInt64 := by rw [c2107, kO_0]; exact if_pos rfl
    have er : mR (kQp S (xs ((5 * t) + 1))) (rWy S (xs ((5 * t) + 1))) = rWy S (xs ((5 * t) + 1)) := by rw [c2107, mR_0]
    refine wa_aload_n F dL_law_2110 (i := 3) rfl 3 rfl ?_
    refine wa_iconst (v := 0) F dL_law_2111 (by decide) ?_
    refine wa_lald F 1 rfl (hm_o (TC := TC) (X := (sU S 0 0 (kQp S (xs ((5 * t) + 1))))) (S := (sU S 0 0 (kQp S (xs ((5 * t) + 1))))) (o := (kO (kQp S (xs ((5 * t) + 1))) (rWy S (xs ((5 * t) + 1))) o))) 0 rfl (by decide) (by decide) dL_law_2112 ?_
    refine wa_iload F dL_law_2113 0 rfl ?_
    refine wa_i2l F dL_law_2115 rfl ?_
    have eo1 : (kO (kQp S (xs ((5 * t) + 1))) (rWy S (xs ((5 * t) + 1))) o) 0 = (mR (kQp S (xs ((5 * t) + 1))) (rWy S (xs ((5 * t) + 1)))).toInt64 := by rw [er]; exact eo
    refine wa_lcmp F dL_law_2116 ?_
    refine wa_if_eq (tgt := 2122) F dL_law_2117 (by decide) (fun _ => ?_) (fun z => absurd ((lg_cmp_eq _ _).mpr eo1) z)
    refine wa_goto (tgt := 2469) F dL_law_2122 (by decide) ?_
    refine wa_lv (lv' := [(4, .int (nI (5 * t))), (3, .ref 1), (2, .ref 2), (1, .ref 0), (0, .ref 3)]) [2, 3, 4, 5, 6] rfl ?_
    refine wa_widen (k := cells + 4) (n := slots + 39) (by omega) (by omega) ?_
    exact K _ _ _ (INV_0 (INV_up hi)) had1
set_option maxHeartbeats 4000000 in
set_option maxRecDepth 20000 in
theorem law_27 {p : Program} {l : Launch} {e : Env} {s : State} {m : MethodId} {below : List Frame} {meth : Method} {c : Code} {b L : Nat} {xs : Nat → Int32} {D : va_G} {TC : Nat → ClassId} {Q : State → Prop} {ret : Option FieldType} {nm : String} {tb : List ExceptionTableEntry} (F : FX D (tysOf TC) s.heap p l s m #[.ref b] meth c RL cL_law 7 ret nm tb) (hst : l.stackTraces = false) (hX : va_X b L xs s s.heap) (hbs : b < s.heap.size) (hbl : b < s.heap.size) (hL : L < 2 ^ 31)
    (ad : Nat → Nat) (had : ad 3 = b) (S : St) (o : Nat → Int64) (t : Nat) (hi : INV t S) (ht : t < 512) (h5 : 5 * t + 5 ≤ L) (cells slots : Nat) (hcl : cells + 4 ≤ 601024) (hsl : slots + 39 ≤ 7293034)
    (K : ∀ (S1 : St) (o1 : Nat → Int64) (ad1 : Nat → Nat), INV (t + 1) S1 → ad1 3 = b → WA D s.heap p l e room_1 s m #[.ref b] below meth c 7 Q ad1 (hall TC S1 S1 o1) (cells + 4) (slots + 39) 2469 [(4, .int (nI (5 * t))), (3, .ref 1), (2, .ref 2), (1, .ref 0), (0, .ref 3)] []) : WA D s.heap p l e room_1 s m #[.ref b] below meth c 7 Q ad (hall TC S S o) cells slots 2125 [(4, .int (nI (5 * t))), (3, .ref 1), (2, .ref 2), (1, .ref 0), (0, .ref 3)] [] := by
  refine wa_aload_n F dL_law_2125 (i := 1) rfl 3 rfl ?_
  refine wa_aload_n F dL_law_2126 (i := 0) rfl 4 rfl ?_
  refine wa_iload F dL_law_2127 0 rfl ?_
  refine wa_iconst (v := 1) F dL_law_2129 (by decide) ?_
  refine wa_iaddN F dL_law_2130 (a := 5 * t) (b := 1) rfl rfl ?_
  refine wa_sld F hX hbs hbl had ((5 * t) + 1) rfl (by omega) hL dL_law_2131 ?_
  refine wa_aload_n F dL_law_2132 (i := 3) rfl 1 rfl ?_
  have hiX : INV (t + 1) (kU (kQp S (xs ((5 * t) + 1))) (fun Y => Y) S) := by rw [kU_id]; exact INV_up hi
  have hnr3 : noRef (hall TC (kU (kQp S (xs ((5 * t) + 1))) (fun Y => Y) S) S (kO (kQp S (xs ((5 * t) + 1))) (rWt S (xs ((5 * t) + 1))) o)) 3 := hall_nr (Or.inl rfl) rfl hiX.1.2 hiX.2.1.2 hiX.2.2.1.2 hiX.2.2.2.1.2 hiX.2.2.2.2.1.2 hiX.2.2.2.2.2.2.2.1
  refine wa_callH3 F [] (c_L_wanting hst D TC s.heap ad S S o (xs ((5 * t) + 1)) t hi) mw_L_wanting ml_L_214 rfl hnr3 rfl (Nat.le_of_ble_eq_true rfl) ⟨(Nat.le_of_ble_eq_true rfl), (Nat.le_of_ble_eq_true rfl)⟩ ⟨show _ ≤ 601024 by omega, show _ ≤ 7293034 by omega⟩ dL_law_2133 (by intro y hy; simp only [List.mem_cons, List.not_mem_nil, or_false] at hy; rcases hy with rfl | rfl | rfl | rfl | rfl <;> intro z hz <;> first | (cases hz; exact Or.inl rfl) | (cases hz; exact Or.inr (by simp [hm_c, hm_m, hm_o])) | cases hz) rfl ?_
  intro ad1 had1
  replace had1 : ad1 3 = b := had1.trans had
  refine wa_istore (lv' := [(5, .int (kQp S (xs ((5 * t) + 1)))), (4, .int (nI (5 * t))), (3, .ref 1), (2, .ref 2), (1, .ref 0), (0, .ref 3)]) F dL_law_2136 (by decide) rfl ?_
  refine wa_aload_n F dL_law_2138 (i := 2) rfl 3 rfl ?_
  refine wa_aload_n F dL_law_2139 (i := 0) rfl 5 rfl ?_
  refine wa_iload F dL_law_2140 1 rfl ?_
  refine wa_iconst (v := 1) F dL_law_2142 (by decide) ?_
  refine wa_iaddN F dL_law_2143 (a := 5 * t) (b := 1) rfl rfl ?_
  refine wa_sld F hX hbs hbl had1 ((5 * t) + 1) rfl (by omega) hL dL_law_2144 ?_
  refine wa_callV F [] (c_X6_wanting hst D TC s.heap ad1 (kU (kQp S (xs ((5 * t) + 1))) (fun Y => Y) S) S (kO (kQp S (xs ((5 * t) + 1))) (rWt S (xs ((5 * t) + 1))) o) (xs ((5 * t) + 1)) t hi) mw_X6_wanting ml_L_216 hm_m rfl rfl (Nat.le_of_ble_eq_true rfl) ⟨(Nat.le_of_ble_eq_true rfl), (Nat.le_of_ble_eq_true rfl)⟩ ⟨show _ ≤ 601024 by omega, show _ ≤ 7293034 by omega⟩ dL_law_2145 PR_ag (fun _ z => z.elim) ?_
  rintro _ _ _ ⟨rfl, rfl, rfl⟩
  rw [mS_id, kU_id, hall_ag (X := S) (Y := sU S 0 0 (kQp S (xs ((5 * t) + 1)))) ag_0]
  refine wa_istore (lv' := [(6, .int (mR (kQp S (xs ((5 * t) + 1))) (rWt S (xs ((5 * t) + 1))))), (5, .int (kQp S (xs ((5 * t) + 1)))), (4, .int (nI (5 * t))), (3, .ref 1), (2, .ref 2), (1, .ref 0), (0, .ref 3)]) F dL_law_2148 (by decide) rfl ?_
  refine wa_aload_n F dL_law_2150 (i := 2) rfl 4 rfl ?_
  refine wa_callV F [] (c_X6_thrown hst D TC s.heap ad1 (sU S 0 0 (kQp S (xs ((5 * t) + 1)))) (sU S 0 0 (kQp S (xs ((5 * t) + 1)))) (kO (kQp S (xs ((5 * t) + 1))) (rWt S (xs ((5 * t) + 1))) o)) mw_X6_thrown ml_L_126 hm_m rfl rfl (Nat.le_of_ble_eq_true rfl) ⟨(Nat.le_of_ble_eq_true rfl), (Nat.le_of_ble_eq_true rfl)⟩ ⟨show _ ≤ 601024 by omega, show _ ≤ 7293034 by omega⟩ dL_law_2151 PR_ag (fun _ z => z.elim) ?_
  rintro _ _ _ ⟨rfl, rfl, rfl⟩
  rw [show (sU S 0 0 (kQp S (xs ((5 * t) + 1)))) 0 0 = kQp S (xs ((5 * t) + 1)) from by rw [sU_eq, if_pos rfl]]
  refine wa_iload F dL_law_2154 1 rfl ?_
  refine wa_icmp_eq (tgt := 2161) F dL_law_2156 (by decide) (fun _ => ?_) (fun z => absurd rfl z)
  refine wa_iload F dL_law_2161 1 rfl ?_
  refine wa_if_ne (tgt := 2178) F dL_law_2163 (by decide) (fun c2163 => ?_) (fun c2163 => ?_)
  · skip
    refine wa_goto (tgt := 2469) F dL_law_2178 (by decide) ?_
    refine wa_lv (lv' := [(4, .int (nI (5 * t))), (3, .ref 1), (2, .ref 2), (1, .ref 0), (0, .ref 3)]) [2, 3, 4, 5, 6] rfl ?_
    refine wa_widen (k := cells + 4) (n := slots + 39) (by omega) (by omega) ?_
    exact K _ _ _ (INV_0 (INV_up hi)) had1
  · skip
    have eo : (kO (kQp S (xs ((5 * t) + 1))) (rWt S (xs ((5 * t) + 1))) o) 0 = (rWt S (xs ((5 * t) + 1))).toInt64 := by rw [c2163, kO_0]; exact if_pos rfl
    have er : mR (kQp S (xs ((5 * t) + 1))) (rWt S (xs ((5 * t) + 1))) = rWt S (xs ((5 * t) + 1)) := by rw [c2163, mR_0]
    refine wa_aload_n F dL_law_2166 (i := 3) rfl 3 rfl ?_
    refine wa_iconst (v := 0) F dL_law_2167 (by decide) ?_
    refine wa_lald F 1 rfl (hm_o (TC := TC) (X := (sU S 0 0 (kQp S (xs ((5 * t) + 1))))) (S := (sU S 0 0 (kQp S (xs ((5 * t) + 1))))) (o := (kO (kQp S (xs ((5 * t) + 1))) (rWt S (xs ((5 * t) + 1))) o))) 0 rfl (by decide) (by decide) dL_law_2168 ?_
    refine wa_iload F dL_law_2169 0 rfl ?_
    refine wa_i2l F dL_law_2171 rfl ?_
    have eo1 : (kO (kQp S (xs ((5 * t) + 1))) (rWt S (xs ((5 * t) + 1))) o) 0 = (mR (kQp S (xs ((5 * t) + 1))) (rWt S (xs ((5 * t) + 1)))).toInt64 := by rw [er]; exact eo
    refine wa_lcmp F dL_law_2172 ?_
    refine wa_if_eq (tgt := 2178) F dL_law_2173 (by decide) (fun _ => ?_) (fun z => absurd ((lg_cmp_eq _ _).mpr eo1) z)
    refine wa_goto (tgt := 2469) F dL_law_2178 (by decide) ?_
    refine wa_lv (lv' := [(4, .int (nI (5 * t))), (3, .ref 1), (2, .ref 2), (1, .ref 0), (0, .ref 3)]) [2, 3, 4, 5, 6] rfl ?_
    refine wa_widen (k := cells + 4) (n := slots + 39) (by omega) (by omega) ?_
    exact K _ _ _ (INV_0 (INV_up hi)) had1
set_option maxHeartbeats 4000000 in
set_option maxRecDepth 20000 in
theorem law_28 {p : Program} {l : Launch} {e : Env} {s : State} {m : MethodId} {below : List Frame} {meth : Method} {c : Code} {b L : Nat} {xs : Nat → Int32} {D : va_G} {TC : Nat → ClassId} {Q : State → Prop} {ret : Option FieldType} {nm : String} {tb : List ExceptionTableEntry} (F : FX D (tysOf TC) s.heap p l s m #[.ref b] meth c RL cL_law 7 ret nm tb) (hst : l.stackTraces = false) (hX : va_X b L xs s s.heap) (hbs : b < s.heap.size) (hbl : b < s.heap.size) (hL : L < 2 ^ 31)
    (ad : Nat → Nat) (had : ad 3 = b) (S : St) (o : Nat → Int64) (t : Nat) (hi : INV t S) (ht : t < 512) (h5 : 5 * t + 5 ≤ L) (cells slots : Nat) (hcl : cells + 4 ≤ 601024) (hsl : slots + 39 ≤ 7293034)
    (K : ∀ (S1 : St) (o1 : Nat → Int64) (ad1 : Nat → Nat), INV (t + 1) S1 → ad1 3 = b → WA D s.heap p l e room_1 s m #[.ref b] below meth c 7 Q ad1 (hall TC S1 S1 o1) (cells + 4) (slots + 39) 2469 [(4, .int (nI (5 * t))), (3, .ref 1), (2, .ref 2), (1, .ref 0), (0, .ref 3)] []) : WA D s.heap p l e room_1 s m #[.ref b] below meth c 7 Q ad (hall TC S S o) cells slots 2181 [(4, .int (nI (5 * t))), (3, .ref 1), (2, .ref 2), (1, .ref 0), (0, .ref 3)] [] := by
  refine wa_aload_n F dL_law_2181 (i := 1) rfl 3 rfl ?_
  refine wa_aload_n F dL_law_2182 (i := 0) rfl 4 rfl ?_
  refine wa_iload F dL_law_2183 0 rfl ?_
  refine wa_iconst (v := 1) F dL_law_2185 (by decide) ?_
  refine wa_iaddN F dL_law_2186 (a := 5 * t) (b := 1) rfl rfl ?_
  refine wa_sld F hX hbs hbl had ((5 * t) + 1) rfl (by omega) hL dL_law_2187 ?_
  refine wa_aload_n F dL_law_2188 (i := 0) rfl 4 rfl ?_
  refine wa_iload F dL_law_2189 0 rfl ?_
  refine wa_iconst (v := 2) F dL_law_2191 (by decide) ?_
  refine wa_iaddN F dL_law_2192 (a := 5 * t) (b := 2) rfl rfl ?_
  refine wa_sld F hX hbs hbl had ((5 * t) + 2) rfl (by omega) hL dL_law_2193 ?_
  refine wa_aload_n F dL_law_2194 (i := 3) rfl 1 rfl ?_
  have hiX : INV (t + 1) (kU (kPO S (xs ((5 * t) + 1)) (xs ((5 * t) + 2))) (fun Y => Y) S) := by rw [kU_id]; exact INV_up hi
  have hnr3 : noRef (hall TC (kU (kPO S (xs ((5 * t) + 1)) (xs ((5 * t) + 2))) (fun Y => Y) S) S (kO (kPO S (xs ((5 * t) + 1)) (xs ((5 * t) + 2))) (rPO S (xs ((5 * t) + 1)) (xs ((5 * t) + 2))) o)) 3 := hall_nr (Or.inl rfl) rfl hiX.1.2 hiX.2.1.2 hiX.2.2.1.2 hiX.2.2.2.1.2 hiX.2.2.2.2.1.2 hiX.2.2.2.2.2.2.2.1
  refine wa_callH3 F [] (c_L_productOf hst D TC s.heap ad S S o (xs ((5 * t) + 1)) (xs ((5 * t) + 2)) t hi) mw_L_productOf ml_L_217 rfl hnr3 rfl (Nat.le_of_ble_eq_true rfl) ⟨(Nat.le_of_ble_eq_true rfl), (Nat.le_of_ble_eq_true rfl)⟩ ⟨show _ ≤ 601024 by omega, show _ ≤ 7293034 by omega⟩ dL_law_2195 (by intro y hy; simp only [List.mem_cons, List.not_mem_nil, or_false] at hy; rcases hy with rfl | rfl | rfl | rfl | rfl <;> intro z hz <;> first | (cases hz; exact Or.inl rfl) | (cases hz; exact Or.inr (by simp [hm_c, hm_m, hm_o])) | cases hz) rfl ?_
  intro ad1 had1
  replace had1 : ad1 3 = b := had1.trans had
  refine wa_istore (lv' := [(5, .int (kPO S (xs ((5 * t) + 1)) (xs ((5 * t) + 2)))), (4, .int (nI (5 * t))), (3, .ref 1), (2, .ref 2), (1, .ref 0), (0, .ref 3)]) F dL_law_2198 (by decide) rfl ?_
  refine wa_aload_n F dL_law_2200 (i := 2) rfl 3 rfl ?_
  refine wa_aload_n F dL_law_2201 (i := 0) rfl 5 rfl ?_
  refine wa_iload F dL_law_2202 1 rfl ?_
  refine wa_iconst (v := 1) F dL_law_2204 (by decide) ?_
  refine wa_iaddN F dL_law_2205 (a := 5 * t) (b := 1) rfl rfl ?_
  refine wa_sld F hX hbs hbl had1 ((5 * t) + 1) rfl (by omega) hL dL_law_2206 ?_
  refine wa_aload_n F dL_law_2207 (i := 0) rfl 5 rfl ?_
  refine wa_iload F dL_law_2208 1 rfl ?_
  refine wa_iconst (v := 2) F dL_law_2210 (by decide) ?_
  refine wa_iaddN F dL_law_2211 (a := 5 * t) (b := 2) rfl rfl ?_
  refine wa_sld F hX hbs hbl had1 ((5 * t) + 2) rfl (by omega) hL dL_law_2212 ?_
  refine wa_callV F [] (c_X6_productOf hst D TC s.heap ad1 (kU (kPO S (xs ((5 * t) + 1)) (xs ((5 * t) + 2))) (fun Y => Y) S) S (kO (kPO S (xs ((5 * t) + 1)) (xs ((5 * t) + 2))) (rPO S (xs ((5 * t) + 1)) (xs ((5 * t) + 2))) o) (xs ((5 * t) + 1)) (xs ((5 * t) + 2)) t hi) mw_X6_productOf ml_L_219 hm_m rfl rfl (Nat.le_of_ble_eq_true rfl) ⟨(Nat.le_of_ble_eq_true rfl), (Nat.le_of_ble_eq_true rfl)⟩ ⟨show _ ≤ 601024 by omega, show _ ≤ 7293034 by omega⟩ dL_law_2213 PR_ag (fun _ z => z.elim) ?_
  rintro _ _ _ ⟨rfl, rfl, rfl⟩
  rw [mS_id, kU_id, hall_ag (X := S) (Y := sU S 0 0 (kPO S (xs ((5 * t) + 1)) (xs ((5 * t) + 2)))) ag_0]
  refine wa_istore (lv' := [(6, .int (mR (kPO S (xs ((5 * t) + 1)) (xs ((5 * t) + 2))) (rPO S (xs ((5 * t) + 1)) (xs ((5 * t) + 2))))), (5, .int (kPO S (xs ((5 * t) + 1)) (xs ((5 * t) + 2)))), (4, .int (nI (5 * t))), (3, .ref 1), (2, .ref 2), (1, .ref 0), (0, .ref 3)]) F dL_law_2216 (by decide) rfl ?_
  refine wa_aload_n F dL_law_2218 (i := 2) rfl 4 rfl ?_
  refine wa_callV F [] (c_X6_thrown hst D TC s.heap ad1 (sU S 0 0 (kPO S (xs ((5 * t) + 1)) (xs ((5 * t) + 2)))) (sU S 0 0 (kPO S (xs ((5 * t) + 1)) (xs ((5 * t) + 2)))) (kO (kPO S (xs ((5 * t) + 1)) (xs ((5 * t) + 2))) (rPO S (xs ((5 * t) + 1)) (xs ((5 * t) + 2))) o)) mw_X6_thrown ml_L_126 hm_m rfl rfl (Nat.le_of_ble_eq_true rfl) ⟨(Nat.le_of_ble_eq_true rfl), (Nat.le_of_ble_eq_true rfl)⟩ ⟨show _ ≤ 601024 by omega, show _ ≤ 7293034 by omega⟩ dL_law_2219 PR_ag (fun _ z => z.elim) ?_
  rintro _ _ _ ⟨rfl, rfl, rfl⟩
  rw [show (sU S 0 0 (kPO S (xs ((5 * t) + 1)) (xs ((5 * t) + 2)))) 0 0 = kPO S (xs ((5 * t) + 1)) (xs ((5 * t) + 2)) from by rw [sU_eq, if_pos rfl]]
  refine wa_iload F dL_law_2222 1 rfl ?_
  refine wa_icmp_eq (tgt := 2229) F dL_law_2224 (by decide) (fun _ => ?_) (fun z => absurd rfl z)
  refine wa_iload F dL_law_2229 1 rfl ?_
  refine wa_if_ne (tgt := 2246) F dL_law_2231 (by decide) (fun c2231 => ?_) (fun c2231 => ?_)
  · skip
    refine wa_goto (tgt := 2469) F dL_law_2246 (by decide) ?_
    refine wa_lv (lv' := [(4, .int (nI (5 * t))), (3, .ref 1), (2, .ref 2), (1, .ref 0), (0, .ref 3)]) [2, 3, 4, 5, 6] rfl ?_
    refine wa_widen (k := cells + 4) (n := slots + 39) (by omega) (by omega) ?_
    exact K _ _ _ (INV_0 (INV_up hi)) had1
  · skip
    have eo : (kO (kPO S (xs ((5 * t) + 1)) (xs ((5 * t) + 2))) (rPO S (xs ((5 * t) + 1)) (xs ((5 * t) + 2))) o) 0 = (rPO S (xs ((5 * t) + 1)) (xs ((5 * t) + 2))).toInt64 := by rw [c2231, kO_0]; exact if_pos rfl
    have er : mR (kPO S (xs ((5 * t) + 1)) (xs ((5 * t) + 2))) (rPO S (xs ((5 * t) + 1)) (xs ((5 * t) + 2))) = rPO S (xs ((5 * t) + 1)) (xs ((5 * t) + 2)) := by rw [c2231, mR_0]
    refine wa_aload_n F dL_law_2234 (i := 3) rfl 3 rfl ?_
    refine wa_iconst (v := 0) F dL_law_2235 (by decide) ?_
    refine wa_lald F 1 rfl (hm_o (TC := TC) (X := (sU S 0 0 (kPO S (xs ((5 * t) + 1)) (xs ((5 * t) + 2))))) (S := (sU S 0 0 (kPO S (xs ((5 * t) + 1)) (xs ((5 * t) + 2))))) (o := (kO (kPO S (xs ((5 * t) + 1)) (xs ((5 * t) + 2))) (rPO S (xs ((5 * t) + 1)) (xs ((5 * t) + 2))) o))) 0 rfl (by decide) (by decide) dL_law_2236 ?_
    refine wa_iload F dL_law_2237 0 rfl ?_
    refine wa_i2l F dL_law_2239 rfl ?_
    have eo1 : (kO (kPO S (xs ((5 * t) + 1)) (xs ((5 * t) + 2))) (rPO S (xs ((5 * t) + 1)) (xs ((5 * t) + 2))) o) 0 = (mR (kPO S (xs ((5 * t) + 1)) (xs ((5 * t) + 2))) (rPO S (xs ((5 * t) + 1)) (xs ((5 * t) + 2)))).toInt64 := by rw [er]; exact eo
    refine wa_lcmp F dL_law_2240 ?_
    refine wa_if_eq (tgt := 2246) F dL_law_2241 (by decide) (fun _ => ?_) (fun z => absurd ((lg_cmp_eq _ _).mpr eo1) z)
    refine wa_goto (tgt := 2469) F dL_law_2246 (by decide) ?_
    refine wa_lv (lv' := [(4, .int (nI (5 * t))), (3, .ref 1), (2, .ref 2), (1, .ref 0), (0, .ref 3)]) [2, 3, 4, 5, 6] rfl ?_
    refine wa_widen (k := cells + 4) (n := slots + 39) (by omega) (by omega) ?_
    exact K _ _ _ (INV_0 (INV_up hi)) had1
set_option maxHeartbeats 4000000 in
set_option maxRecDepth 20000 in
theorem law_29 {p : Program} {l : Launch} {e : Env} {s : State} {m : MethodId} {below : List Frame} {meth : Method} {c : Code} {b L : Nat} {xs : Nat → Int32} {D : va_G} {TC : Nat → ClassId} {Q : State → Prop} {ret : Option FieldType} {nm : String} {tb : List ExceptionTableEntry} (F : FX D (tysOf TC) s.heap p l s m #[.ref b] meth c RL cL_law 7 ret nm tb) (hst : l.stackTraces = false) (hX : va_X b L xs s s.heap) (hbs : b < s.heap.size) (hbl : b < s.heap.size) (hL : L < 2 ^ 31)
    (ad : Nat → Nat) (had : ad 3 = b) (S : St) (o : Nat → Int64) (t : Nat) (hi : INV t S) (ht : t < 512) (h5 : 5 * t + 5 ≤ L) (cells slots : Nat) (hcl : cells + 4 ≤ 601024) (hsl : slots + 39 ≤ 7293034)
    (K : ∀ (S1 : St) (o1 : Nat → Int64) (ad1 : Nat → Nat), INV (t + 1) S1 → ad1 3 = b → WA D s.heap p l e room_1 s m #[.ref b] below meth c 7 Q ad1 (hall TC S1 S1 o1) (cells + 4) (slots + 39) 2469 [(4, .int (nI (5 * t))), (3, .ref 1), (2, .ref 2), (1, .ref 0), (0, .ref 3)] []) : WA D s.heap p l e room_1 s m #[.ref b] below meth c 7 Q ad (hall TC S S o) cells slots 2249 [(4, .int (nI (5 * t))), (3, .ref 1), (2, .ref 2), (1, .ref 0), (0, .ref 3)] [] := by
  refine wa_aload_n F dL_law_2249 (i := 1) rfl 3 rfl ?_
  refine wa_aload_n F dL_law_2250 (i := 0) rfl 4 rfl ?_
  refine wa_iload F dL_law_2251 0 rfl ?_
  refine wa_iconst (v := 1) F dL_law_2253 (by decide) ?_
  refine wa_iaddN F dL_law_2254 (a := 5 * t) (b := 1) rfl rfl ?_
  refine wa_sld F hX hbs hbl had ((5 * t) + 1) rfl (by omega) hL dL_law_2255 ?_
  refine wa_aload_n F dL_law_2256 (i := 0) rfl 4 rfl ?_
  refine wa_iload F dL_law_2257 0 rfl ?_
  refine wa_iconst (v := 2) F dL_law_2259 (by decide) ?_
  refine wa_iaddN F dL_law_2260 (a := 5 * t) (b := 2) rfl rfl ?_
  refine wa_sld F hX hbs hbl had ((5 * t) + 2) rfl (by omega) hL dL_law_2261 ?_
  refine wa_aload_n F dL_law_2262 (i := 0) rfl 4 rfl ?_
  refine wa_iload F dL_law_2263 0 rfl ?_
  refine wa_iconst (v := 3) F dL_law_2265 (by decide) ?_
  refine wa_iaddN F dL_law_2266 (a := 5 * t) (b := 3) rfl rfl ?_
  refine wa_sld F hX hbs hbl had ((5 * t) + 3) rfl (by omega) hL dL_law_2267 ?_
  refine wa_if_eq (tgt := 2275) F dL_law_2268 (by decide) (fun c2268 => ?_) (fun c2268 => ?_)
  · skip
    refine wa_iconst (v := 0) F dL_law_2275 (by decide) ?_
    refine wa_aload_n F dL_law_2276 (i := 3) rfl 1 rfl ?_
    have hiX : INV (t + 1) (kU (kRO S (xs ((5 * t) + 1)) (xs ((5 * t) + 2))) (fun Y => Y) S) := by rw [kU_id]; exact INV_up hi
    have hnr3 : noRef (hall TC (kU (kRO S (xs ((5 * t) + 1)) (xs ((5 * t) + 2))) (fun Y => Y) S) S (kO (kRO S (xs ((5 * t) + 1)) (xs ((5 * t) + 2))) (rRO S (xs ((5 * t) + 1)) (xs ((5 * t) + 2)) false) o)) 3 := hall_nr (Or.inl rfl) rfl hiX.1.2 hiX.2.1.2 hiX.2.2.1.2 hiX.2.2.2.1.2 hiX.2.2.2.2.1.2 hiX.2.2.2.2.2.2.2.1
    refine wa_callH3 F [] (c_L_riskOf hst D TC s.heap ad S S o (xs ((5 * t) + 1)) (xs ((5 * t) + 2)) false t hi) mw_L_riskOf ml_L_220 rfl hnr3 rfl (Nat.le_of_ble_eq_true rfl) ⟨(Nat.le_of_ble_eq_true rfl), (Nat.le_of_ble_eq_true rfl)⟩ ⟨show _ ≤ 601024 by omega, show _ ≤ 7293034 by omega⟩ dL_law_2277 (by intro y hy; simp only [List.mem_cons, List.not_mem_nil, or_false] at hy; rcases hy with rfl | rfl | rfl | rfl | rfl <;> intro z hz <;> first | (cases hz; exact Or.inl rfl) | (cases hz; exact Or.inr (by simp [hm_c, hm_m, hm_o])) | cases hz) rfl ?_
    intro ad1 had1
    replace had1 : ad1 3 = b := had1.trans had
    refine wa_istore (lv' := [(5, .int (kRO S (xs ((5 * t) + 1)) (xs ((5 * t) + 2)))), (4, .int (nI (5 * t))), (3, .ref 1), (2, .ref 2), (1, .ref 0), (0, .ref 3)]) F dL_law_2280 (by decide) rfl ?_
    refine wa_aload_n F dL_law_2282 (i := 2) rfl 3 rfl ?_
    refine wa_aload_n F dL_law_2283 (i := 0) rfl 5 rfl ?_
    refine wa_iload F dL_law_2284 1 rfl ?_
    refine wa_iconst (v := 1) F dL_law_2286 (by decide) ?_
    refine wa_iaddN F dL_law_2287 (a := 5 * t) (b := 1) rfl rfl ?_
    refine wa_sld F hX hbs hbl had1 ((5 * t) + 1) rfl (by omega) hL dL_law_2288 ?_
    refine wa_aload_n F dL_law_2289 (i := 0) rfl 5 rfl ?_
    refine wa_iload F dL_law_2290 1 rfl ?_
    refine wa_iconst (v := 2) F dL_law_2292 (by decide) ?_
    refine wa_iaddN F dL_law_2293 (a := 5 * t) (b := 2) rfl rfl ?_
    refine wa_sld F hX hbs hbl had1 ((5 * t) + 2) rfl (by omega) hL dL_law_2294 ?_
    refine wa_aload_n F dL_law_2295 (i := 0) rfl 5 rfl ?_
    refine wa_iload F dL_law_2296 1 rfl ?_
    refine wa_iconst (v := 3) F dL_law_2298 (by decide) ?_
    refine wa_iaddN F dL_law_2299 (a := 5 * t) (b := 3) rfl rfl ?_
    refine wa_sld F hX hbs hbl had1 ((5 * t) + 3) rfl (by omega) hL dL_law_2300 ?_
    refine wa_if_eq (tgt := 2308) F dL_law_2301 (by decide) (fun _ => ?_) (fun z => absurd c2268 z)
    refine wa_iconst (v := 0) F dL_law_2308 (by decide) ?_
    refine wa_callV F [] (c_X6_riskOf hst D TC s.heap ad1 (kU (kRO S (xs ((5 * t) + 1)) (xs ((5 * t) + 2))) (fun Y => Y) S) S (kO (kRO S (xs ((5 * t) + 1)) (xs ((5 * t) + 2))) (rRO S (xs ((5 * t) + 1)) (xs ((5 * t) + 2)) false) o) (xs ((5 * t) + 1)) (xs ((5 * t) + 2)) false t hi) mw_X6_riskOf ml_L_222 hm_m rfl rfl (Nat.le_of_ble_eq_true rfl) ⟨(Nat.le_of_ble_eq_true rfl), (Nat.le_of_ble_eq_true rfl)⟩ ⟨show _ ≤ 601024 by omega, show _ ≤ 7293034 by omega⟩ dL_law_2309 PR_ag (fun _ z => z.elim) ?_
    rintro _ _ _ ⟨rfl, rfl, rfl⟩
    rw [mS_id, kU_id, hall_ag (X := S) (Y := sU S 0 0 (kRO S (xs ((5 * t) + 1)) (xs ((5 * t) + 2)))) ag_0]
    refine wa_istore (lv' := [(6, .int (mR (kRO S (xs ((5 * t) + 1)) (xs ((5 * t) + 2))) (rRO S (xs ((5 * t) + 1)) (xs ((5 * t) + 2)) false))), (5, .int (kRO S (xs ((5 * t) + 1)) (xs ((5 * t) + 2)))), (4, .int (nI (5 * t))), (3, .ref 1), (2, .ref 2), (1, .ref 0), (0, .ref 3)]) F dL_law_2312 (by decide) rfl ?_
    refine wa_aload_n F dL_law_2314 (i := 2) rfl 4 rfl ?_
    refine wa_callV F [] (c_X6_thrown hst D TC s.heap ad1 (sU S 0 0 (kRO S (xs ((5 * t) + 1)) (xs ((5 * t) + 2)))) (sU S 0 0 (kRO S (xs ((5 * t) + 1)) (xs ((5 * t) + 2)))) (kO (kRO S (xs ((5 * t) + 1)) (xs ((5 * t) + 2))) (rRO S (xs ((5 * t) + 1)) (xs ((5 * t) + 2)) false) o)) mw_X6_thrown ml_L_126 hm_m rfl rfl (Nat.le_of_ble_eq_true rfl) ⟨(Nat.le_of_ble_eq_true rfl), (Nat.le_of_ble_eq_true rfl)⟩ ⟨show _ ≤ 601024 by omega, show _ ≤ 7293034 by omega⟩ dL_law_2315 PR_ag (fun _ z => z.elim) ?_
    rintro _ _ _ ⟨rfl, rfl, rfl⟩
    rw [show (sU S 0 0 (kRO S (xs ((5 * t) + 1)) (xs ((5 * t) + 2)))) 0 0 = kRO S (xs ((5 * t) + 1)) (xs ((5 * t) + 2)) from by rw [sU_eq, if_pos rfl]]
    refine wa_iload F dL_law_2318 1 rfl ?_
    refine wa_icmp_eq (tgt := 2325) F dL_law_2320 (by decide) (fun _ => ?_) (fun z => absurd rfl z)
    refine wa_iload F dL_law_2325 1 rfl ?_
    refine wa_if_ne (tgt := 2342) F dL_law_2327 (by decide) (fun c2327 => ?_) (fun c2327 => ?_)
    · skip
      refine wa_goto (tgt := 2469) F dL_law_2342 (by decide) ?_
      refine wa_lv (lv' := [(4, .int (nI (5 * t))), (3, .ref 1), (2, .ref 2), (1, .ref 0), (0, .ref 3)]) [2, 3, 4, 5, 6] rfl ?_
      refine wa_widen (k := cells + 4) (n := slots + 39) (by omega) (by omega) ?_
      exact K _ _ _ (INV_0 (INV_up hi)) had1
    · skip
      have eo : (kO (kRO S (xs ((5 * t) + 1)) (xs ((5 * t) + 2))) (rRO S (xs ((5 * t) + 1)) (xs ((5 * t) + 2)) false) o) 0 = (rRO S (xs ((5 * t) + 1)) (xs ((5 * t) + 2)) false).toInt64 := by rw [c2327, kO_0]; exact if_pos rfl
      have er : mR (kRO S (xs ((5 * t) + 1)) (xs ((5 * t) + 2))) (rRO S (xs ((5 * t) + 1)) (xs ((5 * t) + 2)) false) = rRO S (xs ((5 * t) + 1)) (xs ((5 * t) + 2)) false := by rw [c2327, mR_0]
      refine wa_aload_n F dL_law_2330 (i := 3) rfl 3 rfl ?_
      refine wa_iconst (v := 0) F dL_law_2331 (by decide) ?_
      refine wa_lald F 1 rfl (hm_o (TC := TC) (X := (sU S 0 0 (kRO S (xs ((5 * t) + 1)) (xs ((5 * t) + 2))))) (S := (sU S 0 0 (kRO S (xs ((5 * t) + 1)) (xs ((5 * t) + 2))))) (o := (kO (kRO S (xs ((5 * t) + 1)) (xs ((5 * t) + 2))) (rRO S (xs ((5 * t) + 1)) (xs ((5 * t) + 2)) false) o))) 0 rfl (by decide) (by decide) dL_law_2332 ?_
      refine wa_iload F dL_law_2333 0 rfl ?_
      refine wa_i2l F dL_law_2335 rfl ?_
      have eo1 : (kO (kRO S (xs ((5 * t) + 1)) (xs ((5 * t) + 2))) (rRO S (xs ((5 * t) + 1)) (xs ((5 * t) + 2)) false) o) 0 = (mR (kRO S (xs ((5 * t) + 1)) (xs ((5 * t) + 2))) (rRO S (xs ((5 * t) + 1)) (xs ((5 * t) + 2)) false)).toInt64 := by rw [er]; exact eo
      refine wa_lcmp F dL_law_2336 ?_
      refine wa_if_eq (tgt := 2342) F dL_law_2337 (by decide) (fun _ => ?_) (fun z => absurd ((lg_cmp_eq _ _).mpr eo1) z)
      refine wa_goto (tgt := 2469) F dL_law_2342 (by decide) ?_
      refine wa_lv (lv' := [(4, .int (nI (5 * t))), (3, .ref 1), (2, .ref 2), (1, .ref 0), (0, .ref 3)]) [2, 3, 4, 5, 6] rfl ?_
      refine wa_widen (k := cells + 4) (n := slots + 39) (by omega) (by omega) ?_
      exact K _ _ _ (INV_0 (INV_up hi)) had1
  · skip
    refine wa_iconst (v := 1) F dL_law_2271 (by decide) ?_
    refine wa_goto (tgt := 2276) F dL_law_2272 (by decide) ?_
    refine wa_aload_n F dL_law_2276 (i := 3) rfl 1 rfl ?_
    have hiX : INV (t + 1) (kU (kRO S (xs ((5 * t) + 1)) (xs ((5 * t) + 2))) (fun Y => Y) S) := by rw [kU_id]; exact INV_up hi
    have hnr3 : noRef (hall TC (kU (kRO S (xs ((5 * t) + 1)) (xs ((5 * t) + 2))) (fun Y => Y) S) S (kO (kRO S (xs ((5 * t) + 1)) (xs ((5 * t) + 2))) (rRO S (xs ((5 * t) + 1)) (xs ((5 * t) + 2)) true) o)) 3 := hall_nr (Or.inl rfl) rfl hiX.1.2 hiX.2.1.2 hiX.2.2.1.2 hiX.2.2.2.1.2 hiX.2.2.2.2.1.2 hiX.2.2.2.2.2.2.2.1
    refine wa_callH3 F [] (c_L_riskOf hst D TC s.heap ad S S o (xs ((5 * t) + 1)) (xs ((5 * t) + 2)) true t hi) mw_L_riskOf ml_L_220 rfl hnr3 rfl (Nat.le_of_ble_eq_true rfl) ⟨(Nat.le_of_ble_eq_true rfl), (Nat.le_of_ble_eq_true rfl)⟩ ⟨show _ ≤ 601024 by omega, show _ ≤ 7293034 by omega⟩ dL_law_2277 (by intro y hy; simp only [List.mem_cons, List.not_mem_nil, or_false] at hy; rcases hy with rfl | rfl | rfl | rfl | rfl <;> intro z hz <;> first | (cases hz; exact Or.inl rfl) | (cases hz; exact Or.inr (by simp [hm_c, hm_m, hm_o])) | cases hz) rfl ?_
    intro ad1 had1
    replace had1 : ad1 3 = b := had1.trans had
    refine wa_istore (lv' := [(5, .int (kRO S (xs ((5 * t) + 1)) (xs ((5 * t) + 2)))), (4, .int (nI (5 * t))), (3, .ref 1), (2, .ref 2), (1, .ref 0), (0, .ref 3)]) F dL_law_2280 (by decide) rfl ?_
    refine wa_aload_n F dL_law_2282 (i := 2) rfl 3 rfl ?_
    refine wa_aload_n F dL_law_2283 (i := 0) rfl 5 rfl ?_
    refine wa_iload F dL_law_2284 1 rfl ?_
    refine wa_iconst (v := 1) F dL_law_2286 (by decide) ?_
    refine wa_iaddN F dL_law_2287 (a := 5 * t) (b := 1) rfl rfl ?_
    refine wa_sld F hX hbs hbl had1 ((5 * t) + 1) rfl (by omega) hL dL_law_2288 ?_
    refine wa_aload_n F dL_law_2289 (i := 0) rfl 5 rfl ?_
    refine wa_iload F dL_law_2290 1 rfl ?_
    refine wa_iconst (v := 2) F dL_law_2292 (by decide) ?_
    refine wa_iaddN F dL_law_2293 (a := 5 * t) (b := 2) rfl rfl ?_
    refine wa_sld F hX hbs hbl had1 ((5 * t) + 2) rfl (by omega) hL dL_law_2294 ?_
    refine wa_aload_n F dL_law_2295 (i := 0) rfl 5 rfl ?_
    refine wa_iload F dL_law_2296 1 rfl ?_
    refine wa_iconst (v := 3) F dL_law_2298 (by decide) ?_
    refine wa_iaddN F dL_law_2299 (a := 5 * t) (b := 3) rfl rfl ?_
    refine wa_sld F hX hbs hbl had1 ((5 * t) + 3) rfl (by omega) hL dL_law_2300 ?_
    refine wa_if_eq (tgt := 2308) F dL_law_2301 (by decide) (fun z => absurd z c2268) (fun _ => ?_)
    refine wa_iconst (v := 1) F dL_law_2304 (by decide) ?_
    refine wa_goto (tgt := 2309) F dL_law_2305 (by decide) ?_
    refine wa_callV F [] (c_X6_riskOf hst D TC s.heap ad1 (kU (kRO S (xs ((5 * t) + 1)) (xs ((5 * t) + 2))) (fun Y => Y) S) S (kO (kRO S (xs ((5 * t) + 1)) (xs ((5 * t) + 2))) (rRO S (xs ((5 * t) + 1)) (xs ((5 * t) + 2)) true) o) (xs ((5 * t) + 1)) (xs ((5 * t) + 2)) true t hi) mw_X6_riskOf ml_L_222 hm_m rfl rfl (Nat.le_of_ble_eq_true rfl) ⟨(Nat.le_of_ble_eq_true rfl), (Nat.le_of_ble_eq_true rfl)⟩ ⟨show _ ≤ 601024 by omega, show _ ≤ 7293034 by omega⟩ dL_law_2309 PR_ag (fun _ z => z.elim) ?_
    rintro _ _ _ ⟨rfl, rfl, rfl⟩
    rw [mS_id, kU_id, hall_ag (X := S) (Y := sU S 0 0 (kRO S (xs ((5 * t) + 1)) (xs ((5 * t) + 2)))) ag_0]
    refine wa_istore (lv' := [(6, .int (mR (kRO S (xs ((5 * t) + 1)) (xs ((5 * t) + 2))) (rRO S (xs ((5 * t) + 1)) (xs ((5 * t) + 2)) true))), (5, .int (kRO S (xs ((5 * t) + 1)) (xs ((5 * t) + 2)))), (4, .int (nI (5 * t))), (3, .ref 1), (2, .ref 2), (1, .ref 0), (0, .ref 3)]) F dL_law_2312 (by decide) rfl ?_
    refine wa_aload_n F dL_law_2314 (i := 2) rfl 4 rfl ?_
    refine wa_callV F [] (c_X6_thrown hst D TC s.heap ad1 (sU S 0 0 (kRO S (xs ((5 * t) + 1)) (xs ((5 * t) + 2)))) (sU S 0 0 (kRO S (xs ((5 * t) + 1)) (xs ((5 * t) + 2)))) (kO (kRO S (xs ((5 * t) + 1)) (xs ((5 * t) + 2))) (rRO S (xs ((5 * t) + 1)) (xs ((5 * t) + 2)) true) o)) mw_X6_thrown ml_L_126 hm_m rfl rfl (Nat.le_of_ble_eq_true rfl) ⟨(Nat.le_of_ble_eq_true rfl), (Nat.le_of_ble_eq_true rfl)⟩ ⟨show _ ≤ 601024 by omega, show _ ≤ 7293034 by omega⟩ dL_law_2315 PR_ag (fun _ z => z.elim) ?_
    rintro _ _ _ ⟨rfl, rfl, rfl⟩
    rw [show (sU S 0 0 (kRO S (xs ((5 * t) + 1)) (xs ((5 * t) + 2)))) 0 0 = kRO S (xs ((5 * t) + 1)) (xs ((5 * t) + 2)) from by rw [sU_eq, if_pos rfl]]
    refine wa_iload F dL_law_2318 1 rfl ?_
    refine wa_icmp_eq (tgt := 2325) F dL_law_2320 (by decide) (fun _ => ?_) (fun z => absurd rfl z)
    refine wa_iload F dL_law_2325 1 rfl ?_
    refine wa_if_ne (tgt := 2342) F dL_law_2327 (by decide) (fun c2327 => ?_) (fun c2327 => ?_)
    · skip
      refine wa_goto (tgt := 2469) F dL_law_2342 (by decide) ?_
      refine wa_lv (lv' := [(4, .int (nI (5 * t))), (3, .ref 1), (2, .ref 2), (1, .ref 0), (0, .ref 3)]) [2, 3, 4, 5, 6] rfl ?_
      refine wa_widen (k := cells + 4) (n := slots + 39) (by omega) (by omega) ?_
      exact K _ _ _ (INV_0 (INV_up hi)) had1
    · skip
      have eo : (kO (kRO S (xs ((5 * t) + 1)) (xs ((5 * t) + 2))) (rRO S (xs ((5 * t) + 1)) (xs ((5 * t) + 2)) true) o) 0 = (rRO S (xs ((5 * t) + 1)) (xs ((5 * t) + 2)) true).toInt64 := by rw [c2327, kO_0]; exact if_pos rfl
      have er : mR (kRO S (xs ((5 * t) + 1)) (xs ((5 * t) + 2))) (rRO S (xs ((5 * t) + 1)) (xs ((5 * t) + 2)) true) = rRO S (xs ((5 * t) + 1)) (xs ((5 * t) + 2)) true := by rw [c2327, mR_0]
      refine wa_aload_n F dL_law_2330 (i := 3) rfl 3 rfl ?_
      refine wa_iconst (v := 0) F dL_law_2331 (by decide) ?_
      refine wa_lald F 1 rfl (hm_o (TC := TC) (X := (sU S 0 0 (kRO S (xs ((5 * t) + 1)) (xs ((5 * t) + 2))))) (S := (sU S 0 0 (kRO S (xs ((5 * t) + 1)) (xs ((5 * t) + 2))))) (o := (kO (kRO S (xs ((5 * t) + 1)) (xs ((5 * t) + 2))) (rRO S (xs ((5 * t) + 1)) (xs ((5 * t) + 2)) true) o))) 0 rfl (by decide) (by decide) dL_law_2332 ?_
      refine wa_iload F dL_law_2333 0 rfl ?_
      refine wa_i2l F dL_law_2335 rfl ?_
      have eo1 : (kO (kRO S (xs ((5 * t) + 1)) (xs ((5 * t) + 2))) (rRO S (xs ((5 * t) + 1)) (xs ((5 * t) + 2)) true) o) 0 = (mR (kRO S (xs ((5 * t) + 1)) (xs ((5 * t) + 2))) (rRO S (xs ((5 * t) + 1)) (xs ((5 * t) + 2)) true)).toInt64 := by rw [er]; exact eo
      refine wa_lcmp F dL_law_2336 ?_
      refine wa_if_eq (tgt := 2342) F dL_law_2337 (by decide) (fun _ => ?_) (fun z => absurd ((lg_cmp_eq _ _).mpr eo1) z)
      refine wa_goto (tgt := 2469) F dL_law_2342 (by decide) ?_
      refine wa_lv (lv' := [(4, .int (nI (5 * t))), (3, .ref 1), (2, .ref 2), (1, .ref 0), (0, .ref 3)]) [2, 3, 4, 5, 6] rfl ?_
      refine wa_widen (k := cells + 4) (n := slots + 39) (by omega) (by omega) ?_
      exact K _ _ _ (INV_0 (INV_up hi)) had1
set_option maxHeartbeats 4000000 in
set_option maxRecDepth 20000 in
theorem law_30 {p : Program} {l : Launch} {e : Env} {s : State} {m : MethodId} {below : List Frame} {meth : Method} {c : Code} {b L : Nat} {xs : Nat → Int32} {D : va_G} {TC : Nat → ClassId} {Q : State → Prop} {ret : Option FieldType} {nm : String} {tb : List ExceptionTableEntry} (F : FX D (tysOf TC) s.heap p l s m #[.ref b] meth c RL cL_law 7 ret nm tb) (hst : l.stackTraces = false) (hX : va_X b L xs s s.heap) (hbs : b < s.heap.size) (hbl : b < s.heap.size) (hL : L < 2 ^ 31)
    (ad : Nat → Nat) (had : ad 3 = b) (S : St) (o : Nat → Int64) (t : Nat) (hi : INV t S) (ht : t < 512) (h5 : 5 * t + 5 ≤ L) (cells slots : Nat) (hcl : cells + 4 ≤ 601024) (hsl : slots + 39 ≤ 7293034)
    (K : ∀ (S1 : St) (o1 : Nat → Int64) (ad1 : Nat → Nat), INV (t + 1) S1 → ad1 3 = b → WA D s.heap p l e room_1 s m #[.ref b] below meth c 7 Q ad1 (hall TC S1 S1 o1) (cells + 4) (slots + 39) 2469 [(4, .int (nI (5 * t))), (3, .ref 1), (2, .ref 2), (1, .ref 0), (0, .ref 3)] []) : WA D s.heap p l e room_1 s m #[.ref b] below meth c 7 Q ad (hall TC S S o) cells slots 2345 [(4, .int (nI (5 * t))), (3, .ref 1), (2, .ref 2), (1, .ref 0), (0, .ref 3)] [] := by
  refine wa_aload_n F dL_law_2345 (i := 1) rfl 3 rfl ?_
  refine wa_aload_n F dL_law_2346 (i := 0) rfl 4 rfl ?_
  refine wa_iload F dL_law_2347 0 rfl ?_
  refine wa_iconst (v := 1) F dL_law_2349 (by decide) ?_
  refine wa_iaddN F dL_law_2350 (a := 5 * t) (b := 1) rfl rfl ?_
  refine wa_sld F hX hbs hbl had ((5 * t) + 1) rfl (by omega) hL dL_law_2351 ?_
  refine wa_aload_n F dL_law_2352 (i := 0) rfl 4 rfl ?_
  refine wa_iload F dL_law_2353 0 rfl ?_
  refine wa_iconst (v := 2) F dL_law_2355 (by decide) ?_
  refine wa_iaddN F dL_law_2356 (a := 5 * t) (b := 2) rfl rfl ?_
  refine wa_sld F hX hbs hbl had ((5 * t) + 2) rfl (by omega) hL dL_law_2357 ?_
  refine wa_aload_n F dL_law_2358 (i := 3) rfl 1 rfl ?_
  have hiX : INV (t + 1) (kU (kBO S (xs ((5 * t) + 1)) (xs ((5 * t) + 2))) (fun Y => Y) S) := by rw [kU_id]; exact INV_up hi
  have hnr3 : noRef (hall TC (kU (kBO S (xs ((5 * t) + 1)) (xs ((5 * t) + 2))) (fun Y => Y) S) S (kO (kBO S (xs ((5 * t) + 1)) (xs ((5 * t) + 2))) (rBO S (xs ((5 * t) + 1)) (xs ((5 * t) + 2))) o)) 3 := hall_nr (Or.inl rfl) rfl hiX.1.2 hiX.2.1.2 hiX.2.2.1.2 hiX.2.2.2.1.2 hiX.2.2.2.2.1.2 hiX.2.2.2.2.2.2.2.1
  refine wa_callH3 F [] (c_L_batchOf hst D TC s.heap ad S S o (xs ((5 * t) + 1)) (xs ((5 * t) + 2)) t hi (by omega)) mw_L_batchOf ml_L_223 rfl hnr3 rfl (Nat.le_of_ble_eq_true rfl) ⟨(Nat.le_of_ble_eq_true rfl), (Nat.le_of_ble_eq_true rfl)⟩ ⟨show _ ≤ 601024 by omega, show _ ≤ 7293034 by omega⟩ dL_law_2359 (by intro y hy; simp only [List.mem_cons, List.not_mem_nil, or_false] at hy; rcases hy with rfl | rfl | rfl | rfl | rfl <;> intro z hz <;> first | (cases hz; exact Or.inl rfl) | (cases hz; exact Or.inr (by simp [hm_c, hm_m, hm_o])) | cases hz) rfl ?_
  intro ad1 had1
  replace had1 : ad1 3 = b := had1.trans had
  refine wa_istore (lv' := [(5, .int (kBO S (xs ((5 * t) + 1)) (xs ((5 * t) + 2)))), (4, .int (nI (5 * t))), (3, .ref 1), (2, .ref 2), (1, .ref 0), (0, .ref 3)]) F dL_law_2362 (by decide) rfl ?_
  refine wa_aload_n F dL_law_2364 (i := 2) rfl 3 rfl ?_
  refine wa_aload_n F dL_law_2365 (i := 0) rfl 5 rfl ?_
  refine wa_iload F dL_law_2366 1 rfl ?_
  refine wa_iconst (v := 1) F dL_law_2368 (by decide) ?_
  refine wa_iaddN F dL_law_2369 (a := 5 * t) (b := 1) rfl rfl ?_
  refine wa_sld F hX hbs hbl had1 ((5 * t) + 1) rfl (by omega) hL dL_law_2370 ?_
  refine wa_aload_n F dL_law_2371 (i := 0) rfl 5 rfl ?_
  refine wa_iload F dL_law_2372 1 rfl ?_
  refine wa_iconst (v := 2) F dL_law_2374 (by decide) ?_
  refine wa_iaddN F dL_law_2375 (a := 5 * t) (b := 2) rfl rfl ?_
  refine wa_sld F hX hbs hbl had1 ((5 * t) + 2) rfl (by omega) hL dL_law_2376 ?_
  refine wa_callV F [] (c_X6_batchOf hst D TC s.heap ad1 (kU (kBO S (xs ((5 * t) + 1)) (xs ((5 * t) + 2))) (fun Y => Y) S) S (kO (kBO S (xs ((5 * t) + 1)) (xs ((5 * t) + 2))) (rBO S (xs ((5 * t) + 1)) (xs ((5 * t) + 2))) o) (xs ((5 * t) + 1)) (xs ((5 * t) + 2)) t hi) mw_X6_batchOf ml_L_225 hm_m rfl rfl (Nat.le_of_ble_eq_true rfl) ⟨(Nat.le_of_ble_eq_true rfl), (Nat.le_of_ble_eq_true rfl)⟩ ⟨show _ ≤ 601024 by omega, show _ ≤ 7293034 by omega⟩ dL_law_2377 PR_ag (fun _ z => z.elim) ?_
  rintro _ _ _ ⟨rfl, rfl, rfl⟩
  rw [mS_id, kU_id, hall_ag (X := S) (Y := sU S 0 0 (kBO S (xs ((5 * t) + 1)) (xs ((5 * t) + 2)))) ag_0]
  refine wa_istore (lv' := [(6, .int (mR (kBO S (xs ((5 * t) + 1)) (xs ((5 * t) + 2))) (rBO S (xs ((5 * t) + 1)) (xs ((5 * t) + 2))))), (5, .int (kBO S (xs ((5 * t) + 1)) (xs ((5 * t) + 2)))), (4, .int (nI (5 * t))), (3, .ref 1), (2, .ref 2), (1, .ref 0), (0, .ref 3)]) F dL_law_2380 (by decide) rfl ?_
  refine wa_aload_n F dL_law_2382 (i := 2) rfl 4 rfl ?_
  refine wa_callV F [] (c_X6_thrown hst D TC s.heap ad1 (sU S 0 0 (kBO S (xs ((5 * t) + 1)) (xs ((5 * t) + 2)))) (sU S 0 0 (kBO S (xs ((5 * t) + 1)) (xs ((5 * t) + 2)))) (kO (kBO S (xs ((5 * t) + 1)) (xs ((5 * t) + 2))) (rBO S (xs ((5 * t) + 1)) (xs ((5 * t) + 2))) o)) mw_X6_thrown ml_L_126 hm_m rfl rfl (Nat.le_of_ble_eq_true rfl) ⟨(Nat.le_of_ble_eq_true rfl), (Nat.le_of_ble_eq_true rfl)⟩ ⟨show _ ≤ 601024 by omega, show _ ≤ 7293034 by omega⟩ dL_law_2383 PR_ag (fun _ z => z.elim) ?_
  rintro _ _ _ ⟨rfl, rfl, rfl⟩
  rw [show (sU S 0 0 (kBO S (xs ((5 * t) + 1)) (xs ((5 * t) + 2)))) 0 0 = kBO S (xs ((5 * t) + 1)) (xs ((5 * t) + 2)) from by rw [sU_eq, if_pos rfl]]
  refine wa_iload F dL_law_2386 1 rfl ?_
  refine wa_icmp_eq (tgt := 2393) F dL_law_2388 (by decide) (fun _ => ?_) (fun z => absurd rfl z)
  refine wa_iload F dL_law_2393 1 rfl ?_
  refine wa_if_ne (tgt := 2410) F dL_law_2395 (by decide) (fun c2395 => ?_) (fun c2395 => ?_)
  · skip
    refine wa_goto (tgt := 2469) F dL_law_2410 (by decide) ?_
    refine wa_lv (lv' := [(4, .int (nI (5 * t))), (3, .ref 1), (2, .ref 2), (1, .ref 0), (0, .ref 3)]) [2, 3, 4, 5, 6] rfl ?_
    refine wa_widen (k := cells + 4) (n := slots + 39) (by omega) (by omega) ?_
    exact K _ _ _ (INV_0 (INV_up hi)) had1
  · skip
    have eo : (kO (kBO S (xs ((5 * t) + 1)) (xs ((5 * t) + 2))) (rBO S (xs ((5 * t) + 1)) (xs ((5 * t) + 2))) o) 0 = (rBO S (xs ((5 * t) + 1)) (xs ((5 * t) + 2))).toInt64 := by rw [c2395, kO_0]; exact if_pos rfl
    have er : mR (kBO S (xs ((5 * t) + 1)) (xs ((5 * t) + 2))) (rBO S (xs ((5 * t) + 1)) (xs ((5 * t) + 2))) = rBO S (xs ((5 * t) + 1)) (xs ((5 * t) + 2)) := by rw [c2395, mR_0]
    refine wa_aload_n F dL_law_2398 (i := 3) rfl 3 rfl ?_
    refine wa_iconst (v := 0) F dL_law_2399 (by decide) ?_
    refine wa_lald F 1 rfl (hm_o (TC := TC) (X := (sU S 0 0 (kBO S (xs ((5 * t) + 1)) (xs ((5 * t) + 2))))) (S := (sU S 0 0 (kBO S (xs ((5 * t) + 1)) (xs ((5 * t) + 2))))) (o := (kO (kBO S (xs ((5 * t) + 1)) (xs ((5 * t) + 2))) (rBO S (xs ((5 * t) + 1)) (xs ((5 * t) + 2))) o))) 0 rfl (by decide) (by decide) dL_law_2400 ?_
    refine wa_iload F dL_law_2401 0 rfl ?_
    refine wa_i2l F dL_law_2403 rfl ?_
    have eo1 : (kO (kBO S (xs ((5 * t) + 1)) (xs ((5 * t) + 2))) (rBO S (xs ((5 * t) + 1)) (xs ((5 * t) + 2))) o) 0 = (mR (kBO S (xs ((5 * t) + 1)) (xs ((5 * t) + 2))) (rBO S (xs ((5 * t) + 1)) (xs ((5 * t) + 2)))).toInt64 := by rw [er]; exact eo
    refine wa_lcmp F dL_law_2404 ?_
    refine wa_if_eq (tgt := 2410) F dL_law_2405 (by decide) (fun _ => ?_) (fun z => absurd ((lg_cmp_eq _ _).mpr eo1) z)
    refine wa_goto (tgt := 2469) F dL_law_2410 (by decide) ?_
    refine wa_lv (lv' := [(4, .int (nI (5 * t))), (3, .ref 1), (2, .ref 2), (1, .ref 0), (0, .ref 3)]) [2, 3, 4, 5, 6] rfl ?_
    refine wa_widen (k := cells + 4) (n := slots + 39) (by omega) (by omega) ?_
    exact K _ _ _ (INV_0 (INV_up hi)) had1
set_option maxHeartbeats 4000000 in
set_option maxRecDepth 20000 in
theorem law_31 {p : Program} {l : Launch} {e : Env} {s : State} {m : MethodId} {below : List Frame} {meth : Method} {c : Code} {b L : Nat} {xs : Nat → Int32} {D : va_G} {TC : Nat → ClassId} {Q : State → Prop} {ret : Option FieldType} {nm : String} {tb : List ExceptionTableEntry} (F : FX D (tysOf TC) s.heap p l s m #[.ref b] meth c RL cL_law 7 ret nm tb) (hst : l.stackTraces = false) (hX : va_X b L xs s s.heap) (hbs : b < s.heap.size) (hbl : b < s.heap.size) (hL : L < 2 ^ 31)
    (ad : Nat → Nat) (had : ad 3 = b) (S : St) (o : Nat → Int64) (t : Nat) (hi : INV t S) (ht : t < 512) (h5 : 5 * t + 5 ≤ L) (cells slots : Nat) (hcl : cells + 4 ≤ 601024) (hsl : slots + 39 ≤ 7293034)
    (K : ∀ (S1 : St) (o1 : Nat → Int64) (ad1 : Nat → Nat), INV (t + 1) S1 → ad1 3 = b → WA D s.heap p l e room_1 s m #[.ref b] below meth c 7 Q ad1 (hall TC S1 S1 o1) (cells + 4) (slots + 39) 2469 [(4, .int (nI (5 * t))), (3, .ref 1), (2, .ref 2), (1, .ref 0), (0, .ref 3)] []) : WA D s.heap p l e room_1 s m #[.ref b] below meth c 7 Q ad (hall TC S S o) cells slots 2413 [(4, .int (nI (5 * t))), (3, .ref 1), (2, .ref 2), (1, .ref 0), (0, .ref 3)] [] := by
  refine wa_aload_n F dL_law_2413 (i := 1) rfl 3 rfl ?_
  refine wa_aload_n F dL_law_2414 (i := 0) rfl 4 rfl ?_
  refine wa_iload F dL_law_2415 0 rfl ?_
  refine wa_iconst (v := 1) F dL_law_2417 (by decide) ?_
  refine wa_iaddN F dL_law_2418 (a := 5 * t) (b := 1) rfl rfl ?_
  refine wa_sld F hX hbs hbl had ((5 * t) + 1) rfl (by omega) hL dL_law_2419 ?_
  refine wa_aload_n F dL_law_2420 (i := 3) rfl 1 rfl ?_
  have hiX : INV (t + 1) (kU (kWn S (xs ((5 * t) + 1))) (fun Y => Y) S) := by rw [kU_id]; exact INV_up hi
  have hnr3 : noRef (hall TC (kU (kWn S (xs ((5 * t) + 1))) (fun Y => Y) S) S (kO (kWn S (xs ((5 * t) + 1))) (rWn S (xs ((5 * t) + 1))) o)) 3 := hall_nr (Or.inl rfl) rfl hiX.1.2 hiX.2.1.2 hiX.2.2.1.2 hiX.2.2.2.1.2 hiX.2.2.2.2.1.2 hiX.2.2.2.2.2.2.2.1
  refine wa_callH3 F [] (c_L_wantingAnew hst D TC s.heap ad S S o (xs ((5 * t) + 1)) t hi) mw_L_wantingAnew ml_L_226 rfl hnr3 rfl (Nat.le_of_ble_eq_true rfl) ⟨(Nat.le_of_ble_eq_true rfl), (Nat.le_of_ble_eq_true rfl)⟩ ⟨show _ ≤ 601024 by omega, show _ ≤ 7293034 by omega⟩ dL_law_2421 (by intro y hy; simp only [List.mem_cons, List.not_mem_nil, or_false] at hy; rcases hy with rfl | rfl | rfl | rfl | rfl <;> intro z hz <;> first | (cases hz; exact Or.inl rfl) | (cases hz; exact Or.inr (by simp [hm_c, hm_m, hm_o])) | cases hz) rfl ?_
  intro ad1 had1
  replace had1 : ad1 3 = b := had1.trans had
  refine wa_istore (lv' := [(5, .int (kWn S (xs ((5 * t) + 1)))), (4, .int (nI (5 * t))), (3, .ref 1), (2, .ref 2), (1, .ref 0), (0, .ref 3)]) F dL_law_2424 (by decide) rfl ?_
  refine wa_aload_n F dL_law_2426 (i := 2) rfl 3 rfl ?_
  refine wa_aload_n F dL_law_2427 (i := 0) rfl 5 rfl ?_
  refine wa_iload F dL_law_2428 1 rfl ?_
  refine wa_iconst (v := 1) F dL_law_2430 (by decide) ?_
  refine wa_iaddN F dL_law_2431 (a := 5 * t) (b := 1) rfl rfl ?_
  refine wa_sld F hX hbs hbl had1 ((5 * t) + 1) rfl (by omega) hL dL_law_2432 ?_
  refine wa_callV F [] (c_X6_wantingAnew hst D TC s.heap ad1 (kU (kWn S (xs ((5 * t) + 1))) (fun Y => Y) S) S (kO (kWn S (xs ((5 * t) + 1))) (rWn S (xs ((5 * t) + 1))) o) (xs ((5 * t) + 1)) t hi) mw_X6_wantingAnew ml_L_228 hm_m rfl rfl (Nat.le_of_ble_eq_true rfl) ⟨(Nat.le_of_ble_eq_true rfl), (Nat.le_of_ble_eq_true rfl)⟩ ⟨show _ ≤ 601024 by omega, show _ ≤ 7293034 by omega⟩ dL_law_2433 PR_ag (fun _ z => z.elim) ?_
  rintro _ _ _ ⟨rfl, rfl, rfl⟩
  rw [mS_id, kU_id, hall_ag (X := S) (Y := sU S 0 0 (kWn S (xs ((5 * t) + 1)))) ag_0]
  refine wa_istore (lv' := [(6, .int (mR (kWn S (xs ((5 * t) + 1))) (rWn S (xs ((5 * t) + 1))))), (5, .int (kWn S (xs ((5 * t) + 1)))), (4, .int (nI (5 * t))), (3, .ref 1), (2, .ref 2), (1, .ref 0), (0, .ref 3)]) F dL_law_2436 (by decide) rfl ?_
  refine wa_aload_n F dL_law_2438 (i := 2) rfl 4 rfl ?_
  refine wa_callV F [] (c_X6_thrown hst D TC s.heap ad1 (sU S 0 0 (kWn S (xs ((5 * t) + 1)))) (sU S 0 0 (kWn S (xs ((5 * t) + 1)))) (kO (kWn S (xs ((5 * t) + 1))) (rWn S (xs ((5 * t) + 1))) o)) mw_X6_thrown ml_L_126 hm_m rfl rfl (Nat.le_of_ble_eq_true rfl) ⟨(Nat.le_of_ble_eq_true rfl), (Nat.le_of_ble_eq_true rfl)⟩ ⟨show _ ≤ 601024 by omega, show _ ≤ 7293034 by omega⟩ dL_law_2439 PR_ag (fun _ z => z.elim) ?_
  rintro _ _ _ ⟨rfl, rfl, rfl⟩
  rw [show (sU S 0 0 (kWn S (xs ((5 * t) + 1)))) 0 0 = kWn S (xs ((5 * t) + 1)) from by rw [sU_eq, if_pos rfl]]
  refine wa_iload F dL_law_2442 1 rfl ?_
  refine wa_icmp_eq (tgt := 2449) F dL_law_2444 (by decide) (fun _ => ?_) (fun z => absurd rfl z)
  refine wa_iload F dL_law_2449 1 rfl ?_
  refine wa_if_ne (tgt := 2466) F dL_law_2451 (by decide) (fun c2451 => ?_) (fun c2451 => ?_)
  · skip
    refine wa_goto (tgt := 2469) F dL_law_2466 (by decide) ?_
    refine wa_lv (lv' := [(4, .int (nI (5 * t))), (3, .ref 1), (2, .ref 2), (1, .ref 0), (0, .ref 3)]) [2, 3, 4, 5, 6] rfl ?_
    refine wa_widen (k := cells + 4) (n := slots + 39) (by omega) (by omega) ?_
    exact K _ _ _ (INV_0 (INV_up hi)) had1
  · skip
    have eo : (kO (kWn S (xs ((5 * t) + 1))) (rWn S (xs ((5 * t) + 1))) o) 0 = (rWn S (xs ((5 * t) + 1))).toInt64 := by rw [c2451, kO_0]; exact if_pos rfl
    have er : mR (kWn S (xs ((5 * t) + 1))) (rWn S (xs ((5 * t) + 1))) = rWn S (xs ((5 * t) + 1)) := by rw [c2451, mR_0]
    refine wa_aload_n F dL_law_2454 (i := 3) rfl 3 rfl ?_
    refine wa_iconst (v := 0) F dL_law_2455 (by decide) ?_
    refine wa_lald F 1 rfl (hm_o (TC := TC) (X := (sU S 0 0 (kWn S (xs ((5 * t) + 1))))) (S := (sU S 0 0 (kWn S (xs ((5 * t) + 1))))) (o := (kO (kWn S (xs ((5 * t) + 1))) (rWn S (xs ((5 * t) + 1))) o))) 0 rfl (by decide) (by decide) dL_law_2456 ?_
    refine wa_iload F dL_law_2457 0 rfl ?_
    refine wa_i2l F dL_law_2459 rfl ?_
    have eo1 : (kO (kWn S (xs ((5 * t) + 1))) (rWn S (xs ((5 * t) + 1))) o) 0 = (mR (kWn S (xs ((5 * t) + 1))) (rWn S (xs ((5 * t) + 1)))).toInt64 := by rw [er]; exact eo
    refine wa_lcmp F dL_law_2460 ?_
    refine wa_if_eq (tgt := 2466) F dL_law_2461 (by decide) (fun _ => ?_) (fun z => absurd ((lg_cmp_eq _ _).mpr eo1) z)
    refine wa_goto (tgt := 2469) F dL_law_2466 (by decide) ?_
    refine wa_lv (lv' := [(4, .int (nI (5 * t))), (3, .ref 1), (2, .ref 2), (1, .ref 0), (0, .ref 3)]) [2, 3, 4, 5, 6] rfl ?_
    refine wa_widen (k := cells + 4) (n := slots + 39) (by omega) (by omega) ?_
    exact K _ _ _ (INV_0 (INV_up hi)) had1
