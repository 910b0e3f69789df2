/-! each call keeps what holds of the state -/
theorem sIn_tn {v x : Int32} {n : Nat} (hx : x = nI n) (hn : n ≤ 1000) (h : sIn v 0 (x - 1) = true) : tn v < n := by
  obtain ⟨j, hj, rfl⟩ := sIn_nat hx hn h
  show (nI j).toNatClampNeg < n
  rw [tn_nI (by omega)]; exact hj
theorem sIn_le {v : Int32} {a b : Int32} {i j : Int} (h : sIn v a b = true) (ha : a.toInt = i) (hb : b.toInt = j) : i ≤ v.toInt ∧ v.toInt ≤ j := by
  simp only [sIn, Bool.and_eq_true, decide_eq_true_eq, le_toInt] at h
  rw [ha, hb] at h; exact h
section IV
variable {n : Nat} {S : St}
theorem cn2 (h : INV n S) : CN S 2 6 := h.1
theorem cn9 (h : INV n S) : CN S 9 12 := h.2.1
theorem cn13 (h : INV n S) : CN S 13 10 := h.2.2.1
theorem cn25 (h : INV n S) : CN S 25 5 := h.2.2.2.1
theorem cn28 (h : INV n S) : CN S 28 40 := h.2.2.2.2.1
theorem cn_full {f N : Nat} {w : Int32} (h : CN S f N) (hw : w = nI N) (hk : ¬ S f 0 = w) : cnt S f < N := by
  have := h.2
  refine Nat.lt_of_le_of_ne this fun z => hk ?_
  rw [h.1, z, hw]
theorem iv_act {a b q d : Int32} (h : INV n S) (hlt : cnt S 2 < 6) (hq : 0 ≤ q.toInt ∧ q.toInt ≤ 255) : INV (n + 1) (uAct a b q d S) := by
  have a1 : INV n (sU (sU (sU (sU S 3 (cnt S 2) a) 4 (cnt S 2) b) 5 (cnt S 2) q) 6 (cnt S 2) d) := INV_free (by decide) (INV_f5 (INV_free (by decide) (INV_free (by decide) h)) (fun _ => hq))
  have e : cnt (sU (sU (sU (sU S 3 (cnt S 2) a) 4 (cnt S 2) b) 5 (cnt S 2) q) 6 (cnt S 2) d) 2 = cnt S 2 := ((cnt_u (by decide)).trans ((cnt_u (by decide)).trans ((cnt_u (by decide)).trans (cnt_u (by decide))))).symm
  exact INV_up (INV_c2 a1 (by rw [e]; exact hlt) (by rw [e]; simpa [sU, upd] using hq))
theorem iv_special {a b : Int32} (h : INV n S) (ha : tn a < cnt S 2) (hb : tn b < cnt S 2) : INV (n + 1) (uSpc a b S) := INV_up (INV_f7 h ha hb)
theorem iv_standard {a b : Int32} (h : INV n S) (hlt : cnt S 9 < 12) : INV (n + 1) (uStd a b S) := by
  have a1 : INV n (sU (sU (sU S 10 (cnt S 9) a) 11 (cnt S 9) b) 12 (cnt S 9) 1000000) := INV_f12 (INV_free (by decide) (INV_free (by decide) h)) (fun _ => Or.inl rfl)
  have e : cnt (sU (sU (sU S 10 (cnt S 9) a) 11 (cnt S 9) b) 12 (cnt S 9) 1000000) 9 = cnt S 9 := ((cnt_u (by decide)).trans ((cnt_u (by decide)).trans (cnt_u (by decide)))).symm
  exact INV_up (INV_c9 a1 (by rw [e]; exact hlt) (by rw [e]; simp [sU, upd]))
theorem iv_withdraw {v b : Int32} (h : INV n S) (hb : sIn b (S 1 0) 5000 = true) : INV (n + 1) (uWd v b S) := by
  have hd := h.2.2.2.2.2.2.2.2.2.2.1
  have := sIn_le hb rfl (show (5000 : Int32).toInt = 5000 from rfl)
  exact INV_up (INV_f12 h (fun _ => Or.inr ⟨by omega, by omega⟩))
theorem iv_restrict {v b : Int32} (h : INV n S) : INV (n + 1) (uRs v b S) := INV_up (INV_free (by decide) h)
theorem iv_product {b : Int32} (h : INV n S) (hlt : cnt S 13 < 10) : INV (n + 1) (uPr b S) := by
  have irr : ∀ {T : St}, cnt T 13 = cnt S 13 → ¬ cnt S 13 < cnt T 13 := fun e => by rw [e]; exact Nat.lt_irrefl _
  have a1 : INV n (sU S 14 (cnt S 13) b) := INV_free (by decide) h
  have a2 : INV n (sU (sU S 14 (cnt S 13) b) 20 (cnt S 13) (-1)) := INV_f20 a1 (fun z => absurd z (irr (cnt_u (by decide)).symm))
  have a3 : INV n (sU (sU (sU S 14 (cnt S 13) b) 20 (cnt S 13) (-1)) 21 (cnt S 13) (-1)) := INV_f21 a2 (fun _ _ => rfl)
  have a4 : INV n (sU (sU (sU (sU (sU S 14 (cnt S 13) b) 20 (cnt S 13) (-1)) 21 (cnt S 13) (-1)) 22 (cnt S 13) (-1)) 23 (cnt S 13) (-1)) := INV_free (by decide) (INV_free (by decide) a3)
  have e : cnt (sU (sU (sU (sU (sU S 14 (cnt S 13) b) 20 (cnt S 13) (-1)) 21 (cnt S 13) (-1)) 22 (cnt S 13) (-1)) 23 (cnt S 13) (-1)) 13 = cnt S 13 := ((cnt_u (by decide)).trans ((cnt_u (by decide)).trans ((cnt_u (by decide)).trans ((cnt_u (by decide)).trans (cnt_u (by decide)))))).symm
  exact INV_up (INV_c13 a4 (by rw [e]; exact hlt) (by rw [e]; simp [sU, upd]))
theorem iv_change {v b : Int32} (h : INV n S) (hv : tn v < cnt S 13) : INV (n + 1) (uCh v b S) := by
  unfold uCh
  by_cases e : S 14 (tn v) = b
  · rw [if_pos e]; exact INV_up h
  · rw [if_neg e]; exact INV_up (INV_next (INV_free (by decide) h) (lt_u hv))
theorem iv_risk {v z q d : Int32} (h : INV n S) (hv : tn v < cnt S 13) (hz : tn z < 8) (hq : 0 ≤ q.toInt ∧ q.toInt ≤ 9) (hd : 0 ≤ d.toInt ∧ d.toInt ≤ 9) : INV (n + 1) (uRk v z q d S) := by
  unfold uRk
  by_cases e : q ≤ S 16 (8 * tn v + tn z) ∧ d ≤ S 17 (8 * tn v + tn z)
  · rw [if_pos e]; exact INV_up (INV_f17 (INV_f16 h hv hz hq) (lt_u hv) hz hd)
  · rw [if_neg e]; exact INV_up (INV_f17 (INV_f16 (INV_next h hv) (lt_n hv) hz hq) (lt_u (lt_n hv)) hz hd)
theorem iv_follow {v t b : Int32} (h : INV n S) (hv : tn v < cnt S 13) (ht : tn t < cnt S 9) : INV (n + 1) (uFo v t b S) := INV_up (INV_f18 h hv (Nat.lt_of_lt_of_le ht (cn9 h).2))
theorem iv_prove {v b : Int32} (h : INV n S) (hv : tn v < cnt S 13) : INV (n + 1) (uPv v b S) := INV_up (INV_f19 h hv)
theorem iv_declare {v : Int32} (h : INV n S) : INV (n + 1) (uDc v S) := INV_up (INV_free (by decide) h)
theorem iv_body {b : Int32} (h : INV n S) (hlt : cnt S 25 < 5) : INV (n + 1) (uBo b S) := by
  have a1 : INV n (sU (sU S 26 (cnt S 25) b) 27 (cnt S 25) (-1)) := INV_free (by decide) (INV_free (by decide) h)
  have e : cnt (sU (sU S 26 (cnt S 25) b) 27 (cnt S 25) (-1)) 25 = cnt S 25 := ((cnt_u (by decide)).trans (cnt_u (by decide))).symm
  exact INV_up (INV_c25 a1 (by rw [e]; exact hlt))
theorem iv_suspend {v : Int32} {q : Bool} (h : INV n S) : INV (n + 1) (uSu v q S) := INV_up (INV_free (by decide) h)
theorem iv_certify {b v d : Int32} (h : INV n S) (hb : sIn b 0 (S 25 0 - 1) = true) : INV (n + 1) (uCe b v d S) := by
  have h5 := (cn25 h).2
  obtain ⟨j, hj, rfl⟩ := sIn_nat (cn25 h).1 (by omega) hb
  have e : (nI j).toNatClampNeg = j := tn_nI (by omega)
  have nz : ¬ nI j = -1 := fun z => by have := nI_toInt (n := j) (by omega); rw [z, show (-1 : Int32).toInt = -1 from rfl] at this; omega
  have a1 : INV n (sU S 20 (tn v) (nI j)) := INV_f20 h (fun _ => Or.inr ⟨nz, by rw [e], by rw [e]; exact hj⟩)
  exact INV_up (INV_f21 a1 (fun _ z => absurd (by rw [sU_eq, if_pos rfl] at z; exact z) nz))
theorem iv_transfer {v b : Int32} (h : INV n S) (hb : sIn b 0 (S 25 0 - 1) = true) : INV (n + 1) (uTr v b S) := by
  have h5 := (cn25 h).2
  obtain ⟨j, hj, rfl⟩ := sIn_nat (cn25 h).1 (by omega) hb
  have e : (nI j).toNatClampNeg = j := tn_nI (by omega)
  have nz : ¬ nI j = -1 := fun z => by have := nI_toInt (n := j) (by omega); rw [z, show (-1 : Int32).toInt = -1 from rfl] at this; omega
  exact INV_up (INV_f20 h (fun _ => Or.inr ⟨nz, by rw [e], by rw [e]; exact hj⟩))
theorem iv_visit {v : Int32} {q : Bool} (h : INV n S) (hv : tn v < cnt S 13) : INV (n + 1) (uVi v q S) := by
  unfold uVi
  by_cases e : eVi S v q = true
  · rw [e, if_pos rfl, if_pos rfl, sU_comm (f := 20) (g := 21) (by decide)]
    exact INV_up (INV_f20 (INV_f21 (INV_free (by decide) h) (fun _ _ => rfl)) (fun _ => Or.inl ⟨rfl, by rw [sU_eq, if_pos rfl]⟩))
  · rw [if_neg e, if_neg e]
    have a0 : INV n (sU S 22 (tn v) (if q = true then S 1 0 else S 22 (tn v))) := INV_free (by decide) h
    have e1 : ∀ T : St, T 20 = S 20 → T 21 = S 21 → sU (sU T 20 (tn v) (S 20 (tn v))) 21 (tn v) (S 21 (tn v)) = T := fun T z1 z2 => by
      rw [sU_self (S := T) (f := 20) (by rw [z1]), sU_self (S := T) (f := 21) (by rw [z2])]
    rw [e1 _ (sU_ne (by decide)) (sU_ne (by decide))]
    exact INV_up a0
theorem iv_arr {o : Nat} {m w : Int32} (h : INV n S) (hlt : cnt S 28 < 40) (hm : 1 ≤ m.toInt ∧ m.toInt ≤ 10000) : INV (n + 1) (uArr o m w S) := by
  have a1 : INV n (sU (sU (sU (sU (sU (sU S 29 (cnt S 28) (nI o)) 30 (cnt S 28) m) 31 (cnt S 28) (S 1 0)) 32 (cnt S 28) (S 15 o)) 33 (cnt S 28) w) 35 (cnt S 28) (-1)) :=
    INV_free (by decide) (INV_free (by decide) (INV_free (by decide) (INV_free (by decide) (INV_f30 (INV_free (by decide) h) (fun _ => hm)))))
  have e : cnt (sU (sU (sU (sU (sU (sU S 29 (cnt S 28) (nI o)) 30 (cnt S 28) m) 31 (cnt S 28) (S 1 0)) 32 (cnt S 28) (S 15 o)) 33 (cnt S 28) w) 35 (cnt S 28) (-1)) 28 = cnt S 28 := ((cnt_u (by decide)).trans ((cnt_u (by decide)).trans ((cnt_u (by decide)).trans ((cnt_u (by decide)).trans ((cnt_u (by decide)).trans (cnt_u (by decide))))))).symm
  exact INV_up (INV_c28 a1 (by rw [e]; exact hlt) (by rw [e]; simpa [sU, upd] using hm))
theorem iv_sample {v m t d : Int32} (h : INV n S) : INV (n + 1) (uSa v m t d S) := INV_up (INV_free (by decide) h)
theorem iv_event {v g b : Int32} (h : INV n S) (hv : tn v < cnt S 28) (hb : 1 ≤ b.toInt ∧ b.toInt ≤ 1000) (hn : n < 512) : INV (n + 1) (uEv v g b S) := by
  have z := h.2.2.2.2.2.2.2.2.2.1 (tn v) hv
  have e : (S 37 (tn v) + b).toInt = (S 37 (tn v)).toInt + b.toInt := Kit.i32_add (by omega) (by omega)
  exact INV_f37 (INV_f36 (INV_up h) hv) (lt_u hv) ⟨by rw [e]; omega, by rw [e]; omega⟩
theorem iv_recall {v a b : Int32} (h : INV n S) (ha : sIn a 0 (S 28 0 - 1) = true) (hb : sIn b 0 (S 28 0 - 1) = true) : INV (n + 1) (uRc v a b S) := by
  have h1 := sIn_tn (cn28 h).1 (by have := (cn28 h).2; omega) ha
  have h2 := sIn_tn (cn28 h).1 (by have := (cn28 h).2; omega) hb
  exact INV_up (INV_rc h _ (fun j hj => by omega))
theorem iv_ban {w v : Int32} {q : Bool} (h : INV n S) (hw : sIn w 0 4 = true) (hv : tn v < cnt S 13) : INV (n + 1) (uBa w v q S) := by
  have hx := h.2.2.2.2.2.2.2.2.2.2.2.2.2.2.2.2.1 (tn v) hv
  have w2 := sIn_le hw (show (0 : Int32).toInt = 0 from rfl) (show (4 : Int32).toInt = 4 from rfl)
  have z := nBa_in (x := S 24 (tn v)) (w := w) hx (by rw [le_toInt, Int32.toInt_zero]; omega) (by rw [le_toInt, show (5 : Int32).toInt = 5 from rfl]; omega)
  unfold uBa
  refine INV_up (INV_f24 h hv ?_)
  unfold nBa
  cases q
  · exact z.2
  · exact z.1
theorem iv_pass {d : Int32} (h : INV n S) (hd : sIn d 1 500 = true) (hs : S 1 0 + d ≤ 5000) : INV (n + 1) (uPa d S) := by
  have hday := h.2.2.2.2.2.2.2.2.2.2.1
  have z := sIn_le hd (show (1 : Int32).toInt = 1 from rfl) (show (500 : Int32).toInt = 500 from rfl)
  have e : (S 1 0 + d).toInt = (S 1 0).toInt + d.toInt := Kit.i32_add (by omega) (by omega)
  rw [le_toInt, show (5000 : Int32).toInt = 5000 from rfl] at hs
  exact INV_up (INV_f1 h ⟨by rw [e]; omega, hs⟩)
end IV
