/-! what the tables say at the law's start -/
theorem st_prim {s : State} {args : Array Value} {ty : FieldType} (h : (Cond.arrayClass ty).before args s = true) (hp : ∀ cA, va_RA s cA ty = (s.vm.findClass ("[" ++ ty.toString) = some cA)) : ∃ cA, ArrOfT s cA ty ∧ va_RA s cA ty := by
  obtain ⟨c, k, comp, h1, h2, h3⟩ := Cond.arrayClass_spec h
  exact ⟨c, fun n z => ⟨fun k h => (by cases h), k, h2, comp, h3⟩, by rw [hp]; exact h1⟩
theorem st_obj {s : State} {args : Array Value} {C : String} (h : (Cond.arrayOver (.object C)).before args s = true) : ∃ cA, ArrOfT s cA (.object C) ∧ va_RA s cA (.object C) := by
  obtain ⟨comp, c, k, h1, _, h3, h4, h5⟩ := Cond.arrayOver_spec h
  exact ⟨c, fun n z => ⟨fun k h => (by cases h), k, h3, comp, h4⟩, k, comp, h3, h4, h1, h5⟩
theorem sr_ex {s : State} {args : Array Value} {own tx : String} {k : Nat} (h : (Cond.stringRef own k tx).before args s = true) : ∃ a, vk_R own k tx a s := by
  have h0 : (Cond.stringRef own k tx).before #[] s = true := by
    simp only [Cond.before, Cond.holds, Cond.value] at h ⊢
    exact h
  have h2 := h0
  simp only [Cond.before, Cond.holds, Cond.value] at h2
  cases hc : s.vm.findClass own with
  | none => simp [hc] at h2
  | some c =>
    cases hr : s.resolvedAt? own k with
    | none => simp [hc, hr] at h2
    | some r =>
      cases r with
      | string a =>
        refine ⟨a, vk_R.of h0 ?_⟩
        unfold State.resolvedAt? at hr
        rw [hc] at hr
        simp only [Term.eval, hc]
        cases hk : s.vm.classes[c]? with
        | none => simp [hk] at hr
        | some k1 => simp [hk] at hr ⊢; simp [hr]
      | _ => simp [hc, hr] at h2
theorem law_ST {s : State} {args : Array Value} (hts : ∀ w ∈ lw_tbl, w.before args s = true) (hgv : (Jvm.Cond.and given_1 narrow_1).before args s = true) : ∃ (D : va_G) (TC : Nat → ClassId), ST D (tysOf TC) s.heap s := by
  have hf := flat_of_before _ hgv
  obtain ⟨k0, i0, n0⟩ := u_known (C := RX0) (T := TX0) (N := 5) (n := 5) hts (fun w hw => (LY_X0.2.1 w hw).1) (hts _ nw_X0)
  obtain ⟨k1, i1, n1⟩ := u_known (C := RX1) (T := TX1) (N := 9) (n := 9) hts (fun w hw => (LY_X1.2.1 w hw).1) (hts _ nw_X1)
  obtain ⟨k2, i2, n2⟩ := u_known (C := RX2) (T := TX2) (N := 3) (n := 3) hts (fun w hw => (LY_X2.2.1 w hw).1) (hts _ nw_X2)
  obtain ⟨k3, i3, n3⟩ := u_known (C := RX3) (T := TX3) (N := 11) (n := 11) hts (fun w hw => (LY_X3.2.1 w hw).1) (hts _ nw_X3)
  obtain ⟨k4, i4, n4⟩ := u_known (C := RX4) (T := TX4) (N := 3) (n := 3) hts (fun w hw => (LY_X4.2.1 w hw).1) (hts _ nw_X4)
  obtain ⟨k5, i5, n5⟩ := u_known (C := RX5) (T := TX5) (N := 11) (n := 11) hts (fun w hw => (LY_X5.2.1 w hw).1) (hts _ nw_X5)
  obtain ⟨k6, i6, n6⟩ := u_known (C := RX6) (T := TX6) (N := 38) (n := 38) hts (fun w hw => (LY_X6.2.1 w hw).1) (hts _ nw_X6)
  obtain ⟨t0, a0⟩ := st_prim (hts _ ac_int) (fun _ => rfl)
  obtain ⟨t1, a1⟩ := st_prim (hts _ ac_long) (fun _ => rfl)
  obtain ⟨t2, a2⟩ := st_prim (hts _ ac_boolean) (fun _ => rfl)
  obtain ⟨t3, a3⟩ := st_obj (hts _ ao_X0)
  obtain ⟨t4, a4⟩ := st_obj (hts _ ao_X4)
  obtain ⟨t5, a5⟩ := st_obj (hts _ ao_X3)
  obtain ⟨t6, a6⟩ := st_obj (hts _ ao_X2)
  obtain ⟨t7, a7⟩ := st_obj (hts _ ao_X1)
  refine ⟨(fun k => match k with | 0 => k0 | 1 => k1 | 2 => k2 | 3 => k3 | 4 => k4 | 5 => k5 | _ => k6, fun k => match k with | 0 => i0 | 1 => i1 | 2 => i2 | 3 => i3 | 4 => i4 | 5 => i5 | _ => i6), (fun k => match k with | 0 => t0 | 1 => t1 | 2 => t2 | 3 => t3 | 4 => t4 | 5 => t5 | 6 => t6 | _ => t7), ⟨?_, ?_⟩, ?_, ?_, ?_, ?_, ?_, ?_, ?_⟩
  · intro k q hq
    match k, hq with
    | 0, hq => cases hq; exact n0
    | 1, hq => cases hq; exact n1
    | 2, hq => cases hq; exact n2
    | 3, hq => cases hq; exact n3
    | 4, hq => cases hq; exact n4
    | 5, hq => cases hq; exact n5
    | 6, hq => cases hq; exact n6
    | k + 7, hq => simp at hq
  · intro k q hq
    match k, hq with
    | 0, hq => cases hq; exact a0
    | 1, hq => cases hq; exact a1
    | 2, hq => cases hq; exact a2
    | 3, hq => cases hq; exact a3
    | 4, hq => cases hq; exact a4
    | 5, hq => cases hq; exact a5
    | 6, hq => cases hq; exact a6
    | 7, hq => cases hq; exact a7
    | k + 8, hq => simp [tysOf] at hq
  · exact fun a i b n d host h => va_Nw.of rfl (hts _ h)
  · exact fun own k tx h => sr_ex (hts _ h)
  · exact fun C h => va_AO.of (hts _ h)
  · exact vx_Zqof (hts _ (List.mem_of_getElem? (i := 151) (by decide +kernel))) (hts _ (by decide +kernel)) (hf _ (by decide +kernel)) (fun a ha h => by unfold hA0 at h; omega)
  · exact vx_Zqof (hts _ (List.mem_of_getElem? (i := 153) (by decide +kernel))) (hts _ (by decide +kernel)) (hf _ (by decide +kernel)) (fun a ha h => by unfold hA0 at h; omega)
  · exact fun w hw hd => va_Nw.of (dcW_on hd) (hts w hw)
  · intro a ha b hb hne
    simp only [xcs, List.mem_cons, List.not_mem_nil, or_false] at ha hb
    rcases ha with rfl | rfl | rfl <;> rcases hb with rfl | rfl | rfl
    all_goals first | exact absurd rfl hne | exact va_Nc.of (hf _ (by decide +kernel))
