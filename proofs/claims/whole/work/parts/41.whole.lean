def R_law : String := "ConformaryLaw"
def lw_P (b : Addr) (xs : List Int32) (args : Array Value) (s : State) : Prop := args = #[.ref b] ∧ s.IntsAt b xs ∧ xs.length ≤ 2560 ∧ (Jvm.Cond.and given_1 narrow_1).before args s = true
def lw_Q (_ : Array Value) (s : State) (o : Outcome) (t : State) : Prop := o = .returned (some (.int 1)) ∧ Framed s o t [] 601024 7293034
def lw_Z (below : List Frame) (a : Array Value) (s : State) : State → Prop := fun t => ∃ o, t.status = .running ∧ Ended t below o ∧ lw_Q a s o t
/-- the law's own end, with 1 on the stack, nothing written that was there before, its room as the claim has it -/
theorem lw_ret {p : Program} {l : Launch} {e : Env} {s : State} {m : MethodId} {below : List Frame} {meth : Method} {c : Code} {b : Nat} (hx : p.tables.exec = Jvm.exec) (hb : c.code = code) (hr : meth.sig.returnType = ret) (hlocks : meth.locks = false) {pc : Nat} {H : Heap} {ls : Array Slot} (hdg : decode code pc = .ok (.ireturn, 1)) : W p l e room_1 s m #[Value.ref b] below meth c H [] 601024 7293034 (lw_Z below #[Value.ref b] s) (F0 m pc ls [.int 1]) := by
  intro T hT X
  obtain ⟨fs, hret, hrun, hended, hW, hframe⟩ := X.leave (v := some (.int 1)) (hlocks := hlocks) (fun h => by rw [hr] at h; cases h)
  have hmeth' : T.vm.method? m = some meth := X.method'
  refine ⟨T.setFrames fs, ?_, .returned (some (.int 1)), hrun, hended, rfl, ⟨_, rfl⟩, hW, hframe⟩
  jvm_step X.here [X.here.top, hx, hb, hdg, hmeth', hr, ret, narrow_b1]
  (try refine ⟨rfl, ?_⟩); (try refine ⟨rfl, ?_⟩)
  first | (intro acts; rw [hret _ acts rfl rfl rfl]) | rw [hret _ _ rfl rfl rfl]
  exact Steps.refl _
/-- what holds at the law's entry: the machine, the code, the tables' words (any of lw_tbl by 'hts w (by decide +kernel)'), the script of L ints xs at the cell b, what the Statement gives of the start (any of its parts by flat_of_before) -/
def lw_At (p : Program) (s : State) (m : MethodId) (meth : Method) (c : Code) (b L : Nat) (xs : Nat → Int32) : Prop :=
  p.tables.exec = Jvm.exec ∧ c.code = code ∧ meth.sig.returnType = ret ∧ c.maxLocals = 7 ∧ s.vm.findClass R_law = some m.cls ∧ (∀ w ∈ lw_tbl, w.before #[Value.ref b] s = true) ∧ va_X b L xs s s.heap ∧ b < s.heap.size ∧ meth.locks = false ∧ (Jvm.Cond.and given_1 narrow_1).before #[Value.ref b] s = true
def hp5 (TC : Nat → ClassId) : Hp := (va_up (va_up (va_up (va_up (va_up (va_up (fun _ => none) 10 (some (.inl (TC 3, 6, .inr (.inr (.inr (.inr (fun _ => none)))))))) 11 (some (.inl (TC 4, 12, .inr (.inr (.inr (.inr (fun _ => none)))))))) 12 (some (.inl (TC 5, 10, .inr (.inr (.inr (.inr (fun _ => none)))))))) 13 (some (.inl (TC 6, 5, .inr (.inr (.inr (.inr (fun _ => none)))))))) 14 (some (.inl (TC 7, 40, .inr (.inr (.inr (.inr (fun _ => none)))))))) 0 (some (.inr (5, [.ref 10, .ref 11, .ref 12, .ref 13, .ref 14, .int 0, .int 0, .int 0, .int 0, .int 0, .int 0]))))
def hp6 (TC : Nat → ClassId) : Hp := (va_up (va_up (va_up (va_up (va_up (va_up (va_up (va_up (va_up (va_up (va_up (va_up (va_up (va_up (va_up (va_up (va_up (va_up (va_up (va_up (va_up (va_up (va_up (va_up (va_up (va_up (va_up (va_up (va_up (va_up (va_up (va_up (hp5 TC) 103 (some (.inl (TC 0, 6, .inl (fun _ => 0))))) 104 (some (.inl (TC 0, 6, .inl (fun _ => 0))))) 105 (some (.inl (TC 0, 6, .inl (fun _ => 0))))) 106 (some (.inl (TC 0, 6, .inl (fun _ => 0))))) 107 (some (.inl (TC 2, 36, .inl (fun _ => 0))))) 108 (some (.inl (TC 2, 6, .inl (fun _ => 0))))) 110 (some (.inl (TC 0, 12, .inl (fun _ => 0))))) 111 (some (.inl (TC 0, 12, .inl (fun _ => 0))))) 112 (some (.inl (TC 0, 12, .inl (fun _ => 0))))) 114 (some (.inl (TC 0, 10, .inl (fun _ => 0))))) 115 (some (.inl (TC 0, 10, .inl (fun _ => 0))))) 116 (some (.inl (TC 0, 80, .inl (fun _ => 0))))) 117 (some (.inl (TC 0, 80, .inl (fun _ => 0))))) 118 (some (.inl (TC 0, 120, .inl (fun _ => 0))))) 119 (some (.inl (TC 0, 10, .inl (fun _ => 0))))) 120 (some (.inl (TC 0, 10, .inl (fun _ => 0))))) 121 (some (.inl (TC 0, 10, .inl (fun _ => 0))))) 122 (some (.inl (TC 0, 10, .inl (fun _ => 0))))) 123 (some (.inl (TC 0, 10, .inl (fun _ => 0))))) 124 (some (.inl (TC 0, 10, .inl (fun _ => 0))))) 126 (some (.inl (TC 0, 5, .inl (fun _ => 0))))) 127 (some (.inl (TC 0, 5, .inl (fun _ => 0))))) 129 (some (.inl (TC 0, 40, .inl (fun _ => 0))))) 130 (some (.inl (TC 0, 40, .inl (fun _ => 0))))) 131 (some (.inl (TC 0, 40, .inl (fun _ => 0))))) 132 (some (.inl (TC 0, 40, .inl (fun _ => 0))))) 133 (some (.inl (TC 0, 40, .inl (fun _ => 0))))) 134 (some (.inl (TC 0, 40, .inl (fun _ => 0))))) 135 (some (.inl (TC 0, 40, .inl (fun _ => 0))))) 136 (some (.inl (TC 0, 40, .inl (fun _ => 0))))) 137 (some (.inl (TC 0, 40, .inl (fun _ => 0))))) 2 (some (.inr (6, [.int 0, .int 0, .int 0, .ref 103, .ref 104, .ref 105, .ref 106, .ref 107, .ref 108, .int 0, .ref 110, .ref 111, .ref 112, .int 0, .ref 114, .ref 115, .ref 116, .ref 117, .ref 118, .ref 119, .ref 120, .ref 121, .ref 122, .ref 123, .ref 124, .int 0, .ref 126, .ref 127, .int 0, .ref 129, .ref 130, .ref 131, .ref 132, .ref 133, .ref 134, .ref 135, .ref 136, .ref 137]))))
theorem nr0 (n : Nat) : noRef (fun _ => none) n := fun m e h => by cases h
theorem nr5 {TC : Nat → ClassId} {n : Nat} (hn : n = 1 ∨ 100 ≤ n) : noRef (hp5 TC) n := by
  unfold hp5
  exact nr_up (nr_up (nr_up (nr_up (nr_up (nr_up (nr0 n) fr_non) fr_non) fr_non) fr_non) fr_non) (fr_obj (by simp [nref]; (repeat' apply And.intro) <;> exact ne_nat (by omega)))
theorem nr52 {TC : Nat → ClassId} : noRef (hp5 TC) 2 := by
  unfold hp5
  exact nr_up (nr_up (nr_up (nr_up (nr_up (nr_up (nr0 2) fr_non) fr_non) fr_non) fr_non) fr_non) (fr_obj rfl)
theorem hn5 {TC : Nat → ClassId} {n : Nat} (hn : n = 1 ∨ n = 2 ∨ 100 ≤ n) : hp5 TC n = none := by
  unfold hp5
  rw [vup_ne _ _ (show n ≠ 0 by omega), vup_ne _ _ (show n ≠ 14 by omega), vup_ne _ _ (show n ≠ 13 by omega), vup_ne _ _ (show n ≠ 12 by omega), vup_ne _ _ (show n ≠ 11 by omega), vup_ne _ _ (show n ≠ 10 by omega)]
theorem nr6 {TC : Nat → ClassId} : noRef (hp6 TC) 1 := by
  unfold hp6
  exact nr_up (nr_up (nr_up (nr_up (nr_up (nr_up (nr_up (nr_up (nr_up (nr_up (nr_up (nr_up (nr_up (nr_up (nr_up (nr_up (nr_up (nr_up (nr_up (nr_up (nr_up (nr_up (nr_up (nr_up (nr_up (nr_up (nr_up (nr_up (nr_up (nr_up (nr_up (nr_up (nr5 (Or.inl rfl)) fr_int) fr_int) fr_int) fr_int) fr_int) fr_int) fr_int) fr_int) fr_int) fr_int) fr_int) fr_int) fr_int) fr_int) fr_int) fr_int) fr_int) fr_int) fr_int) fr_int) fr_int) fr_int) fr_int) fr_int) fr_int) fr_int) fr_int) fr_int) fr_int) fr_int) fr_int) (fr_obj rfl)
theorem hn6 {TC : Nat → ClassId} : hp6 TC 1 = none := by
  unfold hp6
  rw [vup_ne _ _ (show (1 : Nat) ≠ 2 by decide), vup_ne _ _ (show (1 : Nat) ≠ 137 by decide), vup_ne _ _ (show (1 : Nat) ≠ 136 by decide), vup_ne _ _ (show (1 : Nat) ≠ 135 by decide), vup_ne _ _ (show (1 : Nat) ≠ 134 by decide), vup_ne _ _ (show (1 : Nat) ≠ 133 by decide), vup_ne _ _ (show (1 : Nat) ≠ 132 by decide), vup_ne _ _ (show (1 : Nat) ≠ 131 by decide), vup_ne _ _ (show (1 : Nat) ≠ 130 by decide), vup_ne _ _ (show (1 : Nat) ≠ 129 by decide), vup_ne _ _ (show (1 : Nat) ≠ 127 by decide), vup_ne _ _ (show (1 : Nat) ≠ 126 by decide), vup_ne _ _ (show (1 : Nat) ≠ 124 by decide), vup_ne _ _ (show (1 : Nat) ≠ 123 by decide), vup_ne _ _ (show (1 : Nat) ≠ 122 by decide), vup_ne _ _ (show (1 : Nat) ≠ 121 by decide), vup_ne _ _ (show (1 : Nat) ≠ 120 by decide), vup_ne _ _ (show (1 : Nat) ≠ 119 by decide), vup_ne _ _ (show (1 : Nat) ≠ 118 by decide), vup_ne _ _ (show (1 : Nat) ≠ 117 by decide), vup_ne _ _ (show (1 : Nat) ≠ 116 by decide), vup_ne _ _ (show (1 : Nat) ≠ 115 by decide), vup_ne _ _ (show (1 : Nat) ≠ 114 by decide), vup_ne _ _ (show (1 : Nat) ≠ 112 by decide), vup_ne _ _ (show (1 : Nat) ≠ 111 by decide), vup_ne _ _ (show (1 : Nat) ≠ 110 by decide), vup_ne _ _ (show (1 : Nat) ≠ 108 by decide), vup_ne _ _ (show (1 : Nat) ≠ 107 by decide), vup_ne _ _ (show (1 : Nat) ≠ 106 by decide), vup_ne _ _ (show (1 : Nat) ≠ 105 by decide), vup_ne _ _ (show (1 : Nat) ≠ 104 by decide), vup_ne _ _ (show (1 : Nat) ≠ 103 by decide)]
  exact hn5 (Or.inl rfl)
set_option maxRecDepth 20000 in
theorem start_heap {TC : Nat → ClassId} : va_up (hp6 TC) 1 (some (.inl (TC 1, 1, .inr (.inl (fun _ => 0))))) = hall TC (fun _ _ => 0) (fun _ _ => 0) (fun _ => 0) := by
  funext n
  by_cases a1 : n = 1
  · rw [a1]; rfl
  by_cases a2 : n = 2
  · rw [a2]; rfl
  by_cases a103 : n = 103
  · rw [a103]; rfl
  by_cases a104 : n = 104
  · rw [a104]; rfl
  by_cases a105 : n = 105
  · rw [a105]; rfl
  by_cases a106 : n = 106
  · rw [a106]; rfl
  by_cases a107 : n = 107
  · rw [a107]; rfl
  by_cases a108 : n = 108
  · rw [a108]; rfl
  by_cases a110 : n = 110
  · rw [a110]; rfl
  by_cases a111 : n = 111
  · rw [a111]; rfl
  by_cases a112 : n = 112
  · rw [a112]; rfl
  by_cases a114 : n = 114
  · rw [a114]; rfl
  by_cases a115 : n = 115
  · rw [a115]; rfl
  by_cases a116 : n = 116
  · rw [a116]; rfl
  by_cases a117 : n = 117
  · rw [a117]; rfl
  by_cases a118 : n = 118
  · rw [a118]; rfl
  by_cases a119 : n = 119
  · rw [a119]; rfl
  by_cases a120 : n = 120
  · rw [a120]; rfl
  by_cases a121 : n = 121
  · rw [a121]; rfl
  by_cases a122 : n = 122
  · rw [a122]; rfl
  by_cases a123 : n = 123
  · rw [a123]; rfl
  by_cases a124 : n = 124
  · rw [a124]; rfl
  by_cases a126 : n = 126
  · rw [a126]; rfl
  by_cases a127 : n = 127
  · rw [a127]; rfl
  by_cases a129 : n = 129
  · rw [a129]; rfl
  by_cases a130 : n = 130
  · rw [a130]; rfl
  by_cases a131 : n = 131
  · rw [a131]; rfl
  by_cases a132 : n = 132
  · rw [a132]; rfl
  by_cases a133 : n = 133
  · rw [a133]; rfl
  by_cases a134 : n = 134
  · rw [a134]; rfl
  by_cases a135 : n = 135
  · rw [a135]; rfl
  by_cases a136 : n = 136
  · rw [a136]; rfl
  by_cases a137 : n = 137
  · rw [a137]; rfl
  by_cases a0 : n = 0
  · rw [a0]; rfl
  by_cases a10 : n = 10
  · rw [a10]; rfl
  by_cases a11 : n = 11
  · rw [a11]; rfl
  by_cases a12 : n = 12
  · rw [a12]; rfl
  by_cases a13 : n = 13
  · rw [a13]; rfl
  by_cases a14 : n = 14
  · rw [a14]; rfl
  unfold hp6 hp5
  rw [vup_ne _ _ a1, vup_ne _ _ a2, vup_ne _ _ a137, vup_ne _ _ a136, vup_ne _ _ a135, vup_ne _ _ a134, vup_ne _ _ a133, vup_ne _ _ a132, vup_ne _ _ a131, vup_ne _ _ a130, vup_ne _ _ a129, vup_ne _ _ a127, vup_ne _ _ a126, vup_ne _ _ a124, vup_ne _ _ a123, vup_ne _ _ a122, vup_ne _ _ a121, vup_ne _ _ a120, vup_ne _ _ a119, vup_ne _ _ a118, vup_ne _ _ a117, vup_ne _ _ a116, vup_ne _ _ a115, vup_ne _ _ a114, vup_ne _ _ a112, vup_ne _ _ a111, vup_ne _ _ a110, vup_ne _ _ a108, vup_ne _ _ a107, vup_ne _ _ a106, vup_ne _ _ a105, vup_ne _ _ a104, vup_ne _ _ a103, vup_ne _ _ a0, vup_ne _ _ a14, vup_ne _ _ a13, vup_ne _ _ a12, vup_ne _ _ a11, vup_ne _ _ a10]
  unfold hall
  by_cases h1 : n < 100
  · rw [if_pos h1]
    unfold eK0
    rw [if_neg a0, if_neg a1, if_neg a2, if_neg a10, if_neg a11, if_neg a12, if_neg a13, if_neg a14]
  · rw [if_neg h1]
    by_cases h2 : n < 200
    · rw [if_pos h2]
      unfold eK1
      have z : mlen (n - 100) = 0 := by
        unfold mlen
        by_cases m0 : n - 100 < 3
        · rw [if_pos m0]
        rw [if_neg m0]
        by_cases m1 : n - 100 < 7
        · exfalso; omega
        rw [if_neg m1]
        by_cases m2 : n - 100 = 7
        · exfalso; omega
        rw [if_neg m2]
        by_cases m3 : n - 100 = 8
        · exfalso; omega
        rw [if_neg m3]
        by_cases m4 : n - 100 = 9
        · rw [if_pos m4]
        rw [if_neg m4]
        by_cases m5 : n - 100 < 13
        · exfalso; omega
        rw [if_neg m5]
        by_cases m6 : n - 100 = 13
        · rw [if_pos m6]
        rw [if_neg m6]
        by_cases m7 : n - 100 < 16
        · exfalso; omega
        rw [if_neg m7]
        by_cases m8 : n - 100 < 18
        · exfalso; omega
        rw [if_neg m8]
        by_cases m9 : n - 100 = 18
        · exfalso; omega
        rw [if_neg m9]
        by_cases m10 : n - 100 < 25
        · exfalso; omega
        rw [if_neg m10]
        by_cases m11 : n - 100 = 25
        · rw [if_pos m11]
        rw [if_neg m11]
        by_cases m12 : n - 100 < 28
        · exfalso; omega
        rw [if_neg m12]
        by_cases m13 : n - 100 = 28
        · rw [if_pos m13]
        rw [if_neg m13]
        by_cases m14 : n - 100 < 38
        · exfalso; omega
        rw [if_neg m14]
      rw [if_pos z]
    · rw [if_neg h2]
      have k0 : ∀ i, ¬ i < cnt (fun _ _ => (0 : Int32)) 2 := fun i => Nat.not_lt_zero i
      unfold hC kc0 kc1 kc2 kc3 kc4 kc5 kc6 kc7
      have kk : ∀ f i, ¬ i < cnt (fun _ _ => (0 : Int32)) f := fun f i => Nat.not_lt_zero i
      simp only [kk, if_false]
      repeat' split
      all_goals rfl
theorem INV_start : INV 0 (fun _ _ => 0) := by
  have z : ∀ {p f : Nat}, ¬ p < cnt (fun _ _ => (0 : Int32)) f := fun {p f} => Nat.not_lt_zero p
  exact ⟨⟨rfl, by decide⟩, ⟨rfl, by decide⟩, ⟨rfl, by decide⟩, ⟨rfl, by decide⟩, ⟨rfl, by decide⟩, fun _ => Or.inl rfl, fun _ => Or.inl rfl, fun _ h => absurd h z, fun _ h => absurd h z, fun _ h => absurd h z, ⟨by decide, by decide⟩, fun _ _ _ _ _ => rfl, fun _ h => absurd h z, fun _ h => absurd h z, fun _ h => absurd h z, fun _ _ _ => ⟨rfl, rfl, rfl, fun _ _ => ⟨rfl, rfl⟩, fun _ _ => rfl⟩, fun _ h => absurd h z, fun _ _ h => absurd h z, fun _ _ _ => ⟨rfl, rfl, rfl⟩⟩
def okI : Value → Prop
  | .ref a => a = 0 ∨ a = 2 ∨ a = 3
  | _ => True
theorem PI_ag {ad : Nat → Nat} {r : Option Value} {h1 : Hp} {lv : List (Nat × Value)} {rest : List Value} (hl : ∀ x ∈ lv, okI x.2) (hr : ∀ x ∈ rest, okI x) : ∀ v ad' h', PI ad r h1 v ad' h' → lv.map (cL ad') = lv.map (cL ad) ∧ rest.map (cV ad') = rest.map (cV ad) := by
  rintro v ad' h' ⟨-, ha, -⟩
  have key : ∀ v : Value, okI v → cV ad' v = cV ad v := by
    intro v hv
    cases v with
    | ref n => show Value.ref (ad' n) = Value.ref (ad n); rw [ha n hv]
    | _ => rfl
  exact ⟨List.map_congr_left fun x hx => by unfold cL; rw [key _ (hl x hx)], List.map_congr_left fun x hx => key _ (hr x hx)⟩
theorem sw31 (x : Int32) : ∃ w : Nat, w < 32 ∧ x &&& 31 = nI w := by
  have e : (x &&& 31).toInt = x.toInt % 2 ^ 5 := Kit.i32_mask x 31 (k := 5) (by decide) (by decide)
  obtain ⟨j, hj, h⟩ := nI_of (x := x &&& 31) (fun z => by rw [Int32.lt_iff_toInt_lt, Int32.toInt_zero, e] at z; omega)
  refine ⟨j, ?_, h⟩
  rw [h, nI_toInt hj] at e
  omega
set_option maxHeartbeats 4000000 in
set_option maxRecDepth 20000 in
theorem law_loop {p : Program} {l : Launch} {e : Env} {s : State} {m : MethodId} {below : List Frame} {meth : Method} {c : Code} {b L : Nat} {xs : Nat → Int32} {D : va_G} {TC : Nat → ClassId} {nm : String} {tb : List ExceptionTableEntry} (F : FX D (tysOf TC) s.heap p l s m #[.ref b] meth c RL cL_law 7 ret nm tb) (hst : l.stackTraces = false) (hX : va_X b L xs s s.heap) (hbl : b < s.heap.size) (hL : L ≤ 2560) : ∀ (n t : Nat), t ≤ 512 → 512 - t < n → ∀ (S : St) (o : Nat → Int64) (ad : Nat → Nat), INV t S → ad 3 = b → 5 * t ≤ L →
    WA D s.heap p l e room_1 s m #[.ref b] below meth c 7 (lw_Z below #[Value.ref b] s) ad (hall TC S S o) (39 + 4 * t) (955 + 39 * t) 23 [(4, .int (nI (5 * t))), (3, .ref 1), (2, .ref 2), (1, .ref 0), (0, .ref 3)] [] := by
  intro n
  induction n with
  | zero => intro t h1 h2; omega
  | succ n ih =>
    intro t ht0 hn S o ad hi had h5a
    refine wa_iload F dL_law_23 0 rfl ?_
    refine wa_aload_n F dL_law_25 (i := 0) rfl 4 rfl ?_
    refine wa_slen F hX hbl hbl had dL_law_26 ?_
    refine wa_iconst (v := 5) F dL_law_27 (by decide) ?_
    refine wa_isub F dL_law_28 ?_
    have eL : (nI L - (5 : Int32)).toInt = (L : Int) - 5 := by rw [show (nI L - 5 : Int32) = nI L - nI 5 from rfl, pk_sub_toInt (by omega) (by omega)]; rfl
    refine wa_icmp_gt (tgt := 2475) F dL_law_29 (by decide) (fun c29 => ?_) (fun c29 => ?_)
    · refine wa_iconst (v := 1) F dL_law_2475 (by decide) ?_
      intro H locs ls hH hS hl
      refine va_forget (fun q hq => hS.2.2 q hq) ?_
      refine W.widen (k := 601024) (n := 7293034) (by omega) (by omega) ?_
      exact lw_ret F.1 F.2.1 F.2.2.2.2.2.2.2.1 F.2.2.2.2.2.2.1 dL_law_2476
    · replace c29 := nlt_le c29
      have h5 : 5 * t + 5 ≤ L := by
        rw [le_toInt, nI_toInt (by omega), eL] at c29
        omega
      have ht : t < 512 := by omega
      refine wa_aload_n F dL_law_32 (i := 0) rfl 4 rfl ?_
      refine wa_iload F dL_law_33 0 rfl ?_
      refine wa_sld F hX hbl hbl had (5 * t) rfl (by omega) (by omega) dL_law_35 ?_
      refine wa_bipush (v := 31) F dL_law_36 (by decide) ?_
      refine wa_iand F dL_law_38 ?_
      obtain ⟨w, hw, ew⟩ := sw31 (xs (5 * t))
      rw [ew]
      have K : ∀ (S1 : St) (o1 : Nat → Int64) (ad1 : Nat → Nat), INV (t + 1) S1 → ad1 3 = b → WA D s.heap p l e room_1 s m #[.ref b] below meth c 7 (lw_Z below #[Value.ref b] s) ad1 (hall TC S1 S1 o1) (39 + 4 * t + 4) (955 + 39 * t + 39) 2469 [(4, .int (nI (5 * t))), (3, .ref 1), (2, .ref 2), (1, .ref 0), (0, .ref 3)] [] := by
        intro S1 o1 ad1 hi1 had1
        refine wa_iinc (v := nI (5 * (t + 1))) (j := 0) (lv' := [(4, .int (nI (5 * (t + 1)))), (3, .ref 1), (2, .ref 2), (1, .ref 0), (0, .ref 3)]) F dL_law_2469 rfl (by rw [show Int32.ofInt 5 = nI 5 from rfl, nI_add]; rfl) (by decide) rfl ?_
        refine wa_goto (tgt := 23) F dL_law_2472 (by decide) ?_
        exact ih (t + 1) (by omega) (by omega) S1 o1 ad1 hi1 had1 (by omega)
      have hsw : w = 0 ∨ w = 1 ∨ w = 2 ∨ w = 3 ∨ w = 4 ∨ w = 5 ∨ w = 6 ∨ w = 7 ∨ w = 8 ∨ w = 9 ∨ w = 10 ∨ w = 11 ∨ w = 12 ∨ w = 13 ∨ w = 14 ∨ w = 15 ∨ w = 16 ∨ w = 17 ∨ w = 18 ∨ w = 19 ∨ w = 20 ∨ w = 21 ∨ w = 22 ∨ w = 23 ∨ w = 24 ∨ w = 25 ∨ w = 26 ∨ w = 27 ∨ w = 28 ∨ w = 29 ∨ w = 30 ∨ w = 31 := by omega
      rcases hsw with rfl | rfl | rfl | rfl | rfl | rfl | rfl | rfl | rfl | rfl | rfl | rfl | rfl | rfl | rfl | rfl | rfl | rfl | rfl | rfl | rfl | rfl | rfl | rfl | rfl | rfl | rfl | rfl | rfl | rfl | rfl | rfl
      · exact wa_tableIn (off := 141) (tgt := 180) F dL_law_39 (by decide) (by decide) rfl (by decide) (law_0 F hst hX hbl hbl (by omega) ad had S o t hi ht h5 _ _ (by omega) (by omega) K)
      · exact wa_tableIn (off := 233) (tgt := 272) F dL_law_39 (by decide) (by decide) rfl (by decide) (law_1 F hst hX hbl hbl (by omega) ad had S o t hi ht h5 _ _ (by omega) (by omega) K)
      · exact wa_tableIn (off := 308) (tgt := 347) F dL_law_39 (by decide) (by decide) rfl (by decide) (law_2 F hst hX hbl hbl (by omega) ad had S o t hi ht h5 _ _ (by omega) (by omega) K)
      · exact wa_tableIn (off := 376) (tgt := 415) F dL_law_39 (by decide) (by decide) rfl (by decide) (law_3 F hst hX hbl hbl (by omega) ad had S o t hi ht h5 _ _ (by omega) (by omega) K)
      · exact wa_tableIn (off := 444) (tgt := 483) F dL_law_39 (by decide) (by decide) rfl (by decide) (law_4 F hst hX hbl hbl (by omega) ad had S o t hi ht h5 _ _ (by omega) (by omega) K)
      · exact wa_tableIn (off := 512) (tgt := 551) F dL_law_39 (by decide) (by decide) rfl (by decide) (law_5 F hst hX hbl hbl (by omega) ad had S o t hi ht h5 _ _ (by omega) (by omega) K)
      · exact wa_tableIn (off := 568) (tgt := 607) F dL_law_39 (by decide) (by decide) rfl (by decide) (law_6 F hst hX hbl hbl (by omega) ad had S o t hi ht h5 _ _ (by omega) (by omega) K)
      · exact wa_tableIn (off := 636) (tgt := 675) F dL_law_39 (by decide) (by decide) rfl (by decide) (law_7 F hst hX hbl hbl (by omega) ad had S o t hi ht h5 _ _ (by omega) (by omega) K)
      · exact wa_tableIn (off := 728) (tgt := 767) F dL_law_39 (by decide) (by decide) rfl (by decide) (law_8 F hst hX hbl hbl (by omega) ad had S o t hi ht h5 _ _ (by omega) (by omega) K)
      · exact wa_tableIn (off := 808) (tgt := 847) F dL_law_39 (by decide) (by decide) rfl (by decide) (law_9 F hst hX hbl hbl (by omega) ad had S o t hi ht h5 _ _ (by omega) (by omega) K)
      · exact wa_tableIn (off := 876) (tgt := 915) F dL_law_39 (by decide) (by decide) rfl (by decide) (law_10 F hst hX hbl hbl (by omega) ad had S o t hi ht h5 _ _ (by omega) (by omega) K)
      · exact wa_tableIn (off := 932) (tgt := 971) F dL_law_39 (by decide) (by decide) rfl (by decide) (law_11 F hst hX hbl hbl (by omega) ad had S o t hi ht h5 _ _ (by omega) (by omega) K)
      · exact wa_tableIn (off := 988) (tgt := 1027) F dL_law_39 (by decide) (by decide) rfl (by decide) (law_12 F hst hX hbl hbl (by omega) ad had S o t hi ht h5 _ _ (by omega) (by omega) K)
      · exact wa_tableIn (off := 1079) (tgt := 1118) F dL_law_39 (by decide) (by decide) rfl (by decide) (law_13 F hst hX hbl hbl (by omega) ad had S o t hi ht h5 _ _ (by omega) (by omega) K)
      · exact wa_tableIn (off := 1159) (tgt := 1198) F dL_law_39 (by decide) (by decide) rfl (by decide) (law_14 F hst hX hbl hbl (by omega) ad had S o t hi ht h5 _ _ (by omega) (by omega) K)
      · exact wa_tableIn (off := 1227) (tgt := 1266) F dL_law_39 (by decide) (by decide) rfl (by decide) (law_15 F hst hX hbl hbl (by omega) ad had S o t hi ht h5 _ _ (by omega) (by omega) K)
      · exact wa_tableIn (off := 1318) (tgt := 1357) F dL_law_39 (by decide) (by decide) rfl (by decide) (law_16 F hst hX hbl hbl (by omega) ad had S o t hi ht h5 _ _ (by omega) (by omega) K)
      · exact wa_tableIn (off := 1386) (tgt := 1425) F dL_law_39 (by decide) (by decide) rfl (by decide) (law_17 F hst hX hbl hbl (by omega) ad had S o t hi ht h5 _ _ (by omega) (by omega) K)
      · exact wa_tableIn (off := 1454) (tgt := 1493) F dL_law_39 (by decide) (by decide) rfl (by decide) (law_18 F hst hX hbl hbl (by omega) ad had S o t hi ht h5 _ _ (by omega) (by omega) K)
      · exact wa_tableIn (off := 1546) (tgt := 1585) F dL_law_39 (by decide) (by decide) rfl (by decide) (law_19 F hst hX hbl hbl (by omega) ad had S o t hi ht h5 _ _ (by omega) (by omega) K)
      · exact wa_tableIn (off := 1626) (tgt := 1665) F dL_law_39 (by decide) (by decide) rfl (by decide) (law_20 F hst hX hbl hbl (by omega) ad had S o t hi ht h5 _ _ (by omega) (by omega) K)
      · exact wa_tableIn (off := 1706) (tgt := 1745) F dL_law_39 (by decide) (by decide) rfl (by decide) (law_21 F hst hX hbl hbl (by omega) ad had S o t hi ht h5 _ _ (by omega) (by omega) K)
      · exact wa_tableIn (off := 1802) (tgt := 1841) F dL_law_39 (by decide) (by decide) rfl (by decide) (law_22 F hst hX hbl hbl (by omega) ad had S o t hi ht h5 _ _ (by omega) (by omega) K)
      · exact wa_tableIn (off := 1858) (tgt := 1897) F dL_law_39 (by decide) (by decide) rfl (by decide) (law_23 F hst hX hbl hbl (by omega) ad had S o t hi ht h5 _ _ (by omega) (by omega) K)
      · exact wa_tableIn (off := 1871) (tgt := 1910) F dL_law_39 (by decide) (by decide) rfl (by decide) (law_24 F hst hX hbl hbl (by omega) ad had S o t hi ht h5 _ _ (by omega) (by omega) K)
      · exact wa_tableIn (off := 1946) (tgt := 1985) F dL_law_39 (by decide) (by decide) rfl (by decide) (law_25 F hst hX hbl hbl (by omega) ad had S o t hi ht h5 _ _ (by omega) (by omega) K)
      · exact wa_tableIn (off := 2030) (tgt := 2069) F dL_law_39 (by decide) (by decide) rfl (by decide) (law_26 F hst hX hbl hbl (by omega) ad had S o t hi ht h5 _ _ (by omega) (by omega) K)
      · exact wa_tableIn (off := 2086) (tgt := 2125) F dL_law_39 (by decide) (by decide) rfl (by decide) (law_27 F hst hX hbl hbl (by omega) ad had S o t hi ht h5 _ _ (by omega) (by omega) K)
      · exact wa_tableIn (off := 2142) (tgt := 2181) F dL_law_39 (by decide) (by decide) rfl (by decide) (law_28 F hst hX hbl hbl (by omega) ad had S o t hi ht h5 _ _ (by omega) (by omega) K)
      · exact wa_tableIn (off := 2210) (tgt := 2249) F dL_law_39 (by decide) (by decide) rfl (by decide) (law_29 F hst hX hbl hbl (by omega) ad had S o t hi ht h5 _ _ (by omega) (by omega) K)
      · exact wa_tableIn (off := 2306) (tgt := 2345) F dL_law_39 (by decide) (by decide) rfl (by decide) (law_30 F hst hX hbl hbl (by omega) ad had S o t hi ht h5 _ _ (by omega) (by omega) K)
      · exact wa_tableIn (off := 2374) (tgt := 2413) F dL_law_39 (by decide) (by decide) rfl (by decide) (law_31 F hst hX hbl hbl (by omega) ad had S o t hi ht h5 _ _ (by omega) (by omega) K)
set_option maxHeartbeats 4000000 in
set_option maxRecDepth 20000 in
theorem law_walk {p : Program} {l : Launch} {e : Env} {s : State} {m : MethodId} {below : List Frame} {meth : Method} {c : Code} {b L : Nat} {xs : Nat → Int32} {D : va_G} {TC : Nat → ClassId} {nm : String} {tb : List ExceptionTableEntry} (F : FX D (tysOf TC) s.heap p l s m #[.ref b] meth c RL cL_law 7 ret nm tb) (hst : l.stackTraces = false) (hX : va_X b L xs s s.heap) (hbl : b < s.heap.size) (hL : L ≤ 2560) :
    WA D s.heap p l e room_1 s m #[.ref b] below meth c 7 (lw_Z below #[Value.ref b] s) (fun _ => b) (fun _ => none) 0 0 0 [(0, .ref 3)] [] := by
  refine wa_new F LY_X5 0 cl_L_8 nw_X5 in_X5 rfl (nr0 0) (fs := [.null, .null, .null, .null, .null, .int 0, .int 0, .int 0, .int 0, .int 0, .int 0]) (by intro j hj; rcases j with _ | _ | _ | _ | _ | _ | _ | _ | _ | _ | _ | j <;> first | rfl | (exfalso; omega)) (fun _ => rfl) (Nat.le_of_ble_eq_true rfl) (Nat.le_of_ble_eq_true rfl) (all_nl rfl) (all_ns rfl) dL_law_0 rfl (fun q0 => ?_)
  refine wa_dup F dL_law_3 rfl ?_
  refine wa_callI F [.ref 0] (c_X5_init hst D TC s.heap (va_up (fun _ => b) 0 q0) (fun _ => none) (fun _ _ _ _ => rfl) (fun n _ _ _ => nr0 n)) mw_X5_init ml_L_116 rfl (Nat.le_of_ble_eq_true rfl) ⟨(Nat.le_of_ble_eq_true rfl), (Nat.le_of_ble_eq_true rfl)⟩ ⟨(Nat.le_of_ble_eq_true rfl), (Nat.le_of_ble_eq_true rfl)⟩ dL_law_4 (PI_ag (by intro y hy; simp only [List.mem_cons, List.not_mem_nil, or_false] at hy; rcases hy with rfl; exact Or.inr (Or.inr rfl)) (by intro y hy; simp only [List.mem_cons, List.not_mem_nil, or_false] at hy; rcases hy with rfl; exact Or.inl rfl)) (fun _ z => z.elim) ?_
  rintro _ ad1 _ ⟨rfl, had1, rfl⟩
  refine wa_astore_n (lv' := [(1, .ref 0), (0, .ref 3)]) F dL_law_7 (i := 1) rfl (by decide) rfl ?_
  refine wa_new (h := hp5 TC) F LY_X6 2 cl_L_117 nw_X6 in_X6 (hn5 (Or.inr (Or.inl rfl))) nr52 (fs := [.int 0, .int 0, .int 0, .null, .null, .null, .null, .null, .null, .int 0, .null, .null, .null, .int 0, .null, .null, .null, .null, .null, .null, .null, .null, .null, .null, .null, .int 0, .null, .null, .int 0, .null, .null, .null, .null, .null, .null, .null, .null, .null]) (by intro j hj; rcases j with _ | _ | _ | _ | _ | _ | _ | _ | _ | _ | _ | _ | _ | _ | _ | _ | _ | _ | _ | _ | _ | _ | _ | _ | _ | _ | _ | _ | _ | _ | _ | _ | _ | _ | _ | _ | _ | _ | j <;> first | rfl | (exfalso; omega)) (fun _ => rfl) (Nat.le_of_ble_eq_true rfl) (Nat.le_of_ble_eq_true rfl) (all_nl rfl) (all_ns rfl) dL_law_8 rfl (fun q1 => ?_)
  refine wa_dup F dL_law_11 rfl ?_
  refine wa_callI F [.ref 2] (c_X6_init hst D TC s.heap (va_up ad1 2 q1) (hp5 TC) (fun n _ _ h => hn5 (Or.inr (Or.inr h))) (fun n _ _ h => nr5 (Or.inr h))) mw_X6_init ml_L_119 rfl (Nat.le_of_ble_eq_true rfl) ⟨(Nat.le_of_ble_eq_true rfl), (Nat.le_of_ble_eq_true rfl)⟩ ⟨(Nat.le_of_ble_eq_true rfl), (Nat.le_of_ble_eq_true rfl)⟩ dL_law_12 (PI_ag (by intro y hy; simp only [List.mem_cons, List.not_mem_nil, or_false] at hy; rcases hy with rfl | rfl; exact Or.inl rfl; exact Or.inr (Or.inr rfl)) (by intro y hy; simp only [List.mem_cons, List.not_mem_nil, or_false] at hy; rcases hy with rfl; exact Or.inr (Or.inl rfl))) (fun _ z => z.elim) ?_
  rintro _ ad2 _ ⟨rfl, had2, rfl⟩
  refine wa_astore_n (lv' := [(2, .ref 2), (1, .ref 0), (0, .ref 3)]) F dL_law_15 (i := 2) rfl (by decide) rfl ?_
  refine wa_iconst (v := 1) F dL_law_16 (by decide) ?_
  refine wa_newa (h := hp6 TC) F 1 rfl .long rfl rfl 1 ac_long hn6 nr6 (N0 := 1) (a0 := (1, .inr (.inl (fun _ => 0)))) (fun _ => rfl) (fun _ => rfl) rfl (by decide) (by decide) (Nat.le_of_ble_eq_true rfl) (Nat.le_of_ble_eq_true rfl) (all_nl rfl) (all_ns rfl) dL_law_17 start_heap (fun q2 => ?_)
  refine wa_astore_n (lv' := [(3, .ref 1), (2, .ref 2), (1, .ref 0), (0, .ref 3)]) F dL_law_19 (i := 3) rfl (by decide) rfl ?_
  refine wa_iconst (v := 0) F dL_law_20 (by decide) ?_
  refine wa_istore (lv' := [(4, .int (nI (5 * 0))), (3, .ref 1), (2, .ref 2), (1, .ref 0), (0, .ref 3)]) F dL_law_21 (by decide) rfl ?_
  have had3 : va_up ad2 1 q2 3 = b := by
    rw [show va_up ad2 1 q2 3 = ad2 3 from if_neg (by decide), had2 3 (Or.inr (Or.inr rfl)), show va_up ad1 2 q1 3 = ad1 3 from if_neg (by decide), had1 3 (Or.inr (Or.inr rfl))]
    exact if_neg (by decide)
  exact law_loop F hst hX hbl hL 513 0 (by omega) (by omega) (fun _ _ => 0) (fun _ => 0) _ INV_start had3 (by omega)
theorem whole_start {p : Program} {e : Env} {s : State} {m : MethodId} {below : List Frame} {meth : Method} {c : Code} (l : Launch) (hflags : l.flags = flags0) {b L : Nat} {xs : Nat → Int32} (hL : L ≤ 2560) (C0 : lw_At p s m meth c b L xs) : W p l e room_1 s m #[Value.ref b] below meth c s.heap [] 0 0 (lw_Z below #[Value.ref b] s) (entryFrame m ([Value.ref b] : List Value).toArray 7) := by
  obtain ⟨hx, hb, hr, hml, hown, hts, hX, hbl, hlocks, hgv⟩ := id C0
  obtain ⟨D, TC, hST⟩ := law_ST hts hgv
  have hst : l.stackTraces = false := by unfold Launch.stackTraces; rw [hflags]; decide +kernel
  have F : FX D (tysOf TC) s.heap p l s m #[.ref b] meth c RL cL_law 7 ret meth.name c.exceptionTable.toList := ⟨hx, hb, hml, hown, fun w hw _ => hts w hw, hST, hlocks, hr, hst, rfl, rfl, Nat.le_refl _, fun q _ => rfl⟩
  have key := law_walk (e := e) (below := below) F hst hX hbl hL
  rw [lg_entry_eq]
  exact key s.heap [] _ ⟨Nat.le_refl _, fun q _ => rfl, fun n e h => (by cases h), fun n n' e e' h => (by cases h)⟩ va_S.rf (lv_entry ([.ref b]) (n := 7) (Nat.le_of_ble_eq_true rfl))
