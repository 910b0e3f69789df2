/-! new things: names that stand nowhere, and the heap after a thing came -/
def frE (n : Nat) (e : va_E) : Prop := ∀ (ad : Nat → Nat) (q : Nat), cE (va_up ad n q) e = cE ad e
def nref (n : Nat) : Value → Bool
  | .ref a => !(a == n)
  | _ => true
theorem fr_obj {n : Nat} {ci : Nat} {l : List Value} (h : l.all (nref n) = true) : frE n (.inr (ci, l)) := fun ad q => by
  have e : l.map (cV (va_up ad n q)) = l.map (cV ad) := List.map_congr_left fun v hv => cV_new (fun z => by
    have := List.all_eq_true.mp h v hv
    rw [z] at this
    simp [nref] at this)
  show (Sum.inr (ci, l.map (cV (va_up ad n q))) : va_E) = Sum.inr (ci, l.map (cV ad))
  rw [e]
theorem fr_int {n : Nat} {C : ClassId} {N : Nat} {f : Nat → Int32} : frE n (.inl (C, N, .inl f)) := fun _ _ => rfl
theorem fr_long {n : Nat} {C : ClassId} {N : Nat} {f : Nat → Int64} : frE n (.inl (C, N, .inr (.inl f))) := fun _ _ => rfl
theorem fr_arr {n : Nat} {C : ClassId} {N : Nat} {f : Nat → Option Nat} (h : ∀ j a, f j = some a → a ≠ n) : frE n (.inl (C, N, .inr (.inr (.inr (.inr f))))) := fun ad q => by
  have e : (fun j => (f j).map (va_up ad n q)) = fun j => (f j).map ad := funext fun j => by
    cases hf : f j with
    | none => rfl
    | some a => exact congrArg some (if_neg (h j a hf))
  show (Sum.inl (C, N, .inr (.inr (.inr (.inr (fun j => (f j).map (va_up ad n q)))))) : va_E) = Sum.inl (C, N, .inr (.inr (.inr (.inr (fun j => (f j).map ad)))))
  rw [e]
theorem nr_up {h : Hp} {n m : Nat} {e : va_E} (hr : noRef h n) (he : frE n e) : noRef (va_up h m (some e)) n := fun x e' hx ad q => by
  unfold va_up at hx
  by_cases hm : x = m
  · rw [if_pos hm] at hx; cases hx; exact he ad q
  · rw [if_neg hm] at hx; exact hr x e' hx ad q
theorem rarr_some {b N j a : Nat} (h : rarr b N j = some a) : j < N ∧ a = b + j := by
  unfold rarr at h
  by_cases hj : j < N
  · rw [if_pos hj] at h; cases h; exact ⟨hj, rfl⟩
  · rw [if_neg hj] at h; cases h
theorem ne_big {a n : Nat} (h0 : 9 < a) (h : a < 1000) (hn : n = 3 ∨ 1000 ≤ n) : ¬ a = n := by omega
section NRF
variable {TC : Nat → ClassId} {X S : St} {o : Nat → Int64}
theorem hall_nr {n : Nat} (hn : n = 3 ∨ 1000 ≤ n) (hnone : hall TC X S o n = none) (hb2 : cnt X 2 ≤ 6) (hb9 : cnt X 9 ≤ 12) (hb13 : cnt X 13 ≤ 10) (hb25 : cnt X 25 ≤ 5) (hb28 : cnt X 28 ≤ 40) (hbo : ∀ p, p < cnt X 13 → BO X p) : noRef (hall TC X S o) n := by
  have nn : ∀ {m : Nat} {e : va_E}, hall TC X S o m = some e → m ≠ n := fun he z => by rw [z, hnone] at he; cases he
  intro m e he
  show frE n e
  have he0 := he
  unfold hall at he
  by_cases h1 : m < 100
  · rw [if_pos h1] at he
    unfold eK0 at he
    by_cases a0 : m = 0
    · rw [if_pos a0] at he; cases he; exact fr_obj (by simp [cnfF, nref]; (repeat' apply And.intro) <;> first | exact ne_big (Nat.le_of_ble_eq_true rfl) (Nat.le_of_ble_eq_true rfl) hn)
    rw [if_neg a0] at he
    by_cases a1 : m = 1
    · rw [if_pos a1] at he; cases he; exact fr_long
    rw [if_neg a1] at he
    by_cases a2 : m = 2
    · rw [if_pos a2] at he; cases he; exact fr_obj (by simp [mfs, nref]; (repeat' apply And.intro) <;> first | exact ne_big (Nat.le_of_ble_eq_true rfl) (Nat.le_of_ble_eq_true rfl) hn)
    rw [if_neg a2] at he
    by_cases a3 : m = 10
    · rw [if_pos a3] at he; cases he
      exact fr_arr fun j a q => by obtain ⟨hj, rfl⟩ := rarr_some q; exact nn (hm_act hj hb2)
    rw [if_neg a3] at he
    by_cases a4 : m = 11
    · rw [if_pos a4] at he; cases he
      exact fr_arr fun j a q => by obtain ⟨hj, rfl⟩ := rarr_some q; exact nn (hm_std hj hb9)
    rw [if_neg a4] at he
    by_cases a5 : m = 12
    · rw [if_pos a5] at he; cases he
      exact fr_arr fun j a q => by obtain ⟨hj, rfl⟩ := rarr_some q; exact nn (hm_prd hj hb13)
    rw [if_neg a5] at he
    by_cases a6 : m = 13
    · rw [if_pos a6] at he; cases he
      exact fr_arr fun j a q => by obtain ⟨hj, rfl⟩ := rarr_some q; exact nn (hm_bod hj hb25)
    rw [if_neg a6] at he
    by_cases a7 : m = 14
    · rw [if_pos a7] at he; cases he
      exact fr_arr fun j a q => by obtain ⟨hj, rfl⟩ := rarr_some q; exact nn (hm_bat hj hb28)
    rw [if_neg a7] at he
    cases he
  rw [if_neg h1] at he
  by_cases h2 : m < 200
  · rw [if_pos h2] at he
    unfold eK1 at he
    by_cases a0 : mlen (m - 100) = 0
    · rw [if_pos a0] at he; cases he
    · rw [if_neg a0] at he; cases he; exact fr_int
  rw [if_neg h2] at he
  unfold hC at he
  by_cases g0 : m < 1000
  · rw [if_pos g0] at he; cases he
  rw [if_neg g0] at he
  by_cases g1 : m < 1100
  · rw [if_pos g1] at he
    unfold kc0 at he
    by_cases hi : m - 1000 < cnt X 2
    · rw [if_pos hi] at he; cases he; exact fr_obj rfl
    · rw [if_neg hi] at he; cases he
  rw [if_neg g1] at he
  by_cases g2 : m < 1200
  · rw [if_pos g2] at he
    unfold kc1 at he
    by_cases hi : m - 1100 < cnt X 9
    · rw [if_pos hi] at he; cases he; exact fr_obj rfl
    · rw [if_neg hi] at he; cases he
  rw [if_neg g2] at he
  by_cases g3 : m < 1300
  · rw [if_pos g3] at he
    unfold kc2 at he
    by_cases hi : m - 1200 < cnt X 13
    · rw [if_pos hi] at he; cases he
      have r1 := nn (hm_rb (TC := TC) (S := S) (o := o) hi hb13)
      have r2 := nn (hm_ra (TC := TC) (S := S) (o := o) hi hb13)
      have r3 := nn (hm_fo (TC := TC) (S := S) (o := o) hi hb13)
      by_cases hz : X 20 (m - 1200) = -1
      · exact fr_obj (by simp [prdF, nref, cert, hz]; exact ⟨r1, r2, r3⟩)
      · have hb := ((hbo _ hi).resolve_left hz).2
        have r4 := nn (hm_bod (TC := TC) (S := S) (o := o) hb hb25)
        exact fr_obj (by simp [prdF, nref, cert, hz]; exact ⟨r1, r2, r3, r4⟩)
    · rw [if_neg hi] at he; cases he
  rw [if_neg g3] at he
  by_cases g4 : m < 1400
  · rw [if_pos g4] at he
    unfold kc3 at he
    by_cases hi : m - 1300 < cnt X 25
    · rw [if_pos hi] at he; cases he; exact fr_obj rfl
    · rw [if_neg hi] at he; cases he
  rw [if_neg g4] at he
  by_cases g5 : m < 1500
  · rw [if_pos g5] at he
    unfold kc4 at he
    by_cases hi : m - 1400 < cnt X 28
    · rw [if_pos hi] at he; cases he; exact fr_obj rfl
    · rw [if_neg hi] at he; cases he
  rw [if_neg g5] at he
  by_cases g6 : m < 1600
  · rw [if_pos g6] at he
    unfold kc5 at he
    by_cases hi : m - 1500 < cnt X 13
    · rw [if_pos hi] at he; cases he; exact fr_int
    · rw [if_neg hi] at he; cases he
  rw [if_neg g6] at he
  by_cases g7 : m < 1700
  · rw [if_pos g7] at he
    unfold kc6 at he
    by_cases hi : m - 1600 < cnt X 13
    · rw [if_pos hi] at he; cases he; exact fr_int
    · rw [if_neg hi] at he; cases he
  rw [if_neg g7] at he
  by_cases g8 : m < 1800
  · rw [if_pos g8] at he
    unfold kc7 at he
    by_cases hi : m - 1700 < cnt X 13
    · rw [if_pos hi] at he; cases he; exact fr_int
    · rw [if_neg hi] at he; cases he
  rw [if_neg g8] at he
  cases he
/-- the heap after a thing came: the count and the row changed, the thing lies at its name, all else is as it was -/
theorem add_heap {X' : St} {h3 : Hp} {x a : Nat} (hx : 1000 ≤ x) (ha : 10 ≤ a ∧ a ≤ 14) (e0 : h3 0 = hall TC X' S o 0) (ea : h3 a = hall TC X' S o a) (ex : ∀ n, 1000 ≤ n → h3 n = hall TC X' S o n) (er : ∀ n, n ≠ 0 → n ≠ a → n < 1000 → h3 n = hall TC X S o n)
    (k0 : a ≠ 10 → cnt X 2 = cnt X' 2) (k1 : a ≠ 11 → cnt X 9 = cnt X' 9) (k2 : a ≠ 12 → cnt X 13 = cnt X' 13) (k3 : a ≠ 13 → cnt X 25 = cnt X' 25) (k4 : a ≠ 14 → cnt X 28 = cnt X' 28) : h3 = hall TC X' S o := by
  funext n
  by_cases h0 : n = 0
  · rw [h0]; exact e0
  by_cases h1 : n = a
  · rw [h1]; exact ea
  by_cases h2 : n < 1000
  · rw [er n h0 h1 h2]
    unfold hall
    by_cases g : n < 100
    · rw [if_pos g, if_pos g]
      unfold eK0
      rw [if_neg h0, if_neg h0]
      by_cases g1 : n = 1
      · rw [if_pos g1, if_pos g1]
      rw [if_neg g1, if_neg g1]
      by_cases g2 : n = 2
      · rw [if_pos g2, if_pos g2]
      rw [if_neg g2, if_neg g2]
      by_cases g3 : n = 10
      · rw [if_pos g3, if_pos g3, k0 (by omega)]
      rw [if_neg g3, if_neg g3]
      by_cases g4 : n = 11
      · rw [if_pos g4, if_pos g4, k1 (by omega)]
      rw [if_neg g4, if_neg g4]
      by_cases g5 : n = 12
      · rw [if_pos g5, if_pos g5, k2 (by omega)]
      rw [if_neg g5, if_neg g5]
      by_cases g6 : n = 13
      · rw [if_pos g6, if_pos g6, k3 (by omega)]
      rw [if_neg g6, if_neg g6]
      by_cases g7 : n = 14
      · rw [if_pos g7, if_pos g7, k4 (by omega)]
      rw [if_neg g7, if_neg g7]
    · rw [if_neg g, if_neg g]
      by_cases g2 : n < 200
      · rw [if_pos g2, if_pos g2]
      · rw [if_neg g2, if_neg g2]
        unfold hC
        rw [if_pos h2, if_pos h2]
  · exact ex n (by omega)
end NRF
theorem ext_up {h h0 : Hp} {x : Nat} {E : va_E} (hn : h0 x = none) (hx : ∀ n e, h0 n = some e → h n = some e) : ∀ n e, h0 n = some e → va_up h x (some E) n = some e := fun n e he => by
  have : n ≠ x := fun z => by rw [z, hn] at he; cases he
  rw [vup_ne _ _ this]
  exact hx n e he
theorem cnt_sc {X : St} {f : Nat} {v : Int32} : cnt (sU X f 0 v) f = v.toNatClampNeg := by unfold cnt sU upd; rw [if_pos rfl, if_pos rfl]
theorem cnt_inc {X : St} {f n : Nat} (h : X f 0 = nI n) (hn : n < 1000) : (X f 0 + 1).toNatClampNeg = n + 1 := by
  rw [h, show (nI n + 1 : Int32) = nI (n + 1) from (nI_succ n).symm]
  exact tn_nI (by omega)
