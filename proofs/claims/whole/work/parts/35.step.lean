/-! one call of the law: the state after it -/
def AG (X Y : St) : Prop := ∀ g, g ≠ 0 → g ≠ 8 → X g = Y g
theorem hall_ag {TC : Nat → ClassId} {X Y S : St} {o : Nat → Int64} (h : AG X Y) : hall TC X S o = hall TC Y S o := by
  have c : ∀ g, g ≠ 0 → g ≠ 8 → cnt X g = cnt Y g := fun g h1 h2 => by unfold cnt; rw [h g h1 h2]
  have m : ∀ {l : List Nat}, l.all (fun g => g != 0 && g != 8) = true → ∀ g, g ∈ l → X g = Y g := fun hl g hg => by
    have := List.all_eq_true.mp hl g hg
    simp at this
    exact h g this.1 this.2
  funext n
  refine hall_eq ?_ (c 2 (by decide) (by decide)) (c 9 (by decide) (by decide)) (c 13 (by decide) (by decide)) (c 25 (by decide) (by decide)) (c 28 (by decide) (by decide)) n (fun _ _ => kc0_of (m rfl)) (fun _ _ => kc1_of (m rfl)) (fun _ _ => kc2_of (m rfl)) (fun _ _ => kc3_of (m rfl)) (fun _ _ => kc4_of (m rfl)) (fun _ _ => kc5_of (m rfl)) (fun _ _ => kc6_of (m rfl)) (fun _ _ => kc7_of (m rfl))
  unfold cnfF
  rw [h 1 (by decide) (by decide), h 2 (by decide) (by decide), h 9 (by decide) (by decide), h 13 (by decide) (by decide), h 25 (by decide) (by decide), h 28 (by decide) (by decide)]
theorem ag_0 {X : St} {w : Int32} : AG X (sU X 0 0 w) := fun _ h1 _ => (sU_ne h1).symm
theorem if1 {c : Prop} [Decidable c] {x y : Int32} (hy : ¬ y = 0) (h : (if c then x else y) = 0) : c ∧ x = 0 := by
  by_cases hc : c
  · rw [if_pos hc] at h; exact ⟨hc, h⟩
  · rw [if_neg hc] at h; exact absurd h hy
theorem if2 {c : Prop} [Decidable c] {x y : Int32} (hx : ¬ x = 0) (h : (if c then x else y) = 0) : ¬ c ∧ y = 0 := by
  by_cases hc : c
  · rw [if_pos hc] at h; exact absurd h hx
  · rw [if_neg hc] at h; exact ⟨hc, h⟩
theorem and2 {a b : Bool} (h : (a && b) = true) : a = true ∧ b = true := by simpa using h
/-- what the reference's state becomes -/
theorem mS_eq {k : Int32} {S : St} {u : St → St} (h : ∀ w, u (sU S 0 0 w) = sU (u S) 0 0 w) : mS k S u = sU (kU k u S) 0 0 k := by
  by_cases hk : k = 0
  · subst hk; rw [mS_0, kU_0, h]
  · rw [mS_n hk, kU_n hk]
theorem kU_id {k : Int32} {S : St} : kU k (fun Y => Y) S = S := by
  by_cases hk : k = 0
  · subst hk; rw [kU_0]
  · rw [kU_n hk]
theorem mS_id {k : Int32} {S : St} : mS k S id = sU S 0 0 k := by
  by_cases hk : k = 0
  · subst hk; rw [mS_0]; rfl
  · rw [mS_n hk]
section STEP
variable {n : Nat} {S : St}
theorem st_of {k : Int32} {u : St → St} (h : INV n S) (hk : k = 0 → INV (n + 1) (u S)) : INV (n + 1) (kU k u S) := by
  by_cases e : k = 0
  · rw [e, kU_0]; exact hk e
  · rw [kU_n e]; exact INV_up h
theorem bd {f N : Nat} (h : CN S f N) (hN : N ≤ 40) : cnt S f ≤ 1000 := by have := h.2; omega
theorem st_act {a b q d : Int32} (h : INV n S) : INV (n + 1) (kU (kAct S a b q d) (uAct a b q d) S) := st_of h fun hk => by
  obtain ⟨c, hk⟩ := if1 (by decide) hk
  obtain ⟨z, _⟩ := if2 (by decide) hk
  obtain ⟨_, c⟩ := and2 c; obtain ⟨_, c⟩ := and2 c; obtain ⟨c, _⟩ := and2 c
  have := sIn_le c (show (1 : Int32).toInt = 1 from rfl) (show (255 : Int32).toInt = 255 from rfl)
  exact iv_act h (cn_full (cn2 h) rfl z) (by omega)
theorem st_special {a b : Int32} (h : INV n S) : INV (n + 1) (kU (kSpc S a b) (uSpc a b) (sSpc S a b)) := by
  have h1 : INV n (sSpc S a b) := by
    unfold sSpc
    split
    · split
      · exact h
      · exact INV_reach _ h
    · exact h
  have hc : cnt (sSpc S a b) 2 = cnt S 2 := by
    unfold sSpc
    split
    · split
      · rfl
      · unfold cnt; rw [uReach_ne (by decide)]
    · rfl
  by_cases e : kSpc S a b = 0
  · rw [e, kU_0]
    obtain ⟨c, _⟩ := if1 (by decide) e
    obtain ⟨c1, c2⟩ := and2 c
    exact iv_special h1 (by rw [hc]; exact sIn_tn (cn2 h).1 (bd (cn2 h) (by decide)) c1) (by rw [hc]; exact sIn_tn (cn2 h).1 (bd (cn2 h) (by decide)) c2)
  · rw [kU_n e]; exact INV_up h1
theorem st_standard {a b : Int32} (h : INV n S) : INV (n + 1) (kU (kStd S a b) (uStd a b) S) := st_of h fun hk => by
  obtain ⟨_, hk⟩ := if1 (by decide) hk
  exact iv_standard h (cn_full (cn9 h) rfl (if2 (by decide) hk).1)
theorem st_withdraw {v b : Int32} (h : INV n S) : INV (n + 1) (kU (kWd S v b) (uWd v b) S) := st_of h fun hk => iv_withdraw h (if1 (by decide) (if1 (by decide) hk).2).1
theorem st_restrict {v b : Int32} (h : INV n S) : INV (n + 1) (kU (kRs S v b) (uRs v b) S) := st_of h fun _ => iv_restrict h
theorem st_product {b : Int32} (h : INV n S) : INV (n + 1) (kU (kPr S b) (uPr b) S) := st_of h fun hk => iv_product h (cn_full (cn13 h) rfl (if2 (by decide) (if1 (by decide) hk).2).1)
theorem st_change {v b : Int32} (h : INV n S) : INV (n + 1) (kU (kCh S v b) (uCh v b) S) := st_of h fun hk => iv_change h (sIn_tn (cn13 h).1 (bd (cn13 h) (by decide)) (if1 (by decide) hk).1)
theorem st_risk {v z q d : Int32} (h : INV n S) : INV (n + 1) (kU (kRk S v z q d) (uRk v z q d) S) := st_of h fun hk => by
  obtain ⟨c, hk⟩ := if1 (by decide) hk
  obtain ⟨c1, c2⟩ := and2 c
  obtain ⟨c, _⟩ := if1 (by decide) hk
  obtain ⟨c3, c4⟩ := and2 c
  have b3 := sIn_le c3 (show (0 : Int32).toInt = 0 from rfl) (show (9 : Int32).toInt = 9 from rfl)
  have b4 := sIn_le c4 (show (0 : Int32).toInt = 0 from rfl) rfl
  obtain ⟨j, hj, rfl⟩ := sIn_lit (n := 7) (by decide) c2
  have e : tn (nI j) = j := tn_nI (by omega)
  exact iv_risk h (sIn_tn (cn13 h).1 (bd (cn13 h) (by decide)) c1) (by omega) b3 (by omega)
theorem st_follow {v t b : Int32} (h : INV n S) : INV (n + 1) (kU (kFo S v t b) (uFo v t b) S) := st_of h fun hk => by
  obtain ⟨c1, c2⟩ := and2 (if1 (by decide) hk).1
  exact iv_follow h (sIn_tn (cn13 h).1 (bd (cn13 h) (by decide)) c1) (sIn_tn (cn9 h).1 (bd (cn9 h) (by decide)) c2)
theorem st_prove {v b : Int32} (h : INV n S) : INV (n + 1) (kU (kPv S v b) (uPv v b) S) := st_of h fun hk => iv_prove h (sIn_tn (cn13 h).1 (bd (cn13 h) (by decide)) (if1 (by decide) hk).1)
theorem st_declare {v : Int32} (h : INV n S) : INV (n + 1) (kU (kDc S v) (uDc v) S) := st_of h fun _ => iv_declare h
theorem st_body {b : Int32} (h : INV n S) : INV (n + 1) (kU (kBo S b) (uBo b) S) := st_of h fun hk => iv_body h (cn_full (cn25 h) rfl (if2 (by decide) (if1 (by decide) hk).2).1)
theorem st_suspend {v : Int32} {q : Bool} (h : INV n S) : INV (n + 1) (kU (kSu S v) (uSu v q) S) := st_of h fun _ => iv_suspend h
theorem st_certify {b v d : Int32} (h : INV n S) : INV (n + 1) (kU (kCe S b v d) (uCe b v d) S) := st_of h fun hk => iv_certify h (and2 (if1 (by decide) hk).1).1
theorem st_transfer {v b : Int32} (h : INV n S) : INV (n + 1) (kU (kTr S v b) (uTr v b) S) := st_of h fun hk => iv_transfer h (and2 (if1 (by decide) hk).1).2
theorem st_visit {v : Int32} {q : Bool} (h : INV n S) : INV (n + 1) (kU (kVi S v) (uVi v q) S) := st_of h fun hk => iv_visit h (sIn_tn (cn13 h).1 (bd (cn13 h) (by decide)) (if1 (y := 1) (by decide) hk).1)
theorem st_place {v b : Int32} (h : INV n S) : INV (n + 1) (kU (kPl S v b) (uPl v b) S) := st_of h fun hk => by
  obtain ⟨_, hk⟩ := if1 (by decide) hk
  obtain ⟨c, hk⟩ := if1 (by decide) hk
  obtain ⟨c2, _⟩ := if1 (by decide) hk
  have := sIn_le c (show (1 : Int32).toInt = 1 from rfl) (show (10000 : Int32).toInt = 10000 from rfl)
  exact iv_arr h (cn_full (cn28 h) rfl c2.2) (by omega)
theorem st_post {v b : Int32} (h : INV n S) : INV (n + 1) (kU (kPo S v b) (uPo v b) S) := st_of h fun hk => by
  obtain ⟨_, hk⟩ := if1 (by decide) hk
  obtain ⟨c, hk⟩ := if1 (by decide) hk
  obtain ⟨c2, _⟩ := if2 (by decide) hk
  have := sIn_le c (show (1 : Int32).toInt = 1 from rfl) (show (10000 : Int32).toInt = 10000 from rfl)
  exact iv_arr h (cn_full (cn28 h) rfl c2) (by omega)
theorem st_sample {v m t d : Int32} (h : INV n S) : INV (n + 1) (kU (kSa S v m t d) (uSa v m t d) S) := st_of h fun _ => iv_sample h
theorem st_event {v g b : Int32} (h : INV n S) (hn : n < 512) : INV (n + 1) (kU (kEv S v g b) (uEv v g b) S) := st_of h fun hk => by
  obtain ⟨c, hk⟩ := if1 (by decide) hk
  have := sIn_le (and2 (if1 (by decide) hk).1).2 (show (1 : Int32).toInt = 1 from rfl) (show (1000 : Int32).toInt = 1000 from rfl)
  exact iv_event h (sIn_tn (cn28 h).1 (bd (cn28 h) (by decide)) c) this hn
theorem st_recall {v a b : Int32} (h : INV n S) : INV (n + 1) (kU (kRc S v a b) (uRc v a b) S) := st_of h fun hk => by
  obtain ⟨_, c⟩ := and2 (if1 (by decide) hk).1
  exact iv_recall h (and2 c).1 (and2 c).2
theorem st_ban {w v : Int32} {q : Bool} (h : INV n S) : INV (n + 1) (kU (kBa S w v) (uBa w v q) S) := st_of h fun hk => by
  obtain ⟨c1, c2⟩ := and2 (if1 (y := 1) (by decide) hk).1
  exact iv_ban h c1 (sIn_tn (cn13 h).1 (bd (cn13 h) (by decide)) c2)
theorem st_pass {d : Int32} (h : INV n S) : INV (n + 1) (kU (kPa S d) (uPa d) S) := st_of h fun hk => by
  obtain ⟨c, hk⟩ := if1 (by decide) hk
  exact iv_pass h c (if1 (by decide) hk).1
/-! the calls don't read what the reference keeps of the last exception -/
variable {w0 : Int32}
theorem z0 {g : Nat} (h : g ≠ 0) : sU S 0 0 w0 g = S g := sU_ne h
theorem zc {g : Nat} (h : g ≠ 0) : cnt (sU S 0 0 w0) g = cnt S g := by unfold cnt; rw [z0 h]
theorem sc {g j : Nat} {v : Int32} (h : 0 ≠ g) : sU (sU S 0 0 w0) g j v = sU (sU S g j v) 0 0 w0 := sU_comm h
theorem c0_act {a b q d : Int32} : uAct a b q d (sU S 0 0 w0) = sU (uAct a b q d S) 0 0 w0 := by
  unfold uAct; rw [zc (by decide), z0 (g := 2) (by decide), sc (by decide), sc (by decide), sc (by decide), sc (by decide), sc (by decide)]
theorem c0_special {a b : Int32} : uSpc a b (sU S 0 0 w0) = sU (uSpc a b S) 0 0 w0 := by unfold uSpc; rw [sc (by decide)]
theorem c0_standard {a b : Int32} : uStd a b (sU S 0 0 w0) = sU (uStd a b S) 0 0 w0 := by
  unfold uStd; rw [zc (by decide), z0 (g := 9) (by decide), sc (by decide), sc (by decide), sc (by decide), sc (by decide)]
theorem c0_withdraw {v b : Int32} : uWd v b (sU S 0 0 w0) = sU (uWd v b S) 0 0 w0 := by unfold uWd; rw [sc (by decide)]
theorem c0_restrict {v b : Int32} : uRs v b (sU S 0 0 w0) = sU (uRs v b S) 0 0 w0 := by unfold uRs; rw [z0 (g := 10) (by decide), sc (by decide)]
theorem c0_product {b : Int32} : uPr b (sU S 0 0 w0) = sU (uPr b S) 0 0 w0 := by
  unfold uPr; rw [zc (by decide), z0 (g := 13) (by decide), sc (by decide), sc (by decide), sc (by decide), sc (by decide), sc (by decide), sc (by decide)]
theorem c0_change {v b : Int32} : uCh v b (sU S 0 0 w0) = sU (uCh v b S) 0 0 w0 := by
  unfold uCh; rw [z0 (g := 14) (by decide)]
  by_cases e : S 14 (tn v) = b
  · rw [if_pos e, if_pos e]
  · rw [if_neg e, if_neg e, sc (by decide), next_comm (by decide)]
theorem c0_risk {v z q d : Int32} : uRk v z q d (sU S 0 0 w0) = sU (uRk v z q d S) 0 0 w0 := by
  unfold uRk; rw [z0 (g := 16) (by decide), z0 (g := 17) (by decide)]
  by_cases e : q ≤ S 16 (8 * tn v + tn z) ∧ d ≤ S 17 (8 * tn v + tn z)
  · rw [if_pos e, if_pos e, sc (by decide), sc (by decide)]
  · rw [if_neg e, if_neg e, next_comm (by decide), sc (by decide), sc (by decide)]
theorem c0_follow {v t b : Int32} : uFo v t b (sU S 0 0 w0) = sU (uFo v t b S) 0 0 w0 := by unfold uFo; rw [sc (by decide)]
theorem c0_prove {v b : Int32} : uPv v b (sU S 0 0 w0) = sU (uPv v b S) 0 0 w0 := by unfold uPv; rw [z0 (g := 19) (by decide), sc (by decide)]
theorem c0_declare {v : Int32} : uDc v (sU S 0 0 w0) = sU (uDc v S) 0 0 w0 := by unfold uDc; rw [z0 (g := 1) (by decide), sc (by decide)]
theorem c0_body {b : Int32} : uBo b (sU S 0 0 w0) = sU (uBo b S) 0 0 w0 := by
  unfold uBo; rw [zc (by decide), z0 (g := 25) (by decide), sc (by decide), sc (by decide), sc (by decide)]
theorem c0_suspend {v : Int32} {q : Bool} : uSu v q (sU S 0 0 w0) = sU (uSu v q S) 0 0 w0 := by unfold uSu; rw [z0 (g := 27) (by decide), z0 (g := 1) (by decide), sc (by decide)]
theorem c0_certify {b v d : Int32} : uCe b v d (sU S 0 0 w0) = sU (uCe b v d S) 0 0 w0 := by unfold uCe; rw [z0 (g := 1) (by decide), sc (by decide), sc (by decide)]
theorem c0_transfer {v b : Int32} : uTr v b (sU S 0 0 w0) = sU (uTr v b S) 0 0 w0 := by unfold uTr; rw [sc (by decide)]
theorem c0_visit {v : Int32} {q : Bool} : uVi v q (sU S 0 0 w0) = sU (uVi v q S) 0 0 w0 := by
  have e : eVi (sU S 0 0 w0) v q = eVi S v q := by unfold eVi; rw [z0 (g := 20) (by decide)]
  unfold uVi; rw [e, z0 (g := 20) (by decide), z0 (g := 21) (by decide), z0 (g := 22) (by decide), z0 (g := 1) (by decide), sc (by decide), sc (by decide), sc (by decide)]
theorem c0_arr {o : Nat} {m w : Int32} : uArr o m w (sU S 0 0 w0) = sU (uArr o m w S) 0 0 w0 := by
  unfold uArr; rw [zc (by decide), z0 (g := 1) (by decide), z0 (g := 15) (by decide), z0 (g := 28) (by decide), sc (by decide), sc (by decide), sc (by decide), sc (by decide), sc (by decide), sc (by decide), sc (by decide)]
theorem c0_place {v b : Int32} : uPl v b (sU S 0 0 w0) = sU (uPl v b S) 0 0 w0 := c0_arr
theorem c0_post {v b : Int32} : uPo v b (sU S 0 0 w0) = sU (uPo v b S) 0 0 w0 := by unfold uPo; rw [sWant_0, c0_arr]
theorem c0_sample {v m t d : Int32} : uSa v m t d (sU S 0 0 w0) = sU (uSa v m t d S) 0 0 w0 := by unfold uSa; rw [sc (by decide)]
theorem c0_event {v g b : Int32} : uEv v g b (sU S 0 0 w0) = sU (uEv v g b S) 0 0 w0 := by unfold uEv; rw [z0 (g := 36) (by decide), z0 (g := 37) (by decide), sc (by decide), sc (by decide)]
theorem c0_rc {v : Int32} {a : Nat} : ∀ c, rcU (sU S 0 0 w0) v a c = sU (rcU S v a c) 0 0 w0
  | 0 => rfl
  | c + 1 => by
    have e : ∀ k, rcF (sU (rcU S v a c) 0 0 w0) v k = rcF (rcU S v a c) v k := fun k => by unfold rcF; rw [sU_ne (by decide), sU_ne (by decide)]
    rw [rcU_s, rcU_s, c0_rc c, e, sU_ne (f := 0) (g := 34) (by decide), sU_comm (f := 0) (g := 34) (by decide)]
theorem c0_recall {v a b : Int32} : uRc v a b (sU S 0 0 w0) = sU (uRc v a b S) 0 0 w0 := c0_rc _
theorem c0_ban {w v : Int32} {q : Bool} : uBa w v q (sU S 0 0 w0) = sU (uBa w v q S) 0 0 w0 := by
  have e : nBa (sU S 0 0 w0) w v q = nBa S w v q := by unfold nBa; rw [z0 (g := 24) (by decide)]
  unfold uBa; rw [e, sc (by decide)]
theorem c0_pass {d : Int32} : uPa d (sU S 0 0 w0) = sU (uPa d S) 0 0 w0 := by unfold uPa; rw [z0 (g := 1) (by decide), sc (by decide)]
end STEP
theorem ag_spc {S : St} {a b k : Int32} : AG (kU k (uSpc a b) S) (sU (kU k (uSpc a b) (sSpc S a b)) 0 0 k) := by
  have h1 : AG S (sSpc S a b) := fun g _ h8 => by
    unfold sSpc
    split
    · split
      · rfl
      · exact (uReach_ne h8).symm
    · rfl
  intro g g0 g8
  rw [sU_ne g0]
  by_cases e : k = 0
  · subst e
    rw [kU_0, kU_0]
    unfold uSpc sU
    by_cases g7 : g = 7
    · subst g7; rw [if_pos rfl, if_pos rfl, h1 7 (by decide) (by decide)]
    · rw [if_neg g7, if_neg g7]; exact h1 g g0 g8
  · rw [kU_n e, kU_n e]; exact h1 g g0 g8
