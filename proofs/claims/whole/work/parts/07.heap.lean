section HEAPR
variable {D : va_G} {tys : List (ClassId × FieldType)} {H0 : Heap} {p : Program} {l : Launch} {e : Env} {R : Room} {s : State} {m : MethodId} {args : Array Value} {below : List Frame} {meth : Method} {c : Code} {own : String} {cc : ByteArray} {nL : Nat} {ret : Option FieldType} {nm : String} {tb : List ExceptionTableEntry} {Q : State → Prop} {ad : Nat → Nat} {h : Hp} {cells slots pc : Nat} {lv lv' : List (Nat × Value)} {st : List Value}
variable {ci N : Nat} {C : String} {T : u_T} {ty : Nat → FieldType}
theorem FX.lay (F : FX D tys H0 p l s m args meth c own cc nL ret nm tb) (y : LY ci C T N ty) : ∀ w ∈ u_ws C T N, w.before args s = true := fun w hw => F.2.2.2.2.1 w (y.2.1 w hw).1 (y.2.1 w hw).2
theorem wa_getf (F : FX D tys H0 p l s m args meth c own cc nL ret nm tb) (y : LY ci C T N ty) {n : Nat} {fs : List Value} (he : h n = some (.inr (ci, fs))) (k : Nat) (hk : k < N) {index : Nat} (w : Cond.fieldLink own index C (T k).2.1 (T k).2.2.1 ∈ lw_tbl) {v : Value} (hv : fs[k]? = some v) (d : decode cc pc = .ok (.getfield index, 3))
    (K : WA D H0 p l e R s m args below meth c nL Q ad h cells slots (pc + 3) lv (v :: st)) : WA D H0 p l e R s m args below meth c nL Q ad h cells slots pc lv (.ref n :: st) := fun H locs ls hH hS hl =>
  va_get F.1 F.2.1 (Ts := u_ws C T N) (F.lay y) (fun _ hw => hw) F.2.2.2.1 F.2.2.2.2.2.1.1 (hH.get he) 0 (fs := fs.map (cV ad)) rfl y.1 k hk (F.2.2.2.2.1 _ w rfl) (ref := C) (fun x hx => by rw [y.2.2.2.2 k hk] at hx; exact hx) (v := cV ad v) (by rw [List.getElem?_map, hv]; rfl) d (K H locs ls hH hS hl)
theorem wa_getN (F : FX D tys H0 p l s m args meth c own cc nL ret nm tb) (y : LY ci C T N ty) {n : Nat} {fs : List Value} (he : h n = some (.inr (ci, fs))) (k : Nat) (hk : k < N) {index : Nat} {host : String} (w : Cond.fieldLinkNest own index C (T k).2.1 (T k).2.2.1 host ∈ lw_tbl) {v : Value} (hv : fs[k]? = some v) (d : decode cc pc = .ok (.getfield index, 3))
    (K : WA D H0 p l e R s m args below meth c nL Q ad h cells slots (pc + 3) lv (v :: st)) : WA D H0 p l e R s m args below meth c nL Q ad h cells slots pc lv (.ref n :: st) := fun H locs ls hH hS hl =>
  va_getN F.1 F.2.1 (Ts := u_ws C T N) (F.lay y) (fun _ hw => hw) F.2.2.2.1 F.2.2.2.2.2.1.1 (hH.get he) 0 (fs := fs.map (cV ad)) rfl y.1 k hk (va_Nw.use rfl (F.2.2.2.2.2.1.2.1 _ _ _ _ _ _ w)) (ref := C) (fun x hx => by rw [y.2.2.2.2 k hk] at hx; exact hx) (v := cV ad v) (by rw [List.getElem?_map, hv]; rfl) d (K H locs ls hH hS hl)
set_option maxHeartbeats 1000000 in
theorem wa_putf (F : FX D tys H0 p l s m args meth c own cc nL ret nm tb) (y : LY ci C T N ty) {n : Nat} {fs : List Value} (he : h n = some (.inr (ci, fs))) (k : Nat) (hk : k < N) {index : Nat} (w : Cond.fieldLink own index C (T k).2.1 (T k).2.2.1 ∈ lw_tbl) (hfin : (T k).2.2.2 = false) {v : Value} (hn : narrow (ty k) (cV ad v) = cV ad v) (hfit : fits (ty k) (cV ad v) = true) (hlen : k < fs.length) (d : decode cc pc = .ok (.putfield index, 3))
    {h' : Hp} (hh : va_up h n (some (.inr (ci, fs.set k v))) = h')
    (K : WA D H0 p l e R s m args below meth c nL Q ad h' cells slots (pc + 3) lv st) : WA D H0 p l e R s m args below meth c nL Q ad h cells slots pc lv (v :: .ref n :: st) := by
  subst hh
  intro H locs ls hH hS hl0
  have hts := F.lay y
  have hap := va_apart (own := own) hts (fun _ hw => hw) ty y.2.2.1 y.2.2.2.1 F.2.2.2.2.2.1.1 y.1
  have hq : ∃ r : vw_C, vwCl[ci]? = some r ∧ t_OB (ad n) (D.1 ci) r.2.2 (D.2 ci) H (vp_V (fs.map (cV ad))) := (hH.2.2.1 n _ he).2
  obtain ⟨r, h1, cell, q1, q2, q3, q4⟩ := hq
  have hr : r = (C, T, N) := Option.some.inj (h1.symm.trans y.1)
  subst hr
  obtain ⟨hSl, hfc, kC, hkC, hkind⟩ := F.2.2.2.2.2.1.1.1 ci _ y.1
  obtain ⟨cf, kf, fi, f, hi, hsl⟩ := hSl k hk
  have hlay := hts _ (u_in_lay hk)
  unfold u_lay at hlay
  rw [if_neg (by rw [hfin]; decide)] at hlay
  have hst := (u_facts hfc hkC (u_lays hts (fun _ hw => hw) hk) hi).1
  have h6 := u_store hfc hkC hkind hlay hi (y.2.2.1 k hk) hn hfit
  have hi' : s.fieldFound? C (T k).2.1 (T k).2.2.1 = some (cf, kf, fi, f) := by
    have e1 := y.2.2.2.2 k hk
    simp only at hi
    rw [e1] at hi
    exact hi
  refine W.putK F.1 F.2.1 (f := f) ⟨F.2.2.2.1, F.2.2.2.2.1 _ w rfl, ⟨_, _, _, hi'⟩, hst⟩ (by rw [q2]; exact h6) q1 q3 (by rw [hsl]; exact k2_hasslot (q4 k hk)) rfl rfl d fun H' e1 e2 e3 => ?_
  rw [hsl] at e1 ⊢
  refine K H' _ ls (hH.put he e2 e3 ?_) (hS.put e2 e3 (hH.2.2.1 n _ he).1) hl0
  refine ⟨_, y.1, t_OB.to (V := updV (vp_V (fs.map (cV ad))) k (cV ad v)) ⟨_, e1, q2, q3, t_set q4 hap hk _⟩ (fun j _ => ?_)⟩
  rw [vp_updV_set (by simpa using hlen) (cV ad v) j, ← List.map_set]
set_option maxHeartbeats 1000000 in
theorem wa_putN (F : FX D tys H0 p l s m args meth c own cc nL ret nm tb) (y : LY ci C T N ty) {n : Nat} {fs : List Value} (he : h n = some (.inr (ci, fs))) (k : Nat) (hk : k < N) {index : Nat} {host : String} (w : Cond.fieldLinkNest own index C (T k).2.1 (T k).2.2.1 host ∈ lw_tbl) (hfin : (T k).2.2.2 = false) {v : Value} (hn : narrow (ty k) (cV ad v) = cV ad v) (hfit : fits (ty k) (cV ad v) = true) (hlen : k < fs.length) (d : decode cc pc = .ok (.putfield index, 3))
    {h' : Hp} (hh : va_up h n (some (.inr (ci, fs.set k v))) = h')
    (K : WA D H0 p l e R s m args below meth c nL Q ad h' cells slots (pc + 3) lv st) : WA D H0 p l e R s m args below meth c nL Q ad h cells slots pc lv (v :: .ref n :: st) := by
  subst hh
  intro H locs ls hH hS hl0
  have hts := F.lay y
  have hap := va_apart (own := own) hts (fun _ hw => hw) ty y.2.2.1 y.2.2.2.1 F.2.2.2.2.2.1.1 y.1
  have hq : ∃ r : vw_C, vwCl[ci]? = some r ∧ t_OB (ad n) (D.1 ci) r.2.2 (D.2 ci) H (vp_V (fs.map (cV ad))) := (hH.2.2.1 n _ he).2
  obtain ⟨r, h1, cell, q1, q2, q3, q4⟩ := hq
  have hr : r = (C, T, N) := Option.some.inj (h1.symm.trans y.1)
  subst hr
  obtain ⟨hSl, hfc, kC, hkC, hkind⟩ := F.2.2.2.2.2.1.1.1 ci _ y.1
  obtain ⟨cf, kf, fi, f, hi, hsl⟩ := hSl k hk
  have hlay := hts _ (u_in_lay hk)
  unfold u_lay at hlay
  rw [if_neg (by rw [hfin]; decide)] at hlay
  have hst := (u_facts hfc hkC (u_lays hts (fun _ hw => hw) hk) hi).1
  have h6 := u_store hfc hkC hkind hlay hi (y.2.2.1 k hk) hn hfit
  have hi' : s.fieldFound? C (T k).2.1 (T k).2.2.1 = some (cf, kf, fi, f) := by
    have e1 := y.2.2.2.2 k hk
    simp only at hi
    rw [e1] at hi
    exact hi
  refine va_WputK F.1 F.2.1 (f := f) F.2.2.2.1 (va_Nw.use rfl (F.2.2.2.2.2.1.2.1 _ _ _ _ _ _ w)) hi' hst (by rw [q2]; exact h6) q1 q3 (by rw [hsl]; exact k2_hasslot (q4 k hk)) rfl rfl d fun H' e1 e2 e3 => ?_
  rw [hsl] at e1 ⊢
  refine K H' _ ls (hH.put he e2 e3 ?_) (hS.put e2 e3 (hH.2.2.1 n _ he).1) hl0
  refine ⟨_, y.1, t_OB.to (V := updV (vp_V (fs.map (cV ad))) k (cV ad v)) ⟨_, e1, q2, q3, t_set q4 hap hk _⟩ (fun j _ => ?_)⟩
  rw [vp_updV_set (by simpa using hlen) (cV ad v) j, ← List.map_set]
set_option maxHeartbeats 1000000 in
theorem wa_putF (F : FX D tys H0 p l s m args meth c own cc nL ret nm tb) (hin : nm = "<init>") (hown : C = own) (y : LY ci C T N ty) {n : Nat} {fs : List Value} (he : h n = some (.inr (ci, fs))) (k : Nat) (hk : k < N) {index : Nat} (w : Cond.fieldLink own index C (T k).2.1 (T k).2.2.1 ∈ lw_tbl) (hfin : (T k).2.2.2 = true) {v : Value} (hn : narrow (ty k) (cV ad v) = cV ad v) (hfit : fits (ty k) (cV ad v) = true) (hlen : k < fs.length) (d : decode cc pc = .ok (.putfield index, 3))
    {h' : Hp} (hh : va_up h n (some (.inr (ci, fs.set k v))) = h')
    (K : WA D H0 p l e R s m args below meth c nL Q ad h' cells slots (pc + 3) lv st) : WA D H0 p l e R s m args below meth c nL Q ad h cells slots pc lv (v :: .ref n :: st) := by
  subst hh
  intro H locs ls hH hS hl0
  have hts := F.lay y
  have hap := va_apart (own := own) hts (fun _ hw => hw) ty y.2.2.1 y.2.2.2.1 F.2.2.2.2.2.1.1 y.1
  have hq : ∃ r : vw_C, vwCl[ci]? = some r ∧ t_OB (ad n) (D.1 ci) r.2.2 (D.2 ci) H (vp_V (fs.map (cV ad))) := (hH.2.2.1 n _ he).2
  obtain ⟨r, h1, cell, q1, q2, q3, q4⟩ := hq
  have hr : r = (C, T, N) := Option.some.inj (h1.symm.trans y.1)
  subst hr
  obtain ⟨hSl, hfc, kC, hkC, hkind⟩ := F.2.2.2.2.2.1.1.1 ci _ y.1
  obtain ⟨cf, kf, fi, f, hi, hsl⟩ := hSl k hk
  have hlay := hts _ (u_in_lay hk)
  unfold u_lay at hlay
  rw [if_pos hfin] at hlay
  have hst := (u_facts hfc hkC (u_lays hts (fun _ hw => hw) hk) hi).1
  have hcf : m.cls = cf := by
    obtain ⟨_, _, c', _, _, _, -, -, hf', -, -, -, hown2, -⟩ := Cond.laysFinal_spec hlay
    have e1 : c' = cf := by have := hi.symm.trans hf'; simp at this; exact this.1.symm
    rw [y.2.2.2.2 k hk, hown] at hown2
    rw [← e1]; exact Option.some.inj (F.2.2.2.1.symm.trans hown2)
  have h6 := u_fits hfc hkC hkind (Or.inr hlay) hi (y.2.2.1 k hk) hn hfit
  have hi' : s.fieldFound? C (T k).2.1 (T k).2.2.1 = some (cf, kf, fi, f) := by
    have e1 := y.2.2.2.2 k hk
    simp only at hi
    rw [e1] at hi
    exact hi
  refine W.putFinK F.1 F.2.1 F.2.2.2.1 (F.2.2.2.2.1 _ w rfl) hi' hst hcf (F.2.2.2.2.2.2.2.2.2.1.trans hin) (by rw [q2]; exact h6) q1 q3 (by rw [hsl]; exact k2_hasslot (q4 k hk)) rfl rfl d fun H' e1 e2 e3 => ?_
  rw [hsl] at e1 ⊢
  refine K H' _ ls (hH.put he e2 e3 ?_) (hS.put e2 e3 (hH.2.2.1 n _ he).1) hl0
  refine ⟨_, y.1, t_OB.to (V := updV (vp_V (fs.map (cV ad))) k (cV ad v)) ⟨_, e1, q2, q3, t_set q4 hap hk _⟩ (fun j _ => ?_)⟩
  rw [vp_updV_set (by simpa using hlen) (cV ad v) j, ← List.map_set]
/-! arrays -/
theorem wa_iald (F : FX D tys H0 p l s m args meth c own cc nL ret nm tb) (t : Nat) {cI : ClassId} (ht : tys[t]? = some (cI, .int)) {a N0 : Nat} {f : Nat → Int32} (he : h a = some (.inl (cI, N0, .inl f))) {i : Int32} (k : Nat) (hi : i = nI k) (hk : k < N0) (hN : N0 < 2 ^ 31) (d : decode cc pc = .ok (.iaload, 1))
    (K : WA D H0 p l e R s m args below meth c nL Q ad h cells slots (pc + 1) lv (.int (f k) :: st)) : WA D H0 p l e R s m args below meth c nL Q ad h cells slots pc lv (.int i :: .ref a :: st) := fun H locs ls hH hS hl => by
  subst hi
  have K' := K H locs ls hH hS hl
  have e1 : (nI k).toNatClampNeg = k := nI_clamp (by omega)
  exact va_iald F.1 F.2.1 F.2.2.2.2.2.1.1 (hH.get he) 0 t (cA := cI) (n := N0) (f := f) rfl ht (vp_in_nI hk hN) d (by rw [e1]; exact K')
theorem wa_zald (F : FX D tys H0 p l s m args meth c own cc nL ret nm tb) (t : Nat) {cI : ClassId} (ht : tys[t]? = some (cI, .boolean)) {a N0 : Nat} {f : Nat → Int32} (he : h a = some (.inl (cI, N0, .inl f))) {i : Int32} (k : Nat) (hi : i = nI k) (hk : k < N0) (hN : N0 < 2 ^ 31) (d : decode cc pc = .ok (.baload, 1))
    (K : WA D H0 p l e R s m args below meth c nL Q ad h cells slots (pc + 1) lv (.int (f k) :: st)) : WA D H0 p l e R s m args below meth c nL Q ad h cells slots pc lv (.int i :: .ref a :: st) := fun H locs ls hH hS hl => by
  subst hi
  have K' := K H locs ls hH hS hl
  have e1 : (nI k).toNatClampNeg = k := nI_clamp (by omega)
  exact va_zald F.1 F.2.1 F.2.2.2.2.2.1.1 (hH.get he) 0 t (cA := cI) (n := N0) (f := f) rfl ht (vp_in_nI hk hN) d (by rw [e1]; exact K')
theorem wa_lald (F : FX D tys H0 p l s m args meth c own cc nL ret nm tb) (t : Nat) {cI : ClassId} (ht : tys[t]? = some (cI, .long)) {a N0 : Nat} {f : Nat → Int64} (he : h a = some (.inl (cI, N0, .inr (.inl f)))) {i : Int32} (k : Nat) (hi : i = nI k) (hk : k < N0) (hN : N0 < 2 ^ 31) (d : decode cc pc = .ok (.laload, 1))
    (K : WA D H0 p l e R s m args below meth c nL Q ad h cells slots (pc + 1) lv (.long (f k) :: st)) : WA D H0 p l e R s m args below meth c nL Q ad h cells slots pc lv (.int i :: .ref a :: st) := fun H locs ls hH hS hl => by
  subst hi
  have K' := K H locs ls hH hS hl
  have e1 : (nI k).toNatClampNeg = k := nI_clamp (by omega)
  exact va_lald F.1 F.2.1 F.2.2.2.2.2.1.1 (hH.get he) 0 t (cA := cI) (n := N0) (f := f) rfl ht (vp_in_nI hk hN) d (by rw [e1]; exact K')
theorem cV_rf (ad : Nat → Nat) (r : Option Nat) : va_rf (r.map ad) = cV ad (va_rf r) := by cases r <;> rfl
theorem wa_aald (F : FX D tys H0 p l s m args meth c own cc nL ret nm tb) (t : Nat) {cI : ClassId} {C0 : String} (ht : tys[t]? = some (cI, .object C0)) {a N0 : Nat} {f : Nat → Option Nat} (he : h a = some (.inl (cI, N0, .inr (.inr (.inr (.inr f)))))) {i : Int32} (k : Nat) (hi : i = nI k) (hk : k < N0) (hN : N0 < 2 ^ 31) {v : Value} (hv : va_rf (f k) = v) (d : decode cc pc = .ok (.aaload, 1))
    (K : WA D H0 p l e R s m args below meth c nL Q ad h cells slots (pc + 1) lv (v :: st)) : WA D H0 p l e R s m args below meth c nL Q ad h cells slots pc lv (.int i :: .ref a :: st) := fun H locs ls hH hS hl => by
  subst hi; subst hv
  have K' : W p l e R s m args below meth c H locs cells slots Q (F0 m (pc + 1) ls (cV ad (va_rf (f k)) :: st.map (cV ad))) := K H locs ls hH hS hl
  have e1 : (nI k).toNatClampNeg = k := nI_clamp (by omega)
  exact va_aldq F.1 F.2.1 F.2.2.2.2.2.1.1 (hH.get he) 0 t (cA := cI) (C := C0) (n := N0) (f := fun j => (f j).map ad) rfl ht (vp_in_nI hk hN) d (by rw [e1, cV_rf]; exact K')
theorem wa_alen (F : FX D tys H0 p l s m args meth c own cc nL ret nm tb) (t : Nat) {cI : ClassId} {ty0 : FieldType} (ht : tys[t]? = some (cI, ty0)) {a : Nat} {x : vp_A} (he : h a = some (.inl (cI, x))) (d : decode cc pc = .ok (.arraylength, 1))
    (K : WA D H0 p l e R s m args below meth c nL Q ad h cells slots (pc + 1) lv (.int (nI x.1) :: st)) : WA D H0 p l e R s m args below meth c nL Q ad h cells slots pc lv (.ref a :: st) := fun H locs ls hH hS hl =>
  va_alen F.1 F.2.1 F.2.2.2.2.2.1.1 (hH.get he) 0 t (cA := cI) (x := cA ad x) rfl ht (v := nI x.1) rfl d (K H locs ls hH hS hl)
theorem wa_iast (F : FX D tys H0 p l s m args meth c own cc nL ret nm tb) (t : Nat) {cI : ClassId} (ht : tys[t]? = some (cI, .int)) {a N0 : Nat} {f : Nat → Int32} (he : h a = some (.inl (cI, N0, .inl f))) {i x : Int32} (k : Nat) (hi : i = nI k) (hk : k < N0) (hN : N0 < 2 ^ 31) (d : decode cc pc = .ok (.iastore, 1))
    {h' : Hp} (hh : va_up h a (some (.inl (cI, N0, .inl (upd f k x)))) = h')
    (K : WA D H0 p l e R s m args below meth c nL Q ad h' cells slots (pc + 1) lv st) : WA D H0 p l e R s m args below meth c nL Q ad h cells slots pc lv (.int x :: .int i :: .ref a :: st) := fun H locs ls hH hS hl => by
  subst hi; subst hh
  have e1 : (nI k).toNatClampNeg = k := nI_clamp (by omega)
  have hP := hH.get he 0 _ rfl
  refine W.iast F.1 F.2.1 hP ((F.2.2.2.2.2.1.1.2 t _ ht).1 N0 (fun j => .int (f j))) (fun q => by cases q) (by show ¬ (nI k < 0 ∨ (arrV _ _ _).slots.size ≤ _); rw [arrV_size]; exact vp_in_nI hk hN) rfl rfl d fun H1 e z oq => ?_
  refine K H1 _ ls (hH.put he z oq ?_) (hS.put z oq (hH.2.2.1 a _ he).1) hl
  show H1[ad a]? = some (vp_cell cI (N0, .inl (upd f k x)))
  rw [e, e1]
  show some ((vp_cell cI (N0, .inl f)).setSlot k (.int x)) = _
  rw [vp_cell_i, vp_cell_i, arrV_store]
  congr 2
  funext q
  by_cases hq : q = k
  · subst hq
    simp [updV, upd]
  · simp [updV, upd, hq]
theorem wa_zast (F : FX D tys H0 p l s m args meth c own cc nL ret nm tb) (t : Nat) {cI : ClassId} (ht : tys[t]? = some (cI, .boolean)) {a N0 : Nat} {f : Nat → Int32} (he : h a = some (.inl (cI, N0, .inl f))) {i x : Int32} (k : Nat) (hi : i = nI k) (hk : k < N0) (hN : N0 < 2 ^ 31) (hx : narrow .boolean (.int x) = .int x) (d : decode cc pc = .ok (.bastore, 1))
    {h' : Hp} (hh : va_up h a (some (.inl (cI, N0, .inl (upd f k x)))) = h')
    (K : WA D H0 p l e R s m args below meth c nL Q ad h' cells slots (pc + 1) lv st) : WA D H0 p l e R s m args below meth c nL Q ad h cells slots pc lv (.int x :: .int i :: .ref a :: st) := fun H locs ls hH hS hl => by
  subst hi; subst hh
  have e1 : (nI k).toNatClampNeg = k := nI_clamp (by omega)
  have hP := hH.get he 0 _ rfl
  refine W.zast F.1 F.2.1 hP ((F.2.2.2.2.2.1.1.2 t _ ht).1 N0 (fun j => .int (f j))) (fun q => by cases q) (by show ¬ (nI k < 0 ∨ (arrV _ _ _).slots.size ≤ _); rw [arrV_size]; exact vp_in_nI hk hN) rfl rfl d fun H1 e z oq => ?_
  refine K H1 _ ls (hH.put he z oq ?_) (hS.put z oq (hH.2.2.1 a _ he).1) hl
  show H1[ad a]? = some (vp_cell cI (N0, .inl (upd f k x)))
  rw [e, e1, hx]
  show some ((vp_cell cI (N0, .inl f)).setSlot k (.int x)) = _
  rw [vp_cell_i, vp_cell_i, arrV_store]
  congr 2
  funext q
  by_cases hq : q = k
  · subst hq
    simp [updV, upd]
  · simp [updV, upd, hq]
theorem wa_last (F : FX D tys H0 p l s m args meth c own cc nL ret nm tb) (t : Nat) {cI : ClassId} (ht : tys[t]? = some (cI, .long)) {a N0 : Nat} {f : Nat → Int64} (he : h a = some (.inl (cI, N0, .inr (.inl f)))) {i : Int32} {x : Int64} (k : Nat) (hi : i = nI k) (hk : k < N0) (hN : N0 < 2 ^ 31) (d : decode cc pc = .ok (.lastore, 1))
    {h' : Hp} (hh : va_up h a (some (.inl (cI, N0, .inr (.inl (vp_updL f k x))))) = h')
    (K : WA D H0 p l e R s m args below meth c nL Q ad h' cells slots (pc + 1) lv st) : WA D H0 p l e R s m args below meth c nL Q ad h cells slots pc lv (.long x :: .int i :: .ref a :: st) := fun H locs ls hH hS hl => by
  subst hi; subst hh
  have e1 : (nI k).toNatClampNeg = k := nI_clamp (by omega)
  have hP := hH.get he 0 _ rfl
  refine W.last F.1 F.2.1 hP ((F.2.2.2.2.2.1.1.2 t _ ht).1 N0 (fun j => .long (f j))) (fun q => by cases q) (by show ¬ (nI k < 0 ∨ (arrV _ _ _).slots.size ≤ _); rw [arrV_size]; exact vp_in_nI hk hN) rfl rfl d fun H1 e z oq => ?_
  refine K H1 _ ls (hH.put he z oq ?_) (hS.put z oq (hH.2.2.1 a _ he).1) hl
  show H1[ad a]? = some (vp_cell cI (N0, .inr (.inl (vp_updL f k x))))
  rw [e, e1]
  show some ((vp_cell cI (N0, .inr (.inl f))).setSlot k (.long x)) = _
  rw [vp_cell_l, vp_cell_l, arrV_store]
  congr 2
  funext q
  by_cases hq : q = k
  · subst hq
    simp [updV, vp_updL]
  · simp [updV, vp_updL, hq]
set_option maxHeartbeats 1000000 in
theorem wa_aast (F : FX D tys H0 p l s m args meth c own cc nL ret nm tb) (t : Nat) {cI : ClassId} (ht : tys[t]? = some (cI, .object C)) (y : LY ci C T N ty) {a N0 : Nat} {f : Nat → Option Nat} (he : h a = some (.inl (cI, N0, .inr (.inr (.inr (.inr f)))))) {i : Int32} {n : Nat} {vs : List Value} (hv : h n = some (.inr (ci, vs))) (k : Nat) (hi : i = nI k) (hk : k < N0) (hN : N0 < 2 ^ 31) (d : decode cc pc = .ok (.aastore, 1))
    {h' : Hp} (hh : va_up h a (some (.inl (cI, N0, .inr (.inr (.inr (.inr (va_up f k (some n)))))))) = h')
    (K : WA D H0 p l e R s m args below meth c nL Q ad h' cells slots (pc + 1) lv st) : WA D H0 p l e R s m args below meth c nL Q ad h cells slots pc lv (.ref n :: .int i :: .ref a :: st) := fun H locs ls hH hS hl => by
  subst hi; subst hh
  have e1 : (nI k).toNatClampNeg = k := nI_clamp (by omega)
  have hP := hH.get he 0 _ rfl
  have hin := vp_in_nI hk hN
  have h0 : ¬ nI k < 0 := fun q => hin (Or.inl q)
  have hq : ∃ r : vw_C, vwCl[ci]? = some r ∧ t_OB (ad n) (D.1 ci) r.2.2 (D.2 ci) H (vp_V (vs.map (cV ad))) := (hH.2.2.1 n _ hv).2
  obtain ⟨r', hr', cellV, g1, g2, g3, -⟩ := hq
  have hcls := (F.2.2.2.2.2.1.1.1 ci _ y.1).2
  obtain ⟨kA, comp, k1, k2, k3, -⟩ := (F.2.2.2.2.2.1.1.2 t _ ht).2
  have hcomp : comp = D.1 ci := Option.some.inj (k3.symm.trans hcls.1)
  subst hcomp
  obtain ⟨kC, hkC, -⟩ := hcls.2
  refine W.aast F.1 F.2.1 hP (fun q h => by cases h) (fun h => by cases h) k1 k2 rfl hkC ⟨h0, by show _ < (arrV _ _ _).slots.size; rw [arrV_size, e1]; exact hk⟩ g1 (fun q h => by rw [g3] at h; cases h) (by rw [g2]; exact hkC) (by rw [g2]; exact va_assign hcls) rfl rfl d fun H1 e z oq => ?_
  refine K H1 _ ls (hH.put he z oq ?_) (hS.put z oq (hH.2.2.1 a _ he).1) hl
  show H1[ad a]? = some (vp_cell cI (N0, .inr (.inr (.inr (.inr (fun j => (va_up f k (some n) j).map ad))))))
  rw [e, e1]
  show some ((vp_cell cI (N0, .inr (.inr (.inr (.inr (fun j => (f j).map ad)))))).setSlot k (.ref (ad n))) = _
  rw [vp_cell_q, vp_cell_q, arrV_store]
  congr 2
  funext q
  by_cases hq : q = k
  · subst hq
    simp [updV, va_up, va_rf]
  · simp [updV, va_up, hq]
/-! new cells -/
theorem cV_new {ad : Nat → Nat} {n q : Nat} {v : Value} (hv : v ≠ .ref n) : cV (va_up ad n q) v = cV ad v := by
  cases v with
  | ref x =>
    have hx : x ≠ n := fun z => hv (by rw [z])
    show Value.ref (va_up ad n q x) = Value.ref (ad x)
    unfold va_up
    rw [if_neg hx]
  | _ => rfl
theorem st_new {ad : Nat → Nat} {n q : Nat} {st : List Value} (hs : ∀ v ∈ st, v ≠ .ref n) : st.map (cV (va_up ad n q)) = st.map (cV ad) := List.map_congr_left fun v hv => cV_new (hs v hv)
theorem lv_new {ad : Nat → Nat} {n q : Nat} {lv : List (Nat × Value)} (hs : ∀ v ∈ lv, v.2 ≠ .ref n) : lv.map (cL (va_up ad n q)) = lv.map (cL ad) := List.map_congr_left fun v hv => by unfold cL; rw [cV_new (hs v hv)]
theorem wa_new (F : FX D tys H0 p l s m args meth c own cc nL ret nm tb) (y : LY ci C T N ty) (n : Nat) {index : Nat} (w1 : Cond.classLink own index C ∈ lw_tbl) (w2 : Cond.instantiable C N ∈ lw_tbl) (w3 : Cond.initialized C ∈ lw_tbl) (hn : h n = none) (hr : noRef h n) {fs : List Value} (hfs : ∀ j, j < N → defaultValue (ty j) = vp_V fs j) (hfd : ∀ ad', fs.map (cV ad') = fs) (hc : cells + 1 ≤ R.cells) (hs : slots + N ≤ R.slots)
    (hlv : ∀ v ∈ lv, v.2 ≠ .ref n) (hst : ∀ v ∈ st, v ≠ .ref n) (d : decode cc pc = .ok (.new index, 3))
    {h' : Hp} (hh : va_up h n (some (.inr (ci, fs))) = h')
    (K : ∀ q, WA D H0 p l e R s m args below meth c nL Q (va_up ad n q) h' (cells + 1) (slots + N) (pc + 3) lv (.ref n :: st)) : WA D H0 p l e R s m args below meth c nL Q ad h cells slots pc lv st := fun H locs ls hH hS hl => by
  subst hh
  have hKn := F.2.2.2.2.2.1.1.1 ci _ y.1
  refine W.newcK F.1 F.2.1 F.2.2.2.1 (F.2.2.2.2.1 _ w1 rfl) (F.2.2.2.2.1 _ w2 rfl) (F.2.2.2.2.1 _ w3 rfl) rfl d hc hs hKn.2.1 rfl fun H1 kC hkC e1 z1 o1 => ?_
  have K' := K H.size H1 locs ls (hH.new hn hr z1 o1 ?_) ⟨Nat.le_trans hS.1 (by omega), fun x h1 h2 => (o1 x (Nat.lt_of_lt_of_le h1 hS.1)).trans (hS.2.1 x h1 h2), hS.2.2⟩ (by rw [lv_new hlv]; exact hl)
  · have e2 : (Value.ref n :: st).map (cV (va_up ad n H.size)) = .ref H.size :: st.map (cV ad) := by
      rw [List.map_cons, st_new hst]
      show Value.ref (va_up ad n H.size n) :: _ = _
      unfold va_up
      rw [if_pos rfl]
    rw [e2] at K'
    exact K'
  · refine ⟨_, y.1, ?_⟩
    show t_OB H.size (D.1 ci) N (D.2 ci) H1 (vp_V (fs.map (cV (va_up ad n H.size))))
    rw [hfd]
    exact (u_born ty (F.lay y) (fun _ hw => hw) hKn hkC e1 y.2.2.1).to hfs
theorem wa_newa (F : FX D tys H0 p l s m args meth c own cc nL ret nm tb) (t : Nat) {cI : ClassId} {ty0 : FieldType} (ht : tys[t]? = some (cI, ty0)) (atype : ArrayType) (hty : newarray.typeOf atype = ty0) (hpr : va_RA s cI ty0 = (s.vm.findClass ("[" ++ ty0.toString) = some cI)) (n : Nat) (w1 : Cond.arrayClass ty0 ∈ lw_tbl) (hn : h n = none) (hr : noRef h n) {i : Int32} {N0 : Nat} {a0 : vp_A} (ha : ∀ cX : ClassId, vp_cell cX a0 = arrV cX N0 (fun _ => defaultValue ty0)) (had : ∀ ad', cA ad' a0 = a0) (hi : i = nI N0) (hN : N0 * componentBytes ty0 ≤ 536870912) (hN2 : N0 < 2 ^ 31) (hc : cells + 1 ≤ R.cells) (hs : slots + N0 ≤ R.slots)
    (hlv : ∀ v ∈ lv, v.2 ≠ .ref n) (hst : ∀ v ∈ st, v ≠ .ref n) (d : decode cc pc = .ok (.newarray atype, 2))
    {h' : Hp} (hh : va_up h n (some (.inl (cI, a0))) = h')
    (K : ∀ q, WA D H0 p l e R s m args below meth c nL Q (va_up ad n q) h' (cells + 1) (slots + N0) (pc + 2) lv (.ref n :: st)) : WA D H0 p l e R s m args below meth c nL Q ad h cells slots pc lv (.int i :: st) := fun H locs ls hH hS hl => by
  subst hh; subst hi; subst hty
  refine va_newaK F.1 F.2.1 (F.2.2.2.2.1 _ w1 rfl) rfl d rfl (nI_pos hN2) (nI_clamp hN2) hN hc hs rfl fun H1 cX e1 z1 o1 hAr hNm => ?_
  have hcx : cX = cI := by
    have := (F.2.2.2.2.2.1.1.2 t _ ht).2
    rw [hpr] at this
    exact Option.some.inj (hNm.symm.trans this)
  subst hcx
  have K' := K H.size H1 locs ls (hH.new hn hr z1 o1 ?_) ⟨Nat.le_trans hS.1 (by omega), fun x h1 h2 => (o1 x (Nat.lt_of_lt_of_le h1 hS.1)).trans (hS.2.1 x h1 h2), hS.2.2⟩ (by rw [lv_new hlv]; exact hl)
  · have e2 : (Value.ref n :: st).map (cV (va_up ad n H.size)) = .ref H.size :: st.map (cV ad) := by
      rw [List.map_cons, st_new hst]
      show Value.ref (va_up ad n H.size n) :: _ = _
      unfold va_up
      rw [if_pos rfl]
    rw [e2] at K'
    exact K'
  · show H1[H.size]? = some (vp_cell cX (cA (va_up ad n H.size) a0))
    rw [had, ha]
    exact e1
theorem wa_newq (F : FX D tys H0 p l s m args meth c own cc nL ret nm tb) (t : Nat) {cI : ClassId} {C0 : String} (ht : tys[t]? = some (cI, .object C0)) (n : Nat) {index : Nat} (w1 : Cond.classLink own index C0 ∈ lw_tbl) (w2 : Cond.arrayOver (.object C0) ∈ lw_tbl) (hn : h n = none) (hr : noRef h n) {i : Int32} {N0 : Nat} (hi : i = nI N0) (hN : N0 * 4 ≤ 536870912) (hN2 : N0 < 2 ^ 31) (hc : cells + 1 ≤ R.cells) (hs : slots + N0 ≤ R.slots)
    (hlv : ∀ v ∈ lv, v.2 ≠ .ref n) (hst : ∀ v ∈ st, v ≠ .ref n) (d : decode cc pc = .ok (.anewarray index, 3))
    {h' : Hp} (hh : va_up h n (some (.inl (cI, N0, .inr (.inr (.inr (.inr (fun _ => none))))))) = h')
    (K : ∀ q, WA D H0 p l e R s m args below meth c nL Q (va_up ad n q) h' (cells + 1) (slots + N0) (pc + 3) lv (.ref n :: st)) : WA D H0 p l e R s m args below meth c nL Q ad h cells slots pc lv (.int i :: st) := fun H locs ls hH hS hl => by
  subst hh; subst hi
  have hcl : (nI N0).toNatClampNeg = N0 := nI_clamp hN2
  refine W.anew F.1 F.2.1 F.2.2.2.1 (F.2.2.2.2.1 _ w1 rfl) (va_AO.use (F.2.2.2.2.2.1.2.2.2.1 _ w2)) rfl d rfl (nI_pos hN2) (by rw [hcl]; exact hN) hc (by rw [hcl]; exact hs) fun cX kA comp f1 f2 f3 f4 => ?_
  rw [hcl]
  generalize hH1 : H.push ({ cls := cX, slots := Array.replicate N0 .null, vm := .none } : Cell) = H1
  have z1 : H1.size = H.size + 1 := by rw [← hH1, Array.size_push]
  have e1 : H1[H.size]? = some (arrV cX N0 (fun _ => .null)) := by rw [← hH1, Array.getElem?_push_size, ← arrV_new]
  have o1 : ∀ q : Nat, q < H.size → H1[q]? = H[q]? := fun q hq => by rw [← hH1, Array.getElem?_push, if_neg (Nat.ne_of_lt hq)]
  have hcx : cX = cI := by
    obtain ⟨_, _, _, _, _, h9⟩ := (F.2.2.2.2.2.1.1.2 t _ ht).2
    exact Option.some.inj (f1.symm.trans h9)
  subst hcx
  have K' := K H.size H1 locs ls (hH.new hn hr z1 o1 ?_) ⟨Nat.le_trans hS.1 (by omega), fun x h1 h2 => (o1 x (Nat.lt_of_lt_of_le h1 hS.1)).trans (hS.2.1 x h1 h2), hS.2.2⟩ (by rw [lv_new hlv]; exact hl)
  · have e2 : (Value.ref n :: st).map (cV (va_up ad n H.size)) = .ref H.size :: st.map (cV ad) := by
      rw [List.map_cons, st_new hst]
      show Value.ref (va_up ad n H.size n) :: _ = _
      unfold va_up
      rw [if_pos rfl]
    rw [e2] at K'
    exact K'
  · show H1[H.size]? = some (vp_cell cX (N0, .inr (.inr (.inr (.inr (fun _ => none))))))
    rw [vp_cell_q]
    exact e1
end HEAPR
