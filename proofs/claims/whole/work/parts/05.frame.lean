/-! the abstract heap: names (numbers) for the law's own cells; ad says at which address a name lies -/
abbrev Hp : Type := Nat → Option va_E
def cV (ad : Nat → Nat) : Value → Value
  | .ref n => .ref (ad n)
  | v => v
def cL (ad : Nat → Nat) (q : Nat × Value) : Nat × Value := (q.1, cV ad q.2)
def cA (ad : Nat → Nat) (a : vp_A) : vp_A := (a.1, match a.2 with
  | .inl f => .inl f
  | .inr (.inl f) => .inr (.inl f)
  | .inr (.inr (.inl f)) => .inr (.inr (.inl f))
  | .inr (.inr (.inr (.inl f))) => .inr (.inr (.inr (.inl f)))
  | .inr (.inr (.inr (.inr f))) => .inr (.inr (.inr (.inr (fun j => (f j).map ad)))))
def cE (ad : Nat → Nat) : va_E → va_E
  | .inl x => .inl (x.1, cA ad x.2)
  | .inr x => .inr (x.1, x.2.map (cV ad))
theorem cat_cV (ad : Nat → Nat) (v : Value) : (cV ad v).category = v.category := by cases v <;> rfl
theorem wa_at {ad : Nat → Nat} {lv : List (Nat × Value)} {j : Nat} {q : Nat × Value} (h : lv[j]? = some q) : (lv.map (cL ad))[j]? = some (cL ad q) := by
  rw [List.getElem?_map, h]; rfl
def lvP (i : Nat) (q : Nat × Value) : Bool := !(q.1 == i) && !(q.1 + 1 == i && q.2.category == 2)
def lvP2 (i : Nat) (q : Nat × Value) : Bool := !(q.1 == i) && (!(q.1 == i + 1) && !(q.1 + 1 == i && q.2.category == 2))
theorem filt_map (ad : Nat → Nat) (P : Nat × Value → Bool) (hP : ∀ q, P (cL ad q) = P q) (lv : List (Nat × Value)) : (lv.map (cL ad)).filter P = (lv.filter P).map (cL ad) := by
  induction lv with
  | nil => rfl
  | cons q t ih =>
    rw [List.map_cons, List.filter_cons, List.filter_cons, hP, ih]
    split <;> rfl
theorem st_lv {ad : Nat → Nat} {lv lv' : List (Nat × Value)} {i : Nat} {v : Value} (h : (i, v) :: lv.filter (lvP i) = lv') :
    (i, cV ad v) :: (lv.map (cL ad)).filter (fun q => !(q.1 == i) && !(q.1 + 1 == i && q.2.category == 2)) = lv'.map (cL ad) := by
  subst h
  rw [List.map_cons]
  congr 1
  exact filt_map ad (lvP i) (fun q => by unfold lvP cL; rw [cat_cV]) lv
theorem st_lv2 {ad : Nat → Nat} {lv lv' : List (Nat × Value)} {i : Nat} {v : Value} (h : (i, v) :: lv.filter (lvP2 i) = lv') :
    (i, cV ad v) :: (lv.map (cL ad)).filter (fun q => !(q.1 == i) && (!(q.1 == i + 1) && !(q.1 + 1 == i && q.2.category == 2))) = lv'.map (cL ad) := by
  subst h
  rw [List.map_cons]
  congr 1
  exact filt_map ad (lvP2 i) (fun q => by unfold lvP2 cL; rw [cat_cV]) lv
def hA0 (H0 : Heap) : Nat → Prop := fun q => H0.size ≤ q
/-- the heap holds the abstract one; what was there at the law's start is as it was -/
def HP (D : va_G) (H0 : Heap) (ad : Nat → Nat) (h : Hp) (H : Heap) : Prop :=
  H0.size ≤ H.size ∧ (∀ q : Nat, q < H0.size → H[q]? = H0[q]?) ∧ (∀ n e, h n = some e → H0.size ≤ ad n ∧ va_at D vwCl (ad n, cE ad e) H) ∧ ∀ n n' e e', h n = some e → h n' = some e' → ad n = ad n' → n = n'
def dcW : Cond → Bool
  | .declares _ => true
  | .castable _ _ => true
  | _ => false
def xcs : List String := ["java/lang/IllegalArgumentException", "java/lang/IllegalStateException", "java/lang/IndexOutOfBoundsException"]
/-- what the tables say, and the few words that speak of the heap at the law's start -/
def ST (D : va_G) (tys : List (ClassId × FieldType)) (H0 : Heap) (U : State) : Prop :=
  va_K D vwCl tys U ∧ (∀ a i b n d host, Cond.fieldLinkNest a i b n d host ∈ lw_tbl → va_Nw (.fieldLinkNest a i b n d host) U) ∧
  (∀ own k tx, Cond.stringRef own k tx ∈ lw_tbl → ∃ a, vk_R own k tx a U) ∧ (∀ C, Cond.arrayOver (.object C) ∈ lw_tbl → va_AO C U) ∧
  vx_Zq Bundle.tN "UNASSIGNED_STACK" Bundle.steD (hA0 H0) U H0 ∧ vx_Zq Bundle.tN "SUPPRESSED_SENTINEL" Bundle.listD (hA0 H0) U H0 ∧
  (∀ w ∈ lw_tbl, dcW w = true → va_Nw w U) ∧ ∀ a ∈ xcs, ∀ b ∈ xcs, a ≠ b → va_Nc a b U
theorem dcW_on {w : Cond} (h : dcW w = true) : w.onTables = true := by
  cases w <;> first | rfl | cases h
theorem dcW_warm {w : Cond} (hd : dcW w = true) {s U : State} (hW : s.WarmedH U.vm) (h : va_Nw w s) : va_Nw w U := by
  cases w with
  | declares x => exact va_Nw.warmD hW h
  | castable a b => exact va_tabs rfl (rfl : (s.setVm U.vm).vm = U.vm) (by rw [Cond.castable_setVm hW.alike]; exact h)
  | _ => cases hd
theorem ST.warm {D : va_G} {tys : List (ClassId × FieldType)} {H0 : Heap} {s U : State} (hW : s.WarmedH U.vm) (h : ST D tys H0 s) : ST D tys H0 U := by
  obtain ⟨h1, h2, h3, h4, h5, h6, h7, h8⟩ := h
  exact ⟨va_K.moved hW.alike h1, fun a i b n d host q => va_Nw.warmF hW (h2 a i b n d host q), fun own k tx q => by
    obtain ⟨a, ha⟩ := h3 own k tx q
    exact ⟨a, vk_R.warm hW ha⟩, fun C q => va_AO.moved hW.alike (h4 C q), vx_Zq.moved hW.alike h5, vx_Zq.moved hW.alike h6, fun w hw hd => dcW_warm hd hW (h7 w hw hd), fun a ha b hb q => va_Nc.moved hW.alike (h8 a ha b hb q)⟩
theorem ST.calling {D : va_G} {tys : List (ClassId × FieldType)} {H0 : Heap} {U : State} {g : JFrame} {mk : MethodId} {a : Array Value} (h : ST D tys H0 U) : ST D tys H0 (U.calling g mk a) := by
  obtain ⟨h1, h2, h3, h4, h5, h6, h7, h8⟩ := h
  exact ⟨va_K.moved (Vm.Alike.refl U.vm) h1, fun a i b n d host q => va_Nw.same rfl (u := U) rfl (h2 a i b n d host q), fun own k tx q => by
    obtain ⟨a, ha⟩ := h3 own k tx q
    exact ⟨a, vk_R.same (u := U) rfl ha⟩, fun C q => va_AO.moved (Vm.Alike.refl U.vm) (h4 C q), vx_Zq.moved (Vm.Alike.refl U.vm) h5, vx_Zq.moved (Vm.Alike.refl U.vm) h6, fun w hw hd => va_Nw.same (dcW_on hd) (u := U) rfl (h7 w hw hd), fun a ha b hb q => va_Nc.moved (Vm.Alike.refl U.vm) (h8 a ha b hb q)⟩
section HPS
variable {D : va_G} {H0 : Heap} {ad : Nat → Nat} {h : Hp} {H H1 : Heap}
theorem HP.get (hp : HP D H0 ad h H) {n : Nat} {e : va_E} (he : h n = some e) : va_P D vwCl [(ad n, cE ad e)] H := by
  intro k q hk
  have hz : k < 1 := (List.getElem?_eq_some_iff.mp hk).1
  rw [show k = 0 by omega] at hk
  cases hk
  exact (hp.2.2.1 n e he).2
theorem HP.lt (hp : HP D H0 ad h H) {n : Nat} {e : va_E} (he : h n = some e) : ad n < H.size := (hp.2.2.1 n e he).2.lt
theorem HP.grow (hp : HP D H0 ad h H) (hz : H.size ≤ H1.size) (hq : ∀ q : Nat, q < H.size → H1[q]? = H[q]?) : HP D H0 ad h H1 := by
  obtain ⟨h1, h2, h3, h4⟩ := hp
  exact ⟨Nat.le_trans h1 hz, fun q hl => (hq q (Nat.lt_of_lt_of_le hl h1)).trans (h2 q hl), fun n e he => ⟨(h3 n e he).1, (h3 n e he).2.kept (hq _ (h3 n e he).2.lt)⟩, h4⟩
theorem HP.put (hp : HP D H0 ad h H) {n : Nat} {e0 e : va_E} (he : h n = some e0) (hz : H1.size = H.size) (hq : ∀ q : Nat, q ≠ ad n → H1[q]? = H[q]?) (ha : va_at D vwCl (ad n, cE ad e) H1) : HP D H0 ad (va_up h n (some e)) H1 := by
  obtain ⟨h1, h2, h3, h4⟩ := hp
  have hn := (h3 n e0 he).1
  have key : ∀ m e', va_up h n (some e) m = some e' → ∃ e'', h m = some e'' := by
    intro m e' hm
    unfold va_up at hm
    by_cases hmn : m = n
    · rw [hmn]; exact ⟨e0, he⟩
    · rw [if_neg hmn] at hm; exact ⟨e', hm⟩
  refine ⟨by rw [hz]; exact h1, fun q hl => (hq q (by omega)).trans (h2 q hl), fun m e' hm => ?_, fun a b ea eb hea heb hab => ?_⟩
  · unfold va_up at hm
    by_cases hmn : m = n
    · rw [if_pos hmn] at hm
      cases hm
      rw [hmn]
      exact ⟨hn, ha⟩
    · rw [if_neg hmn] at hm
      refine ⟨(h3 m e' hm).1, (h3 m e' hm).2.kept (hq _ (fun z => hmn (h4 m n e' e0 hm he z)))⟩
  · obtain ⟨x, hx⟩ := key a ea hea
    obtain ⟨y, hy⟩ := key b eb heb
    exact h4 a b x y hx hy hab
/-- the name n stands in no cell -/
def noRef (h : Hp) (n : Nat) : Prop := ∀ m e, h m = some e → ∀ (ad : Nat → Nat) (q : Nat), cE (va_up ad n q) e = cE ad e
theorem HP.new (hp : HP D H0 ad h H) {n : Nat} {e : va_E} (hn : h n = none) (hr : noRef h n) (hz : H1.size = H.size + 1) (hq : ∀ q : Nat, q < H.size → H1[q]? = H[q]?)
    (ha : va_at D vwCl (H.size, cE (va_up ad n H.size) e) H1) : HP D H0 (va_up ad n H.size) (va_up h n (some e)) H1 := by
  obtain ⟨h1, h2, h3, h4⟩ := hp
  have key : ∀ m e', va_up h n (some e) m = some e' → (m = n ∧ e' = e) ∨ (m ≠ n ∧ h m = some e') := by
    intro m e' hm
    unfold va_up at hm
    by_cases hmn : m = n
    · rw [if_pos hmn] at hm; cases hm; exact Or.inl ⟨hmn, rfl⟩
    · rw [if_neg hmn] at hm; exact Or.inr ⟨hmn, hm⟩
  have up1 : va_up ad n H.size n = H.size := if_pos rfl
  have up2 : ∀ m, m ≠ n → va_up ad n H.size m = ad m := fun m hm => if_neg hm
  refine ⟨by omega, fun q hl => (hq q (by omega)).trans (h2 q hl), fun m e' hm => ?_, fun a b ea eb hea heb hab => ?_⟩
  · rcases key m e' hm with ⟨rfl, rfl⟩ | ⟨hmn, hm⟩
    · rw [up1]; exact ⟨h1, ha⟩
    · rw [up2 m hmn, hr m e' hm]
      exact ⟨(h3 m e' hm).1, (h3 m e' hm).2.kept (hq _ (h3 m e' hm).2.lt)⟩
  · rcases key a ea hea with ⟨ra, rfl⟩ | ⟨hna, ha'⟩ <;> rcases key b eb heb with ⟨rb, rfl⟩ | ⟨hnb, hb'⟩
    · rw [ra, rb]
    · rw [ra, up1, up2 b hnb] at hab
      have := (h3 b eb hb').2.lt
      simp only at this
      omega
    · rw [rb, up1, up2 a hna] at hab
      have := (h3 a ea ha').2.lt
      simp only at this
      omega
    · rw [up2 a hna, up2 b hnb] at hab
      exact h4 a b ea eb ha' hb' hab
end HPS
/-- a class by its place: name, fields, count, types; its words are in the tables -/
def LY (ci : Nat) (C : String) (T : u_T) (N : Nat) (ty : Nat → FieldType) : Prop :=
  vwCl[ci]? = some (C, T, N) ∧ (∀ w ∈ u_ws C T N, w ∈ lw_tbl ∧ goodWord w = true) ∧ (∀ k, k < N → parseFieldDescriptor (T k).2.2.1 = some (ty k)) ∧ (∀ a, a < N → ∀ b, b < N → a ≠ b → (T a).2.1 ≠ (T b).2.1) ∧ ∀ k, k < N → (T k).1 = C
def RM (k mc ms : Nat) : Room := { frames := k, cells := mc, slots := ms, locals := 28 * k + 60 }
/-- all that stays the same in one body -/
def FX (D : va_G) (tys : List (ClassId × FieldType)) (H0 : Heap) (p : Program) (l : Launch) (s : State) (m : MethodId) (args : Array Value) (meth : Method) (c : Code) (own : String) (cc : ByteArray) (nL : Nat) (ret : Option FieldType) (nm : String) (tb : List ExceptionTableEntry) : Prop :=
  p.tables.exec = Jvm.exec ∧ c.code = cc ∧ c.maxLocals = nL ∧ s.vm.findClass own = some m.cls ∧ (∀ w ∈ lw_tbl, goodWord w = true → w.before args s = true) ∧ ST D tys H0 s ∧ meth.locks = false ∧ meth.sig.returnType = ret ∧ l.stackTraces = false ∧ meth.name = nm ∧ c.exceptionTable.toList = tb ∧ H0.size ≤ s.heap.size ∧ ∀ q : Nat, q < H0.size → s.heap[q]? = H0[q]?
/-- the machine stands at pc with these locals and this stack, over an abstract heap, and comes to Q -/
def WA (D : va_G) (H0 : Heap) (p : Program) (l : Launch) (e : Env) (R : Room) (s : State) (m : MethodId) (args : Array Value) (below : List Frame) (meth : Method) (c : Code) (nL : Nat) (Q : State → Prop) (ad : Nat → Nat) (h : Hp) (cells slots pc : Nat) (lv : List (Nat × Value)) (st : List Value) : Prop :=
  ∀ (H : Heap) (locs : List Loc) (ls : Array Slot), HP D H0 ad h H → va_S (hA0 H0) s.heap H locs → lv_has ls nL (lv.map (cL ad)) → W p l e R s m args below meth c H locs cells slots Q (F0 m pc ls (st.map (cV ad)))
/-- an object of class E is thrown at pc -/
def WX (D : va_G) (H0 : Heap) (p : Program) (l : Launch) (e : Env) (R : Room) (s : State) (m : MethodId) (args : Array Value) (below : List Frame) (meth : Method) (c : Code) (nL : Nat) (Q : State → Prop) (ad : Nat → Nat) (h : Hp) (cells slots pc : Nat) (lv : List (Nat × Value)) (E : String) : Prop :=
  ∀ (H : Heap) (locs : List Loc) (ls : Array Slot) (rest : List Value) (q : Addr) (ce : Cell), HP D H0 ad h H → va_S (hA0 H0) s.heap H locs → lv_has ls nL (lv.map (cL ad)) → H[q]? = some ce → ce.vm = .none → s.vm.findClass E = some ce.cls → vx_W p l e R s m args below meth c H locs cells slots Q (F0 m pc ls rest) q
