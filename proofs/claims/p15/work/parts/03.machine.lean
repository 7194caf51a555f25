/-! THE SMALL MACHINE. Values (an int, a reference by class and number, a long), a heap by class, number and place, and the judgement Go: 'from here the invocation ends, and Q holds of its outcome and heap'. cl: nothing has been written or made yet; rd: nothing will have been. Classes: below 90 those of maCl; 97 a thrown object that nobody looks at; 98 nothing known; 99 the script; 100 int[], 101 long[], 102 boolean[], 110 and on arrays of objects. -/
abbrev AV : Type := Int32 ⊕ (Option (Nat × Nat) ⊕ Int64)
abbrev vI (x : Int32) : AV := Sum.inl x
abbrev vR (r : Option (Nat × Nat)) : AV := Sum.inr (Sum.inl r)
abbrev vO (c i : Nat) : AV := Sum.inr (Sum.inl (some (c, i)))
abbrev vL (z : Int64) : AV := Sum.inr (Sum.inr z)
abbrev vU : AV := vO 98 0
abbrev AH : Type := (Nat → Nat → Nat → Int32) × (Nat → Nat → Nat → Option (Nat × Nat)) × (Nat → Nat → Nat → Int64) × (Nat → Nat → Nat) × (Nat → Nat)
abbrev GO : Type := Option AV ⊕ Nat
abbrev MD : Type := MethodName × ByteArray × Nat × Option FieldType × List (Nat × Nat × Nat × Nat)
abbrev ma_n (h : AH) : Nat → Nat := h.2.2.2.2
def ma_up {α : Type} (f : Nat → Nat → Nat → α) (c i k : Nat) (v : α) : Nat → Nat → Nat → α := fun c' i' k' => if c' = c ∧ i' = i ∧ k' = k then v else f c' i' k'
def ma_u2 {α : Type} (f : Nat → Nat → α) (c i : Nat) (v : α) : Nat → Nat → α := fun c' i' => if c' = c ∧ i' = i then v else f c' i'
def ma_rf (ad : Nat → Nat → Nat) (r : Option (Nat × Nat)) : Value := match r with
  | none => .null
  | some x => .ref (ad x.1 x.2)
def ma_fs (ad : Nat → Nat → Nat) (h : AH) (c i : Nat) : List Value := (List.range (ma_nf c)).map (fun k => if ma_fk c k = true then ma_rf ad (h.2.1 c i k) else .int (h.1 c i k))
def ma_ar (ad : Nat → Nat → Nat) (h : AH) (c i : Nat) : vp_A := (h.2.2.2.1 c i, if c = 101 then .inr (.inl (h.2.2.1 c i)) else if c < 110 then .inl (h.1 c i) else .inr (.inr (.inr (.inr (fun j => (h.2.1 c i j).map (fun x => ad x.1 x.2))))))
def ma_E (aC : Nat → ClassId) (ad : Nat → Nat → Nat) (h : AH) (x : Nat × Nat) : va_E := if x.1 < 90 then .inr (x.1, ma_fs ad h x.1 x.2) else .inl (aC x.1, ma_ar ad h x.1 x.2)
def ma_ws (aC : Nat → ClassId) (ad : Nat → Nat → Nat) (h : AH) (Ls : List (Nat × Nat)) : va_W := Ls.map (fun x => (ad x.1 x.2, ma_E aC ad h x))
/-- references lead to what there is; what isn't made yet is 0 -/
def ma_cls (h : AH) : Prop := (∀ k i j r, i < ma_n h k → h.2.1 k i j = some r → r.2 < ma_n h r.1) ∧ ∀ k i j, ma_n h k ≤ i → h.1 k i j = 0 ∧ h.2.1 k i j = none ∧ h.2.2.1 k i j = 0
/-- the machine's heap holds the small heap -/
def ma_HR (D : va_G) (aC : Nat → ClassId) (A : Nat → Prop) (ad : Nat → Nat → Nat) (h : AH) (H : Heap) : Prop := ∃ Ls : List (Nat × Nat), (∀ x, x ∈ Ls ↔ x.2 < ma_n h x.1) ∧ Ls.Nodup ∧ va_P D maCl (ma_ws aC ad h Ls) H ∧ va_D A (ma_ws aC ad h Ls) ∧ (∀ k, 90 ≤ k → k < 100 → ma_n h k = 0) ∧ ma_cls h
def ma_RV (ad : Nat → Nat → Nat) (n : Nat → Nat) (v : AV) (x : Value) : Prop := match v with
  | .inl i => x = .int i
  | .inr (.inr z) => x = .long z
  | .inr (.inl none) => x = .null
  | .inr (.inl (some r)) => (r.1 = 97 ∧ ∃ a, x = .ref a) ∨ (r.1 = 99 ∧ x = .ref (ad 99 0)) ∨ (r.2 < n r.1 ∧ x = .ref (ad r.1 r.2))
def ma_SR (ad : Nat → Nat → Nat) (n : Nat → Nat) : List AV → List Value → Prop
  | [], S => S = []
  | v :: vs, S => ∃ x S', S = x :: S' ∧ ma_RV ad n v x ∧ ma_SR ad n vs S'
/-- no local is a long -/
def ma_nl (v : AV) : Prop := match v with
  | .inr (.inr _) => False
  | _ => True
def ma_LR (ad : Nat → Nat → Nat) (n : Nat → Nat) (N : Nat) (ls : List AV) (L : Array Slot) : Prop := L.size = N ∧ lv_wf L ∧ ∀ (k : Nat) (v : AV), ls[k]? = some v → v = vU ∨ (ma_nl v ∧ ∃ x : Value, L[k]? = some (Slot.val x) ∧ ma_RV ad n v x)
def ma_Ex (ad0 : Nat → Nat → Nat) (n0 : Nat → Nat) (ad : Nat → Nat → Nat) (n : Nat → Nat) : Prop := (∀ k i, i < n0 k → ad k i = ad0 k i ∧ i < n k) ∧ ad 99 0 = ad0 99 0
/-- an exception of the kind k lies at a -/
def ma_Ek (k : Nat) (a : Addr) (t : State) : Prop := ∃ cell : Cell, t.heap[a]? = some cell ∧ cell.vm.isStatics = false ∧ t.vm.findClass (ma_en k) = some cell.cls
def ma_OR (ad : Nat → Nat → Nat) (n : Nat → Nat) (g : GO) (o : Outcome) (t : State) : Prop := match g with
  | .inl none => o = .returned none
  | .inl (some v) => ∃ x, o = .returned (some x) ∧ ma_RV ad n v x
  | .inr k => ∃ a, o = .threw a ∧ ma_Ek k a t
def ma_Z (below : List Frame) (D : va_G) (aC : Nat → ClassId) (A : Nat → Prop) (ad0 : Nat → Nat → Nat) (n0 : Nat → Nat) (rd : Bool) (Q : GO → AH → Prop) (s : State) (mc ms : Nat) : State → Prop := fun t => ∃ o, t.status = .running ∧ Ended t below o ∧ s.WarmedH t.vm ∧ (∃ L, s.sameButNew ({ t with vm := s.vm } : State) L mc ms ∧ (∀ q ∈ L, A q.base) ∧ (rd = true → L = [])) ∧ va_F A s t ∧ ∃ (g : GO) (h' : AH) (ad' : Nat → Nat → Nat), Q g h' ∧ ma_OR ad' (ma_n h') g o t ∧ ma_HR D aC A ad' h' t.heap ∧ ma_Ex ad0 n0 ad' (ma_n h')
/-- what stands fast in a method -/
def ma_Cx (y : MD) (p : Program) (l : Launch) (s : State) (m : MethodId) (args : Array Value) (meth : Method) (c : Code) (D : va_G) (aC : Nat → ClassId) : Prop :=
  p.tables.exec = Jvm.exec ∧ c.code = y.2.1 ∧ c.maxLocals = y.2.2.1 ∧ meth.sig.returnType = y.2.2.2.1 ∧ s.vm.findClass y.1.cls = some m.cls ∧ (∀ w ∈ maT, w.before args s = true) ∧ meth.locks = false ∧ meth.name = y.1.name ∧ c.exceptionTable.toList = tableOf y.2.2.2.2 ∧ va_K D maCl [] s ∧ (∀ k ty, ma_ty k = some ty → ArrOfT s (aC k) ty ∧ va_RA s (aC k) ty) ∧ (∀ j k, 1 ≤ j → j ≤ 4 → 1 ≤ k → k ≤ 4 → j ≠ k → va_Nc (ma_en j) (ma_en k) s) ∧ l.flags = flags0 ∧ ∀ w ∈ maH, w.before args s = true
def ma_Rm (d bc bs : Nat) (R : Room) (cells slots mc ms : Nat) : Prop := d ≤ R.frames ∧ 64 * d ≤ R.locals ∧ cells + bc ≤ mc ∧ slots + bs ≤ ms ∧ mc ≤ R.cells ∧ ms ≤ R.slots
def ma_SX (sc : Nat × (Nat → Int32)) (A : Nat → Prop) (ad : Nat → Nat → Nat) (s : State) : Prop := va_X (ad 99 0) sc.1 sc.2 s s.heap ∧ ¬ A (ad 99 0) ∧ ad 99 0 < s.heap.size ∧ ∀ (q : Nat) (cell : Cell), A q → s.heap[q]? = some cell → cell.vm.isStatics = false
/-- all that changes from step to step -/
def ma_Dy (sc : Nat × (Nat → Int32)) (cl : Bool) (d bc bs : Nat) (y : MD) (ls st : List AV) (h : AH) (R : Room) (s : State) (H : Heap) (locs : List Loc) (cells slots mc ms : Nat) (D : va_G) (aC : Nat → ClassId) (A : Nat → Prop) (ad ad0 : Nat → Nat → Nat) (n0 : Nat → Nat) (L : Array Slot) (S : List Value) : Prop :=
  ma_Rm d bc bs R cells slots mc ms ∧ ma_HR D aC A ad h H ∧ ma_SX sc A ad s ∧ va_S A s.heap H locs ∧ (∀ q, s.heap.size ≤ q → A q) ∧ ma_Ex ad0 n0 ad (ma_n h) ∧ ma_LR ad (ma_n h) y.2.2.1 ls L ∧ ma_SR ad (ma_n h) st S ∧ (cl = true → locs = [] ∧ ma_HR D aC A ad h s.heap)
def Go (sc : Nat × (Nat → Int32)) (cl rd : Bool) (d bc bs : Nat) (y : MD) (pc : Nat) (ls st : List AV) (h : AH) (Q : GO → AH → Prop) : Prop :=
  ∀ (p : Program) (l : Launch) (e : Env) (R : Room) (s : State) (m : MethodId) (args : Array Value) (below : List Frame) (meth : Method) (c : Code) (H : Heap) (locs : List Loc) (cells slots mc ms : Nat) (D : va_G) (aC : Nat → ClassId) (A : Nat → Prop) (ad ad0 : Nat → Nat → Nat) (n0 : Nat → Nat) (L : Array Slot) (S : List Value),
    ma_Cx y p l s m args meth c D aC → ma_Dy sc cl d bc bs y ls st h R s H locs cells slots mc ms D aC A ad ad0 n0 L S → W p l e R s m args below meth c H locs cells slots (ma_Z below D aC A ad0 n0 rd Q s mc ms) (F0 m pc L S)
/-- more may be asked of the start than is needed -/
theorem Go.weak {sc : Nat × (Nat → Int32)} {cl rd : Bool} {d bc bs : Nat} {y : MD} {pc : Nat} {ls st : List AV} {h : AH} {Q : GO → AH → Prop} (k : Go sc false rd d bc bs y pc ls st h Q) : Go sc cl rd d bc bs y pc ls st h Q := by
  intro p l e R s m args below meth c H locs cells slots mc ms D aC A ad ad0 n0 L S hC hDy
  obtain ⟨a1, a2, a3, a4, a5, a6, a7, a8, a9⟩ := hDy
  exact k p l e R s m args below meth c H locs cells slots mc ms D aC A ad ad0 n0 L S hC ⟨a1, a2, a3, a4, a5, a6, a7, a8, fun h9 => nomatch h9⟩
theorem ma_up_self {α : Type} (f : Nat → Nat → Nat → α) (c i k : Nat) (v : α) : ma_up f c i k v c i k = v := by simp [ma_up]
theorem ma_RV_ext {ad ad' : Nat → Nat → Nat} {n n' : Nat → Nat} {v : AV} {x : Value} (he : ma_Ex ad n ad' n') (h : ma_RV ad n v x) : ma_RV ad' n' v x := by
  rcases v with i | ⟨_ | r⟩ | z
  · exact h
  · exact h
  · rcases h with h | ⟨h1, h2⟩ | ⟨h1, h2⟩
    · exact Or.inl h
    · exact Or.inr (Or.inl ⟨h1, by rw [he.2]; exact h2⟩)
    · obtain ⟨e1, e2⟩ := he.1 _ _ h1
      exact Or.inr (Or.inr ⟨e2, by rw [e1]; exact h2⟩)
  · exact h
theorem ma_SR_ext {ad ad' : Nat → Nat → Nat} {n n' : Nat → Nat} (he : ma_Ex ad n ad' n') : ∀ {st : List AV} {S : List Value}, ma_SR ad n st S → ma_SR ad' n' st S
  | [], _, h => h
  | _ :: _, _, ⟨x, S', e, h1, h2⟩ => ⟨x, S', e, ma_RV_ext he h1, ma_SR_ext he h2⟩
theorem ma_LR_ext {ad ad' : Nat → Nat → Nat} {n n' : Nat → Nat} {N : Nat} {ls : List AV} {L : Array Slot} (he : ma_Ex ad n ad' n') (h : ma_LR ad n N ls L) : ma_LR ad' n' N ls L :=
  ⟨h.1, h.2.1, fun k v hk => (h.2.2 k v hk).imp id (fun ⟨a, x, b, d⟩ => ⟨a, x, b, ma_RV_ext he d⟩)⟩
theorem ma_Ex_rf {ad : Nat → Nat → Nat} {n : Nat → Nat} : ma_Ex ad n ad n := ⟨fun _ _ h => ⟨rfl, h⟩, rfl⟩
theorem ma_Ex_tr {ad ad1 ad2 : Nat → Nat → Nat} {n n1 n2 : Nat → Nat} (h1 : ma_Ex ad n ad1 n1) (h2 : ma_Ex ad1 n1 ad2 n2) : ma_Ex ad n ad2 n2 :=
  ⟨fun k i h => by obtain ⟨a, b⟩ := h1.1 k i h; obtain ⟨a2, b2⟩ := h2.1 k i b; exact ⟨a2.trans a, b2⟩, h2.2.trans h1.2⟩
theorem ma_W_mono {p : Program} {l : Launch} {e : Env} {R : Room} {s : State} {m : MethodId} {args : Array Value} {below : List Frame} {meth : Method} {c : Code} {H : Heap} {locs : List Loc} {cells slots : Nat} {Q Q' : State → Prop} {g : JFrame} (hq : ∀ t, Q t → Q' t) (k : W p l e R s m args below meth c H locs cells slots Q g) : W p l e R s m args below meth c H locs cells slots Q' g := fun T hT X => by
  obtain ⟨t, a, b⟩ := k T hT X
  exact ⟨t, a, hq t b⟩
theorem Go.mono {sc : Nat × (Nat → Int32)} {cl rd : Bool} {d bc bs : Nat} {y : MD} {pc : Nat} {ls st : List AV} {h : AH} {Q Q' : GO → AH → Prop} (hq : ∀ g h', Q g h' → Q' g h') (k : Go sc cl rd d bc bs y pc ls st h Q) : Go sc cl rd d bc bs y pc ls st h Q' := by
  intro p l e R s m args below meth c H locs cells slots mc ms D aC A ad ad0 n0 L S hC hDy
  refine ma_W_mono ?_ (k p l e R s m args below meth c H locs cells slots mc ms D aC A ad ad0 n0 L S hC hDy)
  rintro t ⟨o, h1, h2, h3, h4, h5, g, h', ad', h6, h7⟩
  exact ⟨o, h1, h2, h3, h4, h5, g, h', ad', hq _ _ h6, h7⟩
theorem Go.wide {sc : Nat × (Nat → Int32)} {cl rd : Bool} {d d' bc bs bc' bs' : Nat} {y : MD} {pc : Nat} {ls st : List AV} {h : AH} {Q : GO → AH → Prop} (k : Go sc cl rd d bc bs y pc ls st h Q) (hd : d ≤ d') (h1 : bc ≤ bc') (h2 : bs ≤ bs') : Go sc cl rd d' bc' bs' y pc ls st h Q := by
  intro p l e R s m args below meth c H locs cells slots mc ms D aC A ad ad0 n0 L S hC hDy
  refine k p l e R s m args below meth c H locs cells slots mc ms D aC A ad ad0 n0 L S hC ⟨?_, hDy.2⟩
  obtain ⟨⟨a1, a2, a3, a4, a5, a6⟩, -⟩ := hDy
  exact ⟨by omega, by omega, by omega, by omega, a5, a6⟩
/-- what is known of locals may be forgotten -/
theorem Go.locs {sc : Nat × (Nat → Int32)} {cl rd : Bool} {d bc bs : Nat} {y : MD} {pc : Nat} {ls ls' st : List AV} {h : AH} {Q : GO → AH → Prop} (hl : ∀ (k : Nat) (v : AV), ls'[k]? = some v → v = vU ∨ ls[k]? = some v) (k : Go sc cl rd d bc bs y pc ls' st h Q) : Go sc cl rd d bc bs y pc ls st h Q := by
  intro p l e R s m args below meth c H locs cells slots mc ms D aC A ad ad0 n0 L S hC hDy
  obtain ⟨a1, a2, a3, a4, a5, a6, a7, a8, a9⟩ := hDy
  exact k p l e R s m args below meth c H locs cells slots mc ms D aC A ad ad0 n0 L S hC ⟨a1, a2, a3, a4, a5, a6, ⟨a7.1, a7.2.1, fun j v hv => (hl j v hv).elim Or.inl (a7.2.2 j v)⟩, a8, a9⟩
/-- a place of the locals is stored to -/
def ma_all (L : Array Slot) : List (Nat × Value) := (List.range L.size).filterMap (fun (k : Nat) => match (L[k]? : Option Slot) with
  | some (Slot.val x) => some (k, x)
  | _ => none)
theorem ma_all_mem {L : Array Slot} {k : Nat} {x : Value} : (k, x) ∈ ma_all L ↔ L[k]? = some (.val x) := by
  constructor
  · intro h
    obtain ⟨j, hj, h2⟩ := List.mem_filterMap.mp h
    split at h2
    next y hy => cases h2; exact hy
    next => cases h2
  · intro h
    refine List.mem_filterMap.mpr ⟨k, List.mem_range.mpr (lv_lt h), ?_⟩
    simp [h]
theorem ma_all_has {ad : Nat → Nat → Nat} {n : Nat → Nat} {N : Nat} {ls : List AV} {L : Array Slot} (h : ma_LR ad n N ls L) : lv_has L N (ma_all L) := ⟨h.1, h.2.1, fun q hq => ma_all_mem.mp hq⟩
theorem ma_RV_cat {ad : Nat → Nat → Nat} {n : Nat → Nat} {v : AV} {x : Value} (hn : ma_nl v) (h : ma_RV ad n v x) : x.category = 1 := by
  rcases v with i | ⟨_ | r⟩ | z
  · cases h; rfl
  · cases h; rfl
  · rcases h with ⟨-, a, rfl⟩ | ⟨-, rfl⟩ | ⟨-, rfl⟩ <;> rfl
  · exact hn.elim
theorem ma_LR_set {ad : Nat → Nat → Nat} {n : Nat → Nat} {N i : Nat} {ls : List AV} {L L' : Array Slot} {v : AV} {x : Value} (h : ma_LR ad n N ls L) (hn : ma_nl v) (hv : ma_RV ad n v x) (h' : lv_has L' N ((i, x) :: (ma_all L).filter (fun q => !(q.1 == i) && !(q.1 + 1 == i && q.2.category == 2)))) : ma_LR ad n N (ls.set i v) L' := by
  refine ⟨h'.1, h'.2.1, fun k w hk => ?_⟩
  by_cases hki : k = i
  · subst hki
    have hlt : k < ls.length := by
      have := (List.getElem?_eq_some_iff.mp hk).1
      simpa using this
    rw [List.getElem?_set_self hlt] at hk
    cases hk
    exact Or.inr ⟨hn, x, h'.2.2 (k, x) List.mem_cons_self, hv⟩
  · rw [List.getElem?_set_ne (Ne.symm hki)] at hk
    rcases h.2.2 k w hk with q | ⟨q1, z, q2, q3⟩
    · exact Or.inl q
    · refine Or.inr ⟨q1, z, h'.2.2 (k, z) (List.mem_cons_of_mem _ (List.mem_filter.mpr ⟨ma_all_mem.mpr q2, ?_⟩)), q3⟩
      have hc := ma_RV_cat q1 q3
      simp [hki, hc]

theorem Go.iconst {sc : Nat × (Nat → Int32)} {cl rd : Bool} {d bc bs : Nat} {y : MD} {pc : Nat} {ls st : List AV} {h : AH} {Q : GO → AH → Prop} {n : Int} {v : Int32} (hd : decode y.2.1 pc = .ok (.iconst n, 1)) (hv : Int32.ofInt n = v) (k : Go sc cl rd d bc bs y (pc + 1) ls (vI v :: st) h Q) : Go sc cl rd d bc bs y pc ls st h Q := by
  intro p l e R s m args below meth c H locs cells slots mc ms D aC A ad ad0 n0 L S hC hDy
  obtain ⟨hx, hb, hml, hr, hown, hts, hlocks, hnm, hex, hK, hKa, hNc, hfl, hmH⟩ := id hC
  obtain ⟨hRm, hHR, hSX, hS, hA, hEx, hL, hSt, hCl⟩ := id hDy
  exact lv_iconst hx hb hd hv (k p l e R s m args below meth c H locs cells slots mc ms D aC A ad ad0 n0 L (.int v :: S) hC ⟨hRm, hHR, hSX, hS, hA, hEx, hL, ⟨_, _, rfl, rfl, hSt⟩, hCl⟩)

theorem Go.bipush {sc : Nat × (Nat → Int32)} {cl rd : Bool} {d bc bs : Nat} {y : MD} {pc : Nat} {ls st : List AV} {h : AH} {Q : GO → AH → Prop} {n : Int} {v : Int32} (hd : decode y.2.1 pc = .ok (.bipush n, 2)) (hv : (Int8.ofInt n).toInt32 = v) (k : Go sc cl rd d bc bs y (pc + 2) ls (vI v :: st) h Q) : Go sc cl rd d bc bs y pc ls st h Q := by
  intro p l e R s m args below meth c H locs cells slots mc ms D aC A ad ad0 n0 L S hC hDy
  obtain ⟨hx, hb, hml, hr, hown, hts, hlocks, hnm, hex, hK, hKa, hNc, hfl, hmH⟩ := id hC
  obtain ⟨hRm, hHR, hSX, hS, hA, hEx, hL, hSt, hCl⟩ := id hDy
  exact lv_bipush hx hb hd hv (k p l e R s m args below meth c H locs cells slots mc ms D aC A ad ad0 n0 L (.int v :: S) hC ⟨hRm, hHR, hSX, hS, hA, hEx, hL, ⟨_, _, rfl, rfl, hSt⟩, hCl⟩)

theorem Go.sipush {sc : Nat × (Nat → Int32)} {cl rd : Bool} {d bc bs : Nat} {y : MD} {pc : Nat} {ls st : List AV} {h : AH} {Q : GO → AH → Prop} {n : Int} {v : Int32} (hd : decode y.2.1 pc = .ok (.sipush n, 3)) (hv : (Int16.ofInt n).toInt32 = v) (k : Go sc cl rd d bc bs y (pc + 3) ls (vI v :: st) h Q) : Go sc cl rd d bc bs y pc ls st h Q := by
  intro p l e R s m args below meth c H locs cells slots mc ms D aC A ad ad0 n0 L S hC hDy
  obtain ⟨hx, hb, hml, hr, hown, hts, hlocks, hnm, hex, hK, hKa, hNc, hfl, hmH⟩ := id hC
  obtain ⟨hRm, hHR, hSX, hS, hA, hEx, hL, hSt, hCl⟩ := id hDy
  exact lv_sipush hx hb hd hv (k p l e R s m args below meth c H locs cells slots mc ms D aC A ad ad0 n0 L (.int v :: S) hC ⟨hRm, hHR, hSX, hS, hA, hEx, hL, ⟨_, _, rfl, rfl, hSt⟩, hCl⟩)

theorem Go.ldci {sc : Nat × (Nat → Int32)} {cl rd : Bool} {d bc bs : Nat} {y : MD} {pc : Nat} {ls st : List AV} {h : AH} {Q : GO → AH → Prop} {n : Nat} {v : Int32} (hd : decode y.2.1 pc = .ok (.ldc n, 2)) (hv : Jvm.Cond.constant y.1.cls n v ∈ maT) (k : Go sc cl rd d bc bs y (pc + 2) ls (vI v :: st) h Q) : Go sc cl rd d bc bs y pc ls st h Q := by
  intro p l e R s m args below meth c H locs cells slots mc ms D aC A ad ad0 n0 L S hC hDy
  obtain ⟨hx, hb, hml, hr, hown, hts, hlocks, hnm, hex, hK, hKa, hNc, hfl, hmH⟩ := id hC
  obtain ⟨hRm, hHR, hSX, hS, hA, hEx, hL, hSt, hCl⟩ := id hDy
  exact lv_ldc hx hb hown (hts _ hv) hd (k p l e R s m args below meth c H locs cells slots mc ms D aC A ad ad0 n0 L (.int v :: S) hC ⟨hRm, hHR, hSX, hS, hA, hEx, hL, ⟨_, _, rfl, rfl, hSt⟩, hCl⟩)

theorem Go.iload {sc : Nat × (Nat → Int32)} {cl rd : Bool} {d bc bs : Nat} {y : MD} {pc : Nat} {ls st : List AV} {h : AH} {Q : GO → AH → Prop} {i : Nat} {x : Int32} (hd : decode y.2.1 pc = .ok (.iload i, 2)) (hl : ls[i]? = some (vI x)) (k : Go sc cl rd d bc bs y (pc + 2) ls (vI x :: st) h Q) : Go sc cl rd d bc bs y pc ls st h Q := by
  intro p l e R s m args below meth c H locs cells slots mc ms D aC A ad ad0 n0 L S hC hDy
  obtain ⟨hx, hb, hml, hr, hown, hts, hlocks, hnm, hex, hK, hKa, hNc, hfl, hmH⟩ := id hC
  obtain ⟨hRm, hHR, hSX, hS, hA, hEx, hL, hSt, hCl⟩ := id hDy
  have hz : L[i]? = some (.val (.int x)) := by
    rcases hL.2.2 _ _ hl with q | ⟨-, z, q, rfl⟩
    · cases q
    · exact q
  exact lv_iload hx hb hd hz (k p l e R s m args below meth c H locs cells slots mc ms D aC A ad ad0 n0 L (.int x :: S) hC ⟨hRm, hHR, hSX, hS, hA, hEx, hL, ⟨_, _, rfl, rfl, hSt⟩, hCl⟩)

theorem Go.aload {sc : Nat × (Nat → Int32)} {cl rd : Bool} {d bc bs : Nat} {y : MD} {pc : Nat} {ls st : List AV} {h : AH} {Q : GO → AH → Prop} {i : Nat} {cc ii : Nat} (hd : decode y.2.1 pc = .ok (.aload i, 2)) (hl : ls[i]? = some (vO cc ii)) (hc : cc ≠ 98) (k : Go sc cl rd d bc bs y (pc + 2) ls (vO cc ii :: st) h Q) : Go sc cl rd d bc bs y pc ls st h Q := by
  intro p l e R s m args below meth c H locs cells slots mc ms D aC A ad ad0 n0 L S hC hDy
  obtain ⟨hx, hb, hml, hr, hown, hts, hlocks, hnm, hex, hK, hKa, hNc, hfl, hmH⟩ := id hC
  obtain ⟨hRm, hHR, hSX, hS, hA, hEx, hL, hSt, hCl⟩ := id hDy
  rcases hL.2.2 _ _ hl with q | ⟨-, z, hz, hv⟩
  · cases q; exact absurd rfl hc
  · have hv' : ∃ a, z = .ref a := by
      rcases hv with ⟨-, a, rfl⟩ | ⟨-, rfl⟩ | ⟨-, rfl⟩ <;> exact ⟨_, rfl⟩
    obtain ⟨a, rfl⟩ := hv'
    exact lv_aload hx hb hd hz (k p l e R s m args below meth c H locs cells slots mc ms D aC A ad ad0 n0 L (.ref a :: S) hC ⟨hRm, hHR, hSX, hS, hA, hEx, hL, ⟨_, _, rfl, hv, hSt⟩, hCl⟩)

theorem Go.iload_n {sc : Nat × (Nat → Int32)} {cl rd : Bool} {d bc bs : Nat} {y : MD} {pc : Nat} {ls st : List AV} {h : AH} {Q : GO → AH → Prop} {i : Fin 4} {x : Int32} (hd : decode y.2.1 pc = .ok (.iload_n i, 1)) (hl : ls[(i : Nat)]? = some (vI x)) (k : Go sc cl rd d bc bs y (pc + 1) ls (vI x :: st) h Q) : Go sc cl rd d bc bs y pc ls st h Q := by
  intro p l e R s m args below meth c H locs cells slots mc ms D aC A ad ad0 n0 L S hC hDy
  obtain ⟨hx, hb, hml, hr, hown, hts, hlocks, hnm, hex, hK, hKa, hNc, hfl, hmH⟩ := id hC
  obtain ⟨hRm, hHR, hSX, hS, hA, hEx, hL, hSt, hCl⟩ := id hDy
  have hz : L[(i : Nat)]? = some (.val (.int x)) := by
    rcases hL.2.2 _ _ hl with q | ⟨-, z, q, rfl⟩
    · cases q
    · exact q
  exact lv_iload_n hx hb hd rfl hz (k p l e R s m args below meth c H locs cells slots mc ms D aC A ad ad0 n0 L (.int x :: S) hC ⟨hRm, hHR, hSX, hS, hA, hEx, hL, ⟨_, _, rfl, rfl, hSt⟩, hCl⟩)

theorem Go.aload_n {sc : Nat × (Nat → Int32)} {cl rd : Bool} {d bc bs : Nat} {y : MD} {pc : Nat} {ls st : List AV} {h : AH} {Q : GO → AH → Prop} {i : Fin 4} {cc ii : Nat} (hd : decode y.2.1 pc = .ok (.aload_n i, 1)) (hl : ls[(i : Nat)]? = some (vO cc ii)) (hc : cc ≠ 98) (k : Go sc cl rd d bc bs y (pc + 1) ls (vO cc ii :: st) h Q) : Go sc cl rd d bc bs y pc ls st h Q := by
  intro p l e R s m args below meth c H locs cells slots mc ms D aC A ad ad0 n0 L S hC hDy
  obtain ⟨hx, hb, hml, hr, hown, hts, hlocks, hnm, hex, hK, hKa, hNc, hfl, hmH⟩ := id hC
  obtain ⟨hRm, hHR, hSX, hS, hA, hEx, hL, hSt, hCl⟩ := id hDy
  rcases hL.2.2 _ _ hl with q | ⟨-, z, hz, hv⟩
  · cases q; exact absurd rfl hc
  · have hv' : ∃ a, z = .ref a := by
      rcases hv with ⟨-, a, rfl⟩ | ⟨-, rfl⟩ | ⟨-, rfl⟩ <;> exact ⟨_, rfl⟩
    obtain ⟨a, rfl⟩ := hv'
    exact lv_aload_n hx hb hd rfl hz (k p l e R s m args below meth c H locs cells slots mc ms D aC A ad ad0 n0 L (.ref a :: S) hC ⟨hRm, hHR, hSX, hS, hA, hEx, hL, ⟨_, _, rfl, hv, hSt⟩, hCl⟩)

theorem Go.istore {sc : Nat × (Nat → Int32)} {cl rd : Bool} {d bc bs : Nat} {y : MD} {pc : Nat} {ls st : List AV} {h : AH} {Q : GO → AH → Prop} {i : Nat} {x : Int32} {ls' : List AV} (hd : decode y.2.1 pc = .ok (.istore i, 2)) (hi : i < y.2.2.1) (hl : ls.set i (vI x) = ls') (k : Go sc cl rd d bc bs y (pc + 2) ls' st h Q) : Go sc cl rd d bc bs y pc ls (vI x :: st) h Q := by
  intro p l e R s m args below meth c H locs cells slots mc ms D aC A ad ad0 n0 L S hC hDy
  obtain ⟨hx, hb, hml, hr, hown, hts, hlocks, hnm, hex, hK, hKa, hNc, hfl, hmH⟩ := id hC
  obtain ⟨hRm, hHR, hSX, hS, hA, hEx, hL, hSt, hCl⟩ := id hDy
  obtain ⟨z, S', rfl, rfl, hSt⟩ := hSt
  refine lv_istore hx hb hd (ma_all_has hL) hi rfl (fun L' hL' => ?_)
  subst hl
  exact k p l e R s m args below meth c H locs cells slots mc ms D aC A ad ad0 n0 L' S' hC ⟨hRm, hHR, hSX, hS, hA, hEx, ma_LR_set hL trivial rfl hL', hSt, hCl⟩

theorem Go.astore {sc : Nat × (Nat → Int32)} {cl rd : Bool} {d bc bs : Nat} {y : MD} {pc : Nat} {ls st : List AV} {h : AH} {Q : GO → AH → Prop} {i : Nat} {cc ii : Nat} {ls' : List AV} (hd : decode y.2.1 pc = .ok (.astore i, 2)) (hi : i < y.2.2.1) (hl : ls.set i (vO cc ii) = ls') (k : Go sc cl rd d bc bs y (pc + 2) ls' st h Q) : Go sc cl rd d bc bs y pc ls (vO cc ii :: st) h Q := by
  intro p l e R s m args below meth c H locs cells slots mc ms D aC A ad ad0 n0 L S hC hDy
  obtain ⟨hx, hb, hml, hr, hown, hts, hlocks, hnm, hex, hK, hKa, hNc, hfl, hmH⟩ := id hC
  obtain ⟨hRm, hHR, hSX, hS, hA, hEx, hL, hSt, hCl⟩ := id hDy
  obtain ⟨z, S', rfl, hv, hSt⟩ := hSt
  have hv' : ∃ a, z = .ref a := by
    rcases hv with ⟨-, a, rfl⟩ | ⟨-, rfl⟩ | ⟨-, rfl⟩ <;> exact ⟨_, rfl⟩
  obtain ⟨a, rfl⟩ := hv'
  refine lv_astore hx hb hd (ma_all_has hL) hi rfl (fun L' hL' => ?_)
  subst hl
  exact k p l e R s m args below meth c H locs cells slots mc ms D aC A ad ad0 n0 L' S' hC ⟨hRm, hHR, hSX, hS, hA, hEx, ma_LR_set hL trivial hv hL', hSt, hCl⟩

theorem Go.istore_n {sc : Nat × (Nat → Int32)} {cl rd : Bool} {d bc bs : Nat} {y : MD} {pc : Nat} {ls st : List AV} {h : AH} {Q : GO → AH → Prop} {i : Fin 4} {x : Int32} {ls' : List AV} (hd : decode y.2.1 pc = .ok (.istore_n i, 1)) (hi : (i : Nat) < y.2.2.1) (hl : ls.set (i : Nat) (vI x) = ls') (k : Go sc cl rd d bc bs y (pc + 1) ls' st h Q) : Go sc cl rd d bc bs y pc ls (vI x :: st) h Q := by
  intro p l e R s m args below meth c H locs cells slots mc ms D aC A ad ad0 n0 L S hC hDy
  obtain ⟨hx, hb, hml, hr, hown, hts, hlocks, hnm, hex, hK, hKa, hNc, hfl, hmH⟩ := id hC
  obtain ⟨hRm, hHR, hSX, hS, hA, hEx, hL, hSt, hCl⟩ := id hDy
  obtain ⟨z, S', rfl, rfl, hSt⟩ := hSt
  refine lv_istore_n hx hb hd rfl (ma_all_has hL) hi rfl (fun L' hL' => ?_)
  subst hl
  exact k p l e R s m args below meth c H locs cells slots mc ms D aC A ad ad0 n0 L' S' hC ⟨hRm, hHR, hSX, hS, hA, hEx, ma_LR_set hL trivial rfl hL', hSt, hCl⟩

theorem Go.astore_n {sc : Nat × (Nat → Int32)} {cl rd : Bool} {d bc bs : Nat} {y : MD} {pc : Nat} {ls st : List AV} {h : AH} {Q : GO → AH → Prop} {i : Fin 4} {cc ii : Nat} {ls' : List AV} (hd : decode y.2.1 pc = .ok (.astore_n i, 1)) (hi : (i : Nat) < y.2.2.1) (hl : ls.set (i : Nat) (vO cc ii) = ls') (k : Go sc cl rd d bc bs y (pc + 1) ls' st h Q) : Go sc cl rd d bc bs y pc ls (vO cc ii :: st) h Q := by
  intro p l e R s m args below meth c H locs cells slots mc ms D aC A ad ad0 n0 L S hC hDy
  obtain ⟨hx, hb, hml, hr, hown, hts, hlocks, hnm, hex, hK, hKa, hNc, hfl, hmH⟩ := id hC
  obtain ⟨hRm, hHR, hSX, hS, hA, hEx, hL, hSt, hCl⟩ := id hDy
  obtain ⟨z, S', rfl, hv, hSt⟩ := hSt
  have hv' : ∃ a, z = .ref a := by
    rcases hv with ⟨-, a, rfl⟩ | ⟨-, rfl⟩ | ⟨-, rfl⟩ <;> exact ⟨_, rfl⟩
  obtain ⟨a, rfl⟩ := hv'
  refine lv_astore_n hx hb hd rfl (ma_all_has hL) hi rfl (fun L' hL' => ?_)
  subst hl
  exact k p l e R s m args below meth c H locs cells slots mc ms D aC A ad ad0 n0 L' S' hC ⟨hRm, hHR, hSX, hS, hA, hEx, ma_LR_set hL trivial hv hL', hSt, hCl⟩

theorem Go.iinc {sc : Nat × (Nat → Int32)} {cl rd : Bool} {d bc bs : Nat} {y : MD} {pc : Nat} {ls st : List AV} {h : AH} {Q : GO → AH → Prop} {i : Nat} {n : Int} {x v : Int32} {ls' : List AV} (hd : decode y.2.1 pc = .ok (.iinc i n, 3)) (hi : i < y.2.2.1) (hl0 : ls[i]? = some (vI x)) (hv : x + Int32.ofInt n = v) (hl : ls.set i (vI v) = ls') (k : Go sc cl rd d bc bs y (pc + 3) ls' st h Q) : Go sc cl rd d bc bs y pc ls st h Q := by
  intro p l e R s m args below meth c H locs cells slots mc ms D aC A ad ad0 n0 L S hC hDy
  obtain ⟨hx, hb, hml, hr, hown, hts, hlocks, hnm, hex, hK, hKa, hNc, hfl, hmH⟩ := id hC
  obtain ⟨hRm, hHR, hSX, hS, hA, hEx, hL, hSt, hCl⟩ := id hDy
  have hz : L[i]? = some (.val (.int x)) := by
    rcases hL.2.2 _ _ hl0 with q | ⟨-, z, q, rfl⟩
    · cases q
    · exact q
  obtain ⟨j, hj⟩ := List.getElem?_of_mem (ma_all_mem.mpr hz)
  refine lv_iinc hx hb hd (ma_all_has hL) hj hv hi rfl (fun L' hL' => ?_)
  subst hl
  exact k p l e R s m args below meth c H locs cells slots mc ms D aC A ad ad0 n0 L' S hC ⟨hRm, hHR, hSX, hS, hA, hEx, ma_LR_set hL trivial rfl hL', hSt, hCl⟩

theorem Go.iadd {sc : Nat × (Nat → Int32)} {cl rd : Bool} {d bc bs : Nat} {y : MD} {pc : Nat} {ls st : List AV} {h : AH} {Q : GO → AH → Prop} {x y' : Int32} (hd : decode y.2.1 pc = .ok (.iadd, 1)) (k : Go sc cl rd d bc bs y (pc + 1) ls (vI (x + y') :: st) h Q) : Go sc cl rd d bc bs y pc ls (vI y' :: vI x :: st) h Q := by
  intro p l e R s m args below meth c H locs cells slots mc ms D aC A ad ad0 n0 L S hC hDy
  obtain ⟨hx, hb, hml, hr, hown, hts, hlocks, hnm, hex, hK, hKa, hNc, hfl, hmH⟩ := id hC
  obtain ⟨hRm, hHR, hSX, hS, hA, hEx, hL, hSt, hCl⟩ := id hDy
  obtain ⟨z1, S1, rfl, rfl, z2, S2, rfl, rfl, hSt⟩ := hSt
  exact lv_iadd hx hb hd (k p l e R s m args below meth c H locs cells slots mc ms D aC A ad ad0 n0 L (.int (x + y') :: S2) hC ⟨hRm, hHR, hSX, hS, hA, hEx, hL, ⟨_, _, rfl, rfl, hSt⟩, hCl⟩)

theorem Go.isub {sc : Nat × (Nat → Int32)} {cl rd : Bool} {d bc bs : Nat} {y : MD} {pc : Nat} {ls st : List AV} {h : AH} {Q : GO → AH → Prop} {x y' : Int32} (hd : decode y.2.1 pc = .ok (.isub, 1)) (k : Go sc cl rd d bc bs y (pc + 1) ls (vI (x - y') :: st) h Q) : Go sc cl rd d bc bs y pc ls (vI y' :: vI x :: st) h Q := by
  intro p l e R s m args below meth c H locs cells slots mc ms D aC A ad ad0 n0 L S hC hDy
  obtain ⟨hx, hb, hml, hr, hown, hts, hlocks, hnm, hex, hK, hKa, hNc, hfl, hmH⟩ := id hC
  obtain ⟨hRm, hHR, hSX, hS, hA, hEx, hL, hSt, hCl⟩ := id hDy
  obtain ⟨z1, S1, rfl, rfl, z2, S2, rfl, rfl, hSt⟩ := hSt
  exact lv_isub hx hb hd (k p l e R s m args below meth c H locs cells slots mc ms D aC A ad ad0 n0 L (.int (x - y') :: S2) hC ⟨hRm, hHR, hSX, hS, hA, hEx, hL, ⟨_, _, rfl, rfl, hSt⟩, hCl⟩)

theorem Go.imul {sc : Nat × (Nat → Int32)} {cl rd : Bool} {d bc bs : Nat} {y : MD} {pc : Nat} {ls st : List AV} {h : AH} {Q : GO → AH → Prop} {x y' : Int32} (hd : decode y.2.1 pc = .ok (.imul, 1)) (k : Go sc cl rd d bc bs y (pc + 1) ls (vI (x * y') :: st) h Q) : Go sc cl rd d bc bs y pc ls (vI y' :: vI x :: st) h Q := by
  intro p l e R s m args below meth c H locs cells slots mc ms D aC A ad ad0 n0 L S hC hDy
  obtain ⟨hx, hb, hml, hr, hown, hts, hlocks, hnm, hex, hK, hKa, hNc, hfl, hmH⟩ := id hC
  obtain ⟨hRm, hHR, hSX, hS, hA, hEx, hL, hSt, hCl⟩ := id hDy
  obtain ⟨z1, S1, rfl, rfl, z2, S2, rfl, rfl, hSt⟩ := hSt
  exact lv_imul hx hb hd (k p l e R s m args below meth c H locs cells slots mc ms D aC A ad ad0 n0 L (.int (x * y') :: S2) hC ⟨hRm, hHR, hSX, hS, hA, hEx, hL, ⟨_, _, rfl, rfl, hSt⟩, hCl⟩)

theorem Go.iand {sc : Nat × (Nat → Int32)} {cl rd : Bool} {d bc bs : Nat} {y : MD} {pc : Nat} {ls st : List AV} {h : AH} {Q : GO → AH → Prop} {x y' : Int32} (hd : decode y.2.1 pc = .ok (.iand, 1)) (k : Go sc cl rd d bc bs y (pc + 1) ls (vI (x &&& y') :: st) h Q) : Go sc cl rd d bc bs y pc ls (vI y' :: vI x :: st) h Q := by
  intro p l e R s m args below meth c H locs cells slots mc ms D aC A ad ad0 n0 L S hC hDy
  obtain ⟨hx, hb, hml, hr, hown, hts, hlocks, hnm, hex, hK, hKa, hNc, hfl, hmH⟩ := id hC
  obtain ⟨hRm, hHR, hSX, hS, hA, hEx, hL, hSt, hCl⟩ := id hDy
  obtain ⟨z1, S1, rfl, rfl, z2, S2, rfl, rfl, hSt⟩ := hSt
  exact lv_iand hx hb hd (k p l e R s m args below meth c H locs cells slots mc ms D aC A ad ad0 n0 L (.int (x &&& y') :: S2) hC ⟨hRm, hHR, hSX, hS, hA, hEx, hL, ⟨_, _, rfl, rfl, hSt⟩, hCl⟩)

theorem Go.ior {sc : Nat × (Nat → Int32)} {cl rd : Bool} {d bc bs : Nat} {y : MD} {pc : Nat} {ls st : List AV} {h : AH} {Q : GO → AH → Prop} {x y' : Int32} (hd : decode y.2.1 pc = .ok (.ior, 1)) (k : Go sc cl rd d bc bs y (pc + 1) ls (vI (x ||| y') :: st) h Q) : Go sc cl rd d bc bs y pc ls (vI y' :: vI x :: st) h Q := by
  intro p l e R s m args below meth c H locs cells slots mc ms D aC A ad ad0 n0 L S hC hDy
  obtain ⟨hx, hb, hml, hr, hown, hts, hlocks, hnm, hex, hK, hKa, hNc, hfl, hmH⟩ := id hC
  obtain ⟨hRm, hHR, hSX, hS, hA, hEx, hL, hSt, hCl⟩ := id hDy
  obtain ⟨z1, S1, rfl, rfl, z2, S2, rfl, rfl, hSt⟩ := hSt
  exact lv_ior hx hb hd (k p l e R s m args below meth c H locs cells slots mc ms D aC A ad ad0 n0 L (.int (x ||| y') :: S2) hC ⟨hRm, hHR, hSX, hS, hA, hEx, hL, ⟨_, _, rfl, rfl, hSt⟩, hCl⟩)

theorem Go.ixor {sc : Nat × (Nat → Int32)} {cl rd : Bool} {d bc bs : Nat} {y : MD} {pc : Nat} {ls st : List AV} {h : AH} {Q : GO → AH → Prop} {x y' : Int32} (hd : decode y.2.1 pc = .ok (.ixor, 1)) (k : Go sc cl rd d bc bs y (pc + 1) ls (vI (x ^^^ y') :: st) h Q) : Go sc cl rd d bc bs y pc ls (vI y' :: vI x :: st) h Q := by
  intro p l e R s m args below meth c H locs cells slots mc ms D aC A ad ad0 n0 L S hC hDy
  obtain ⟨hx, hb, hml, hr, hown, hts, hlocks, hnm, hex, hK, hKa, hNc, hfl, hmH⟩ := id hC
  obtain ⟨hRm, hHR, hSX, hS, hA, hEx, hL, hSt, hCl⟩ := id hDy
  obtain ⟨z1, S1, rfl, rfl, z2, S2, rfl, rfl, hSt⟩ := hSt
  exact lv_ixor hx hb hd (k p l e R s m args below meth c H locs cells slots mc ms D aC A ad ad0 n0 L (.int (x ^^^ y') :: S2) hC ⟨hRm, hHR, hSX, hS, hA, hEx, hL, ⟨_, _, rfl, rfl, hSt⟩, hCl⟩)

theorem Go.ishl {sc : Nat × (Nat → Int32)} {cl rd : Bool} {d bc bs : Nat} {y : MD} {pc : Nat} {ls st : List AV} {h : AH} {Q : GO → AH → Prop} {x y' : Int32} (hd : decode y.2.1 pc = .ok (.ishl, 1)) (k : Go sc cl rd d bc bs y (pc + 1) ls (vI (x <<< (y' &&& 31)) :: st) h Q) : Go sc cl rd d bc bs y pc ls (vI y' :: vI x :: st) h Q := by
  intro p l e R s m args below meth c H locs cells slots mc ms D aC A ad ad0 n0 L S hC hDy
  obtain ⟨hx, hb, hml, hr, hown, hts, hlocks, hnm, hex, hK, hKa, hNc, hfl, hmH⟩ := id hC
  obtain ⟨hRm, hHR, hSX, hS, hA, hEx, hL, hSt, hCl⟩ := id hDy
  obtain ⟨z1, S1, rfl, rfl, z2, S2, rfl, rfl, hSt⟩ := hSt
  exact lv_ishl hx hb hd (k p l e R s m args below meth c H locs cells slots mc ms D aC A ad ad0 n0 L (.int (x <<< (y' &&& 31)) :: S2) hC ⟨hRm, hHR, hSX, hS, hA, hEx, hL, ⟨_, _, rfl, rfl, hSt⟩, hCl⟩)

theorem Go.i2l {sc : Nat × (Nat → Int32)} {cl rd : Bool} {d bc bs : Nat} {y : MD} {pc : Nat} {ls st : List AV} {h : AH} {Q : GO → AH → Prop} {x : Int32} (hd : decode y.2.1 pc = .ok (.i2l, 1)) (k : Go sc cl rd d bc bs y (pc + 1) ls (vL x.toInt64 :: st) h Q) : Go sc cl rd d bc bs y pc ls (vI x :: st) h Q := by
  intro p l e R s m args below meth c H locs cells slots mc ms D aC A ad ad0 n0 L S hC hDy
  obtain ⟨hx, hb, hml, hr, hown, hts, hlocks, hnm, hex, hK, hKa, hNc, hfl, hmH⟩ := id hC
  obtain ⟨hRm, hHR, hSX, hS, hA, hEx, hL, hSt, hCl⟩ := id hDy
  obtain ⟨z1, S1, rfl, rfl, hSt⟩ := hSt
  exact lv_i2l hx hb hd rfl (k p l e R s m args below meth c H locs cells slots mc ms D aC A ad ad0 n0 L (.long x.toInt64 :: S1) hC ⟨hRm, hHR, hSX, hS, hA, hEx, hL, ⟨_, _, rfl, rfl, hSt⟩, hCl⟩)

theorem Go.dup {sc : Nat × (Nat → Int32)} {cl rd : Bool} {d bc bs : Nat} {y : MD} {pc : Nat} {ls st : List AV} {h : AH} {Q : GO → AH → Prop} {v : AV} (hn : ma_nl v) (hd : decode y.2.1 pc = .ok (.dup, 1)) (k : Go sc cl rd d bc bs y (pc + 1) ls (v :: v :: st) h Q) : Go sc cl rd d bc bs y pc ls (v :: st) h Q := by
  intro p l e R s m args below meth c H locs cells slots mc ms D aC A ad ad0 n0 L S hC hDy
  obtain ⟨hx, hb, hml, hr, hown, hts, hlocks, hnm, hex, hK, hKa, hNc, hfl, hmH⟩ := id hC
  obtain ⟨hRm, hHR, hSX, hS, hA, hEx, hL, hSt, hCl⟩ := id hDy
  obtain ⟨z1, S1, rfl, hv, hSt⟩ := hSt
  exact lv_dup hx hb hd (ma_RV_cat hn hv) (k p l e R s m args below meth c H locs cells slots mc ms D aC A ad ad0 n0 L (z1 :: z1 :: S1) hC ⟨hRm, hHR, hSX, hS, hA, hEx, hL, ⟨_, _, rfl, hv, _, _, rfl, hv, hSt⟩, hCl⟩)

theorem Go.dup2 {sc : Nat × (Nat → Int32)} {cl rd : Bool} {d bc bs : Nat} {y : MD} {pc : Nat} {ls st : List AV} {h : AH} {Q : GO → AH → Prop} {v w : AV} (hn : ma_nl v) (hm : ma_nl w) (hd : decode y.2.1 pc = .ok (.dup2, 1)) (k : Go sc cl rd d bc bs y (pc + 1) ls (v :: w :: v :: w :: st) h Q) : Go sc cl rd d bc bs y pc ls (v :: w :: st) h Q := by
  intro p l e R s m args below meth c H locs cells slots mc ms D aC A ad ad0 n0 L S hC hDy
  obtain ⟨hx, hb, hml, hr, hown, hts, hlocks, hnm, hex, hK, hKa, hNc, hfl, hmH⟩ := id hC
  obtain ⟨hRm, hHR, hSX, hS, hA, hEx, hL, hSt, hCl⟩ := id hDy
  obtain ⟨z1, S1, rfl, hv, z2, S2, rfl, hw, hSt⟩ := hSt
  exact lv_dup2_11 hx hb hd (ma_RV_cat hn hv) (ma_RV_cat hm hw) (k p l e R s m args below meth c H locs cells slots mc ms D aC A ad ad0 n0 L (z1 :: z2 :: z1 :: z2 :: S2) hC ⟨hRm, hHR, hSX, hS, hA, hEx, hL, ⟨_, _, rfl, hv, _, _, rfl, hw, _, _, rfl, hv, _, _, rfl, hw, hSt⟩, hCl⟩)

theorem Go.pop {sc : Nat × (Nat → Int32)} {cl rd : Bool} {d bc bs : Nat} {y : MD} {pc : Nat} {ls st : List AV} {h : AH} {Q : GO → AH → Prop} {v : AV} (hn : ma_nl v) (hd : decode y.2.1 pc = .ok (.pop, 1)) (k : Go sc cl rd d bc bs y (pc + 1) ls st h Q) : Go sc cl rd d bc bs y pc ls (v :: st) h Q := by
  intro p l e R s m args below meth c H locs cells slots mc ms D aC A ad ad0 n0 L S hC hDy
  obtain ⟨hx, hb, hml, hr, hown, hts, hlocks, hnm, hex, hK, hKa, hNc, hfl, hmH⟩ := id hC
  obtain ⟨hRm, hHR, hSX, hS, hA, hEx, hL, hSt, hCl⟩ := id hDy
  obtain ⟨z1, S1, rfl, hv, hSt⟩ := hSt
  exact lv_pop hx hb hd (ma_RV_cat hn hv) (k p l e R s m args below meth c H locs cells slots mc ms D aC A ad ad0 n0 L S1 hC ⟨hRm, hHR, hSX, hS, hA, hEx, hL, hSt, hCl⟩)

theorem Go.if_eq {sc : Nat × (Nat → Int32)} {cl rd : Bool} {d bc bs : Nat} {y : MD} {pc : Nat} {ls st : List AV} {h : AH} {Q : GO → AH → Prop} {x : Int32} {off : Int} {tgt : Nat} (hd : decode y.2.1 pc = .ok (.ifCond .eq off, 3)) (ht : (pc : Int) + off = (tgt : Int)) (k : x = 0 → Go sc cl rd d bc bs y tgt ls st h Q) (k2 : ¬ (x = 0) → Go sc cl rd d bc bs y (pc + 3) ls st h Q) : Go sc cl rd d bc bs y pc ls (vI x :: st) h Q := by
  intro p l e R s m args below meth c H locs cells slots mc ms D aC A ad ad0 n0 L S hC hDy
  obtain ⟨hx, hb, hml, hr, hown, hts, hlocks, hnm, hex, hK, hKa, hNc, hfl, hmH⟩ := id hC
  obtain ⟨hRm, hHR, hSX, hS, hA, hEx, hL, hSt, hCl⟩ := id hDy
  obtain ⟨z1, S1, rfl, rfl, hSt⟩ := hSt
  exact lv_if_eq hx hb hd ht (fun q => k q p l e R s m args below meth c H locs cells slots mc ms D aC A ad ad0 n0 L S1 hC ⟨hRm, hHR, hSX, hS, hA, hEx, hL, hSt, hCl⟩) (fun q => k2 q p l e R s m args below meth c H locs cells slots mc ms D aC A ad ad0 n0 L S1 hC ⟨hRm, hHR, hSX, hS, hA, hEx, hL, hSt, hCl⟩)

theorem Go.icmp_eq {sc : Nat × (Nat → Int32)} {cl rd : Bool} {d bc bs : Nat} {y : MD} {pc : Nat} {ls st : List AV} {h : AH} {Q : GO → AH → Prop} {x y' : Int32} {off : Int} {tgt : Nat} (hd : decode y.2.1 pc = .ok (.if_icmp .eq off, 3)) (ht : (pc : Int) + off = (tgt : Int)) (k : x = y' → Go sc cl rd d bc bs y tgt ls st h Q) (k2 : ¬ (x = y') → Go sc cl rd d bc bs y (pc + 3) ls st h Q) : Go sc cl rd d bc bs y pc ls (vI y' :: vI x :: st) h Q := by
  intro p l e R s m args below meth c H locs cells slots mc ms D aC A ad ad0 n0 L S hC hDy
  obtain ⟨hx, hb, hml, hr, hown, hts, hlocks, hnm, hex, hK, hKa, hNc, hfl, hmH⟩ := id hC
  obtain ⟨hRm, hHR, hSX, hS, hA, hEx, hL, hSt, hCl⟩ := id hDy
  obtain ⟨z1, S1, rfl, rfl, z2, S2, rfl, rfl, hSt⟩ := hSt
  exact lv_icmp_eq hx hb hd ht (fun q => k q p l e R s m args below meth c H locs cells slots mc ms D aC A ad ad0 n0 L S2 hC ⟨hRm, hHR, hSX, hS, hA, hEx, hL, hSt, hCl⟩) (fun q => k2 q p l e R s m args below meth c H locs cells slots mc ms D aC A ad ad0 n0 L S2 hC ⟨hRm, hHR, hSX, hS, hA, hEx, hL, hSt, hCl⟩)

theorem Go.if_ne {sc : Nat × (Nat → Int32)} {cl rd : Bool} {d bc bs : Nat} {y : MD} {pc : Nat} {ls st : List AV} {h : AH} {Q : GO → AH → Prop} {x : Int32} {off : Int} {tgt : Nat} (hd : decode y.2.1 pc = .ok (.ifCond .ne off, 3)) (ht : (pc : Int) + off = (tgt : Int)) (k : ¬ x = 0 → Go sc cl rd d bc bs y tgt ls st h Q) (k2 : x = 0 → Go sc cl rd d bc bs y (pc + 3) ls st h Q) : Go sc cl rd d bc bs y pc ls (vI x :: st) h Q := by
  intro p l e R s m args below meth c H locs cells slots mc ms D aC A ad ad0 n0 L S hC hDy
  obtain ⟨hx, hb, hml, hr, hown, hts, hlocks, hnm, hex, hK, hKa, hNc, hfl, hmH⟩ := id hC
  obtain ⟨hRm, hHR, hSX, hS, hA, hEx, hL, hSt, hCl⟩ := id hDy
  obtain ⟨z1, S1, rfl, rfl, hSt⟩ := hSt
  exact lv_if_ne hx hb hd ht (fun q => k q p l e R s m args below meth c H locs cells slots mc ms D aC A ad ad0 n0 L S1 hC ⟨hRm, hHR, hSX, hS, hA, hEx, hL, hSt, hCl⟩) (fun q => k2 q p l e R s m args below meth c H locs cells slots mc ms D aC A ad ad0 n0 L S1 hC ⟨hRm, hHR, hSX, hS, hA, hEx, hL, hSt, hCl⟩)

theorem Go.icmp_ne {sc : Nat × (Nat → Int32)} {cl rd : Bool} {d bc bs : Nat} {y : MD} {pc : Nat} {ls st : List AV} {h : AH} {Q : GO → AH → Prop} {x y' : Int32} {off : Int} {tgt : Nat} (hd : decode y.2.1 pc = .ok (.if_icmp .ne off, 3)) (ht : (pc : Int) + off = (tgt : Int)) (k : ¬ x = y' → Go sc cl rd d bc bs y tgt ls st h Q) (k2 : x = y' → Go sc cl rd d bc bs y (pc + 3) ls st h Q) : Go sc cl rd d bc bs y pc ls (vI y' :: vI x :: st) h Q := by
  intro p l e R s m args below meth c H locs cells slots mc ms D aC A ad ad0 n0 L S hC hDy
  obtain ⟨hx, hb, hml, hr, hown, hts, hlocks, hnm, hex, hK, hKa, hNc, hfl, hmH⟩ := id hC
  obtain ⟨hRm, hHR, hSX, hS, hA, hEx, hL, hSt, hCl⟩ := id hDy
  obtain ⟨z1, S1, rfl, rfl, z2, S2, rfl, rfl, hSt⟩ := hSt
  exact lv_icmp_ne hx hb hd ht (fun q => k q p l e R s m args below meth c H locs cells slots mc ms D aC A ad ad0 n0 L S2 hC ⟨hRm, hHR, hSX, hS, hA, hEx, hL, hSt, hCl⟩) (fun q => k2 q p l e R s m args below meth c H locs cells slots mc ms D aC A ad ad0 n0 L S2 hC ⟨hRm, hHR, hSX, hS, hA, hEx, hL, hSt, hCl⟩)

theorem Go.if_lt {sc : Nat × (Nat → Int32)} {cl rd : Bool} {d bc bs : Nat} {y : MD} {pc : Nat} {ls st : List AV} {h : AH} {Q : GO → AH → Prop} {x : Int32} {off : Int} {tgt : Nat} (hd : decode y.2.1 pc = .ok (.ifCond .lt off, 3)) (ht : (pc : Int) + off = (tgt : Int)) (k : x < 0 → Go sc cl rd d bc bs y tgt ls st h Q) (k2 : ¬ (x < 0) → Go sc cl rd d bc bs y (pc + 3) ls st h Q) : Go sc cl rd d bc bs y pc ls (vI x :: st) h Q := by
  intro p l e R s m args below meth c H locs cells slots mc ms D aC A ad ad0 n0 L S hC hDy
  obtain ⟨hx, hb, hml, hr, hown, hts, hlocks, hnm, hex, hK, hKa, hNc, hfl, hmH⟩ := id hC
  obtain ⟨hRm, hHR, hSX, hS, hA, hEx, hL, hSt, hCl⟩ := id hDy
  obtain ⟨z1, S1, rfl, rfl, hSt⟩ := hSt
  exact lv_if_lt hx hb hd ht (fun q => k q p l e R s m args below meth c H locs cells slots mc ms D aC A ad ad0 n0 L S1 hC ⟨hRm, hHR, hSX, hS, hA, hEx, hL, hSt, hCl⟩) (fun q => k2 q p l e R s m args below meth c H locs cells slots mc ms D aC A ad ad0 n0 L S1 hC ⟨hRm, hHR, hSX, hS, hA, hEx, hL, hSt, hCl⟩)

theorem Go.icmp_lt {sc : Nat × (Nat → Int32)} {cl rd : Bool} {d bc bs : Nat} {y : MD} {pc : Nat} {ls st : List AV} {h : AH} {Q : GO → AH → Prop} {x y' : Int32} {off : Int} {tgt : Nat} (hd : decode y.2.1 pc = .ok (.if_icmp .lt off, 3)) (ht : (pc : Int) + off = (tgt : Int)) (k : x < y' → Go sc cl rd d bc bs y tgt ls st h Q) (k2 : ¬ (x < y') → Go sc cl rd d bc bs y (pc + 3) ls st h Q) : Go sc cl rd d bc bs y pc ls (vI y' :: vI x :: st) h Q := by
  intro p l e R s m args below meth c H locs cells slots mc ms D aC A ad ad0 n0 L S hC hDy
  obtain ⟨hx, hb, hml, hr, hown, hts, hlocks, hnm, hex, hK, hKa, hNc, hfl, hmH⟩ := id hC
  obtain ⟨hRm, hHR, hSX, hS, hA, hEx, hL, hSt, hCl⟩ := id hDy
  obtain ⟨z1, S1, rfl, rfl, z2, S2, rfl, rfl, hSt⟩ := hSt
  exact lv_icmp_lt hx hb hd ht (fun q => k q p l e R s m args below meth c H locs cells slots mc ms D aC A ad ad0 n0 L S2 hC ⟨hRm, hHR, hSX, hS, hA, hEx, hL, hSt, hCl⟩) (fun q => k2 q p l e R s m args below meth c H locs cells slots mc ms D aC A ad ad0 n0 L S2 hC ⟨hRm, hHR, hSX, hS, hA, hEx, hL, hSt, hCl⟩)

theorem Go.if_ge {sc : Nat × (Nat → Int32)} {cl rd : Bool} {d bc bs : Nat} {y : MD} {pc : Nat} {ls st : List AV} {h : AH} {Q : GO → AH → Prop} {x : Int32} {off : Int} {tgt : Nat} (hd : decode y.2.1 pc = .ok (.ifCond .ge off, 3)) (ht : (pc : Int) + off = (tgt : Int)) (k : 0 ≤ x → Go sc cl rd d bc bs y tgt ls st h Q) (k2 : ¬ (0 ≤ x) → Go sc cl rd d bc bs y (pc + 3) ls st h Q) : Go sc cl rd d bc bs y pc ls (vI x :: st) h Q := by
  intro p l e R s m args below meth c H locs cells slots mc ms D aC A ad ad0 n0 L S hC hDy
  obtain ⟨hx, hb, hml, hr, hown, hts, hlocks, hnm, hex, hK, hKa, hNc, hfl, hmH⟩ := id hC
  obtain ⟨hRm, hHR, hSX, hS, hA, hEx, hL, hSt, hCl⟩ := id hDy
  obtain ⟨z1, S1, rfl, rfl, hSt⟩ := hSt
  exact lv_if_ge hx hb hd ht (fun q => k q p l e R s m args below meth c H locs cells slots mc ms D aC A ad ad0 n0 L S1 hC ⟨hRm, hHR, hSX, hS, hA, hEx, hL, hSt, hCl⟩) (fun q => k2 q p l e R s m args below meth c H locs cells slots mc ms D aC A ad ad0 n0 L S1 hC ⟨hRm, hHR, hSX, hS, hA, hEx, hL, hSt, hCl⟩)

theorem Go.icmp_ge {sc : Nat × (Nat → Int32)} {cl rd : Bool} {d bc bs : Nat} {y : MD} {pc : Nat} {ls st : List AV} {h : AH} {Q : GO → AH → Prop} {x y' : Int32} {off : Int} {tgt : Nat} (hd : decode y.2.1 pc = .ok (.if_icmp .ge off, 3)) (ht : (pc : Int) + off = (tgt : Int)) (k : y' ≤ x → Go sc cl rd d bc bs y tgt ls st h Q) (k2 : ¬ (y' ≤ x) → Go sc cl rd d bc bs y (pc + 3) ls st h Q) : Go sc cl rd d bc bs y pc ls (vI y' :: vI x :: st) h Q := by
  intro p l e R s m args below meth c H locs cells slots mc ms D aC A ad ad0 n0 L S hC hDy
  obtain ⟨hx, hb, hml, hr, hown, hts, hlocks, hnm, hex, hK, hKa, hNc, hfl, hmH⟩ := id hC
  obtain ⟨hRm, hHR, hSX, hS, hA, hEx, hL, hSt, hCl⟩ := id hDy
  obtain ⟨z1, S1, rfl, rfl, z2, S2, rfl, rfl, hSt⟩ := hSt
  exact lv_icmp_ge hx hb hd ht (fun q => k q p l e R s m args below meth c H locs cells slots mc ms D aC A ad ad0 n0 L S2 hC ⟨hRm, hHR, hSX, hS, hA, hEx, hL, hSt, hCl⟩) (fun q => k2 q p l e R s m args below meth c H locs cells slots mc ms D aC A ad ad0 n0 L S2 hC ⟨hRm, hHR, hSX, hS, hA, hEx, hL, hSt, hCl⟩)

theorem Go.if_gt {sc : Nat × (Nat → Int32)} {cl rd : Bool} {d bc bs : Nat} {y : MD} {pc : Nat} {ls st : List AV} {h : AH} {Q : GO → AH → Prop} {x : Int32} {off : Int} {tgt : Nat} (hd : decode y.2.1 pc = .ok (.ifCond .gt off, 3)) (ht : (pc : Int) + off = (tgt : Int)) (k : 0 < x → Go sc cl rd d bc bs y tgt ls st h Q) (k2 : ¬ (0 < x) → Go sc cl rd d bc bs y (pc + 3) ls st h Q) : Go sc cl rd d bc bs y pc ls (vI x :: st) h Q := by
  intro p l e R s m args below meth c H locs cells slots mc ms D aC A ad ad0 n0 L S hC hDy
  obtain ⟨hx, hb, hml, hr, hown, hts, hlocks, hnm, hex, hK, hKa, hNc, hfl, hmH⟩ := id hC
  obtain ⟨hRm, hHR, hSX, hS, hA, hEx, hL, hSt, hCl⟩ := id hDy
  obtain ⟨z1, S1, rfl, rfl, hSt⟩ := hSt
  exact lv_if_gt hx hb hd ht (fun q => k q p l e R s m args below meth c H locs cells slots mc ms D aC A ad ad0 n0 L S1 hC ⟨hRm, hHR, hSX, hS, hA, hEx, hL, hSt, hCl⟩) (fun q => k2 q p l e R s m args below meth c H locs cells slots mc ms D aC A ad ad0 n0 L S1 hC ⟨hRm, hHR, hSX, hS, hA, hEx, hL, hSt, hCl⟩)

theorem Go.icmp_gt {sc : Nat × (Nat → Int32)} {cl rd : Bool} {d bc bs : Nat} {y : MD} {pc : Nat} {ls st : List AV} {h : AH} {Q : GO → AH → Prop} {x y' : Int32} {off : Int} {tgt : Nat} (hd : decode y.2.1 pc = .ok (.if_icmp .gt off, 3)) (ht : (pc : Int) + off = (tgt : Int)) (k : y' < x → Go sc cl rd d bc bs y tgt ls st h Q) (k2 : ¬ (y' < x) → Go sc cl rd d bc bs y (pc + 3) ls st h Q) : Go sc cl rd d bc bs y pc ls (vI y' :: vI x :: st) h Q := by
  intro p l e R s m args below meth c H locs cells slots mc ms D aC A ad ad0 n0 L S hC hDy
  obtain ⟨hx, hb, hml, hr, hown, hts, hlocks, hnm, hex, hK, hKa, hNc, hfl, hmH⟩ := id hC
  obtain ⟨hRm, hHR, hSX, hS, hA, hEx, hL, hSt, hCl⟩ := id hDy
  obtain ⟨z1, S1, rfl, rfl, z2, S2, rfl, rfl, hSt⟩ := hSt
  exact lv_icmp_gt hx hb hd ht (fun q => k q p l e R s m args below meth c H locs cells slots mc ms D aC A ad ad0 n0 L S2 hC ⟨hRm, hHR, hSX, hS, hA, hEx, hL, hSt, hCl⟩) (fun q => k2 q p l e R s m args below meth c H locs cells slots mc ms D aC A ad ad0 n0 L S2 hC ⟨hRm, hHR, hSX, hS, hA, hEx, hL, hSt, hCl⟩)

theorem Go.if_le {sc : Nat × (Nat → Int32)} {cl rd : Bool} {d bc bs : Nat} {y : MD} {pc : Nat} {ls st : List AV} {h : AH} {Q : GO → AH → Prop} {x : Int32} {off : Int} {tgt : Nat} (hd : decode y.2.1 pc = .ok (.ifCond .le off, 3)) (ht : (pc : Int) + off = (tgt : Int)) (k : x ≤ 0 → Go sc cl rd d bc bs y tgt ls st h Q) (k2 : ¬ (x ≤ 0) → Go sc cl rd d bc bs y (pc + 3) ls st h Q) : Go sc cl rd d bc bs y pc ls (vI x :: st) h Q := by
  intro p l e R s m args below meth c H locs cells slots mc ms D aC A ad ad0 n0 L S hC hDy
  obtain ⟨hx, hb, hml, hr, hown, hts, hlocks, hnm, hex, hK, hKa, hNc, hfl, hmH⟩ := id hC
  obtain ⟨hRm, hHR, hSX, hS, hA, hEx, hL, hSt, hCl⟩ := id hDy
  obtain ⟨z1, S1, rfl, rfl, hSt⟩ := hSt
  exact lv_if_le hx hb hd ht (fun q => k q p l e R s m args below meth c H locs cells slots mc ms D aC A ad ad0 n0 L S1 hC ⟨hRm, hHR, hSX, hS, hA, hEx, hL, hSt, hCl⟩) (fun q => k2 q p l e R s m args below meth c H locs cells slots mc ms D aC A ad ad0 n0 L S1 hC ⟨hRm, hHR, hSX, hS, hA, hEx, hL, hSt, hCl⟩)

theorem Go.icmp_le {sc : Nat × (Nat → Int32)} {cl rd : Bool} {d bc bs : Nat} {y : MD} {pc : Nat} {ls st : List AV} {h : AH} {Q : GO → AH → Prop} {x y' : Int32} {off : Int} {tgt : Nat} (hd : decode y.2.1 pc = .ok (.if_icmp .le off, 3)) (ht : (pc : Int) + off = (tgt : Int)) (k : x ≤ y' → Go sc cl rd d bc bs y tgt ls st h Q) (k2 : ¬ (x ≤ y') → Go sc cl rd d bc bs y (pc + 3) ls st h Q) : Go sc cl rd d bc bs y pc ls (vI y' :: vI x :: st) h Q := by
  intro p l e R s m args below meth c H locs cells slots mc ms D aC A ad ad0 n0 L S hC hDy
  obtain ⟨hx, hb, hml, hr, hown, hts, hlocks, hnm, hex, hK, hKa, hNc, hfl, hmH⟩ := id hC
  obtain ⟨hRm, hHR, hSX, hS, hA, hEx, hL, hSt, hCl⟩ := id hDy
  obtain ⟨z1, S1, rfl, rfl, z2, S2, rfl, rfl, hSt⟩ := hSt
  exact lv_icmp_le hx hb hd ht (fun q => k q p l e R s m args below meth c H locs cells slots mc ms D aC A ad ad0 n0 L S2 hC ⟨hRm, hHR, hSX, hS, hA, hEx, hL, hSt, hCl⟩) (fun q => k2 q p l e R s m args below meth c H locs cells slots mc ms D aC A ad ad0 n0 L S2 hC ⟨hRm, hHR, hSX, hS, hA, hEx, hL, hSt, hCl⟩)

theorem Go.goto {sc : Nat × (Nat → Int32)} {cl rd : Bool} {d bc bs : Nat} {y : MD} {pc : Nat} {ls st : List AV} {h : AH} {Q : GO → AH → Prop} {off : Int} {tgt : Nat} (hd : decode y.2.1 pc = .ok (.goto off, 3)) (ht : (pc : Int) + off = (tgt : Int)) (k : Go sc cl rd d bc bs y tgt ls st h Q) : Go sc cl rd d bc bs y pc ls st h Q := by
  intro p l e R s m args below meth c H locs cells slots mc ms D aC A ad ad0 n0 L S hC hDy
  obtain ⟨hx, hb, hml, hr, hown, hts, hlocks, hnm, hex, hK, hKa, hNc, hfl, hmH⟩ := id hC
  obtain ⟨hRm, hHR, hSX, hS, hA, hEx, hL, hSt, hCl⟩ := id hDy
  exact lv_goto hx hb hd ht (k p l e R s m args below meth c H locs cells slots mc ms D aC A ad ad0 n0 L S hC ⟨hRm, hHR, hSX, hS, hA, hEx, hL, hSt, hCl⟩)

theorem Go.tabOut {sc : Nat × (Nat → Int32)} {cl rd : Bool} {d bc bs : Nat} {y : MD} {pc : Nat} {ls st : List AV} {h : AH} {Q : GO → AH → Prop} {dflt lo hi : Int} {offs : Array Int} {len : Nat} {x : Int32} {tgt : Nat} (hd : decode y.2.1 pc = .ok (.tableswitch dflt lo hi offs, len)) (hh : x.toInt < lo ∨ hi < x.toInt) (ht : (pc : Int) + dflt = (tgt : Int)) (k : Go sc cl rd d bc bs y tgt ls st h Q) : Go sc cl rd d bc bs y pc ls (vI x :: st) h Q := by
  intro p l e R s m args below meth c H locs cells slots mc ms D aC A ad ad0 n0 L S hC hDy
  obtain ⟨hx, hb, hml, hr, hown, hts, hlocks, hnm, hex, hK, hKa, hNc, hfl, hmH⟩ := id hC
  obtain ⟨hRm, hHR, hSX, hS, hA, hEx, hL, hSt, hCl⟩ := id hDy
  obtain ⟨z1, S1, rfl, rfl, hSt⟩ := hSt
  exact lv_tableOut hx hb hd hh ht (k p l e R s m args below meth c H locs cells slots mc ms D aC A ad ad0 n0 L S1 hC ⟨hRm, hHR, hSX, hS, hA, hEx, hL, hSt, hCl⟩)

theorem Go.tabIn {sc : Nat × (Nat → Int32)} {cl rd : Bool} {d bc bs : Nat} {y : MD} {pc : Nat} {ls st : List AV} {h : AH} {Q : GO → AH → Prop} {dflt lo hi : Int} {offs : Array Int} {len : Nat} {x : Int32} {off : Int} {tgt : Nat} (hd : decode y.2.1 pc = .ok (.tableswitch dflt lo hi offs, len)) (h1 : ¬ x.toInt < lo) (h2 : ¬ hi < x.toInt) (ho : offs[(x.toInt - lo).toNat]? = some off) (ht : (pc : Int) + off = (tgt : Int)) (k : Go sc cl rd d bc bs y tgt ls st h Q) : Go sc cl rd d bc bs y pc ls (vI x :: st) h Q := by
  intro p l e R s m args below meth c H locs cells slots mc ms D aC A ad ad0 n0 L S hC hDy
  obtain ⟨hx, hb, hml, hr, hown, hts, hlocks, hnm, hex, hK, hKa, hNc, hfl, hmH⟩ := id hC
  obtain ⟨hRm, hHR, hSX, hS, hA, hEx, hL, hSt, hCl⟩ := id hDy
  obtain ⟨z1, S1, rfl, rfl, hSt⟩ := hSt
  exact lv_tableIn hx hb hd h1 h2 ho ht (k p l e R s m args below meth c H locs cells slots mc ms D aC A ad ad0 n0 L S1 hC ⟨hRm, hHR, hSX, hS, hA, hEx, hL, hSt, hCl⟩)
