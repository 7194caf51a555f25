/-! CALLS: a callee's Go becomes a step of the caller -/
theorem ma_weaken {tb : Tables} {e : Env} {g : Frame} {below : List Frame} {a b : State} (h : Steps tb e (g :: below) a b) : Steps tb e below a b := by
  obtain ⟨n, hn, w⟩ := h
  exact ⟨n, hn, fun k hk => Within.weaken (mid := [g]) (w k hk)⟩
def ma_CW (y2 : MD) : Prop := (y2.2.2.2.2 = [] ∧ Cond.code y2.1 y2.2.1 y2.2.2.1 y2.2.2.2.1 ∈ maT) ∨ Cond.codeWith y2.1 y2.2.1 y2.2.2.1 y2.2.2.2.1 y2.2.2.2.2 ∈ maT
theorem ma_CW_spec {y2 : MD} {args : Array Value} {s : State} (hts : ∀ w ∈ maT, w.before args s = true) (h : ma_CW y2) : ∃ mk meth c, s.methodNamed? y2.1 = some mk ∧ s.vm.method? mk = some meth ∧ meth.code = some c ∧ c.code = y2.2.1 ∧ c.maxLocals = y2.2.2.1 ∧ meth.sig.returnType = y2.2.2.2.1 ∧ meth.locks = false ∧ c.exceptionTable.toList = tableOf y2.2.2.2.2 ∧ parseMethodDescriptor y2.1.desc = some meth.sig := by
  rcases h with ⟨h0, h⟩ | h
  · obtain ⟨mk, hn⟩ := Cond.code_named (hts _ h)
    obtain ⟨meth, c, h1, h2, h3, h4, h5, h6, h7, h8⟩ := Cond.code_spec hn (hts _ h)
    refine ⟨mk, meth, c, hn, h1, h2, h3, h4, h5, h6, ?_, h8⟩
    rw [h0]
    have h9 : c.exceptionTable = #[] := by simpa using h7
    rw [h9]
    rfl
  · obtain ⟨mk, meth, c, hn, h1, h2, h3, h4, h7, h5, h6, h8⟩ := Cond.codeWith_spec (hts _ h)
    exact ⟨mk, meth, c, hn, h1, h2, h3, h4, h5, h6, by rw [← h7]; exact (table_eq _).symm, h8⟩
theorem ma_SR_get {ad : Nat → Nat → Nat} {n : Nat → Nat} : ∀ {vs : List AV} {As : List Value} {k : Nat} {v : AV}, ma_SR ad n vs As → vs[k]? = some v → ∃ x, As[k]? = some x ∧ ma_RV ad n v x
  | [], _, _, _, _, h => by simp at h
  | _ :: _, _, 0, _, ⟨x, S', e, h1, _⟩, h => by subst e; simp at h; subst h; exact ⟨x, rfl, h1⟩
  | _ :: _, _, k + 1, _, ⟨x, S', e, _, h2⟩, h => by subst e; simp at h; obtain ⟨z, h3, h4⟩ := ma_SR_get h2 h; exact ⟨z, by simpa using h3, h4⟩
theorem ma_SR_len {ad : Nat → Nat → Nat} {n : Nat → Nat} : ∀ {vs : List AV} {As : List Value}, ma_SR ad n vs As → As.length = vs.length
  | [], _, h => by cases h; rfl
  | _ :: _, _, ⟨x, S', e, _, h2⟩ => by subst e; simp [ma_SR_len h2]
theorem ma_sl {ad : Nat → Nat → Nat} {n : Nat → Nat} : ∀ {vs : List AV} {As : List Value}, ma_SR ad n vs As → (∀ v ∈ vs, ma_nl v) → lg_sl As = As.map Slot.val
  | [], _, h, _ => by cases h; rfl
  | v :: vs, _, ⟨x, S', e, h1, h2⟩, hn => by
    subst e
    have h3 := ma_sl h2 (fun w hw => hn w (List.mem_cons_of_mem _ hw))
    have h4 : x.category = 1 := ma_RV_cat (hn v List.mem_cons_self) h1
    unfold lg_sl at h3 ⊢
    rw [List.flatMap_cons, h3]
    simp [h4]
theorem ma_LR_entry {ad : Nat → Nat → Nat} {n : Nat → Nat} {vs : List AV} {As : List Value} {N : Nat} (h : ma_SR ad n vs As) (hn : ∀ v ∈ vs, ma_nl v) (hN : vs.length ≤ N) : ma_LR ad n N (vs ++ List.replicate (N - vs.length) vU) ((lg_sl As ++ List.replicate (N - (lg_sl As).length) Slot.unset).toArray) := by
  have e1 := ma_sl h hn
  have e2 := ma_SR_len h
  have hl := lv_entry As (n := N) (by rw [e1, List.length_map, e2]; exact hN)
  refine ⟨hl.1, hl.2.1, fun k v hk => ?_⟩
  by_cases hkl : k < vs.length
  · rw [List.getElem?_append_left hkl] at hk
    obtain ⟨x, q1, q2⟩ := ma_SR_get h hk
    refine Or.inr ⟨hn v (List.mem_of_getElem? hk), x, ?_, q2⟩
    rw [List.getElem?_toArray, e1, List.getElem?_append_left (by rw [List.length_map, e2]; exact hkl), List.getElem?_map, q1]
    rfl
  · rw [List.getElem?_append_right (by omega)] at hk
    exact Or.inl (List.eq_of_mem_replicate (List.mem_of_getElem? hk))
theorem ma_exc {args : Array Value} {s : State} {k : Nat} {cX : ClassId} (hts : ∀ w ∈ maT, w.before args s = true) (h : s.vm.findClass (ma_en k) = some cX) : ∃ kX : Class, s.vm.classes[cX]? = some kX ∧ kX.kind = .ordinary := by
  have hi : Cond.instantiable (ma_en k) 6 ∈ maT := by
    unfold ma_en
    split
    · exact ma_in (by decide +kernel) rfl
    · exact ma_in (by decide +kernel) rfl
    · exact ma_in (by decide +kernel) rfl
    · exact ma_in (by decide +kernel) rfl
  obtain ⟨c1, kX, h1, h2, h3, -⟩ := Cond.instantiable_spec (hts _ hi)
  cases h.symm.trans h1
  exact ⟨kX, h2, h3⟩
/-- the handler that takes an exception of the kind k thrown at pc -/
def ma_hs (own : String) (pc k : Nat) : List (Nat × Nat × Nat × Nat) → Nat → Prop
  | [], _ => False
  | q :: r, tgt => (covers ⟨q.1, q.2.1, q.2.2.1, q.2.2.2⟩ pc = false ∧ ma_hs own pc k r tgt) ∨ (covers ⟨q.1, q.2.1, q.2.2.1, q.2.2.2⟩ pc = true ∧ q.2.2.2 ≠ 0 ∧ ∃ C, Cond.classLink own q.2.2.2 C ∈ maT ∧ ((C = ma_en k ∧ tgt = q.2.2.1) ∨ ((∃ j, C = ma_en j ∧ 1 ≤ j ∧ j ≤ 4 ∧ 1 ≤ k ∧ k ≤ 4 ∧ k ≠ j) ∧ ma_hs own pc k r tgt)))
def ma_hf (y : MD) (pc k tgt : Nat) : Prop := ma_hs y.1.cls pc k y.2.2.2.2 tgt
section HANDLERS
variable {e : Env} {f : JFrame} {a : Addr}
theorem ma_goYes {Q : Handler → Pre} {E : CtlPost} {d : Bool} {acts : List Action} {U : State} {x : ExceptionTableEntry} {t : List ExceptionTableEntry} {cT : ClassId} {cell : Cell} (hx : covers x f.pc = true) (h0 : x.catchType ≠ 0) (hl : U.vm.ClassLinks e.platform f.method.cls x.catchType cT) (hcell : U.heap[a]? = some cell) (hobj : cell.vm.isStatics = false) (hk : ∃ k, U.vm.classes[cell.cls]? = some k) (hc : ∃ k, U.vm.classes[cT]? = some k) (hfit : U.vm.assignable cell.cls cT = true) :
    wp (findHandler.go f a (x :: t)) Q E e d acts U ↔ Q (.found x.handlerPc) d acts (U.setVm (U.vm.noted f.method.cls x.catchType (.cls cT))) := by
  have hx' := hx
  simp only [covers] at hx'
  have hgive := (resolveClass_links e.toSetting hl).op (op := VmOp.resolveClass f.method.cls x.catchType) rfl
  have hal : U.vm.Alike (U.vm.noted f.method.cls x.catchType (.cls cT)) := (Vm.Alike.refl U.vm).noted _ _ _
  obtain ⟨k1, hk1⟩ := hk
  obtain ⟨k2, hk2⟩ := hc
  obtain ⟨j1, hj1, -⟩ := hal.2.2 _ _ hk1
  obtain ⟨j2, hj2, -⟩ := hal.2.2 _ _ hk2
  have hfit2 : (U.vm.noted f.method.cls x.catchType (.cls cT)).assignable cell.cls cT = true := by rw [hal.assignable]; exact hfit
  have hobj2 := VmData.ne_statics_of hobj
  simp [findHandler.go, hx', h0, hgive.1, hgive.2, hcell, hobj2, hj1, hj2, hfit2, VmOp.dirties, VmOp.acts]
theorem ma_goNo {Q : Handler → Pre} {E : CtlPost} {d : Bool} {acts : List Action} {U : State} {x : ExceptionTableEntry} {t : List ExceptionTableEntry} {cT : ClassId} {cell : Cell} (hx : covers x f.pc = true) (h0 : x.catchType ≠ 0) (hl : U.vm.ClassLinks e.platform f.method.cls x.catchType cT) (hcell : U.heap[a]? = some cell) (hobj : cell.vm.isStatics = false) (hk : ∃ k, U.vm.classes[cell.cls]? = some k) (hc : ∃ k, U.vm.classes[cT]? = some k) (hfit : U.vm.assignable cell.cls cT = false) :
    wp (findHandler.go f a (x :: t)) Q E e d acts U ↔ wp (findHandler.go f a t) Q E e d acts (U.setVm (U.vm.noted f.method.cls x.catchType (.cls cT))) := by
  have hx' := hx
  simp only [covers] at hx'
  have hgive := (resolveClass_links e.toSetting hl).op (op := VmOp.resolveClass f.method.cls x.catchType) rfl
  have hal : U.vm.Alike (U.vm.noted f.method.cls x.catchType (.cls cT)) := (Vm.Alike.refl U.vm).noted _ _ _
  obtain ⟨k1, hk1⟩ := hk
  obtain ⟨k2, hk2⟩ := hc
  obtain ⟨j1, hj1, -⟩ := hal.2.2 _ _ hk1
  obtain ⟨j2, hj2, -⟩ := hal.2.2 _ _ hk2
  have hfit2 : (U.vm.noted f.method.cls x.catchType (.cls cT)).assignable cell.cls cT = false := by rw [hal.assignable]; exact hfit
  have hobj2 := VmData.ne_statics_of hobj
  rw [findHandler.go]
  simp [hx', h0, hgive.1, hgive.2, hcell, hobj2, hj1, hj2, hfit2, VmOp.dirties, VmOp.acts]
theorem ma_find {s : State} {args : Array Value} {own : String} {k : Nat} {cell : Cell} {cX : ClassId} (hpl : e.platform.magicAccessors = ({} : Platform).magicAccessors) (hown : s.vm.findClass own = some f.method.cls) (hts : ∀ w ∈ maT, w.before args s = true) (hNc : ∀ j k, 1 ≤ j → j ≤ 4 → 1 ≤ k → k ≤ 4 → j ≠ k → va_Nc (ma_en j) (ma_en k) s) (hX : s.vm.findClass (ma_en k) = some cX) (hcX : ClassAt s (ma_en k) cX) (hcl : cell.cls = cX) (hobj : cell.vm.isStatics = false) :
    ∀ (hs : List (Nat × Nat × Nat × Nat)) (tgt : Nat) (U : State), s.WarmedH U.vm → U.heap[a]? = some cell → ma_hs own f.pc k hs tgt → ∃ vm', s.WarmedH vm' ∧ ∀ (Q : Handler → Pre) (E : CtlPost) (d : Bool) (acts : List Action), wp (findHandler.go f a (tableOf hs)) Q E e d acts U ↔ Q (.found tgt) d acts (U.setVm vm')
  | [], _, _, _, _, h => h.elim
  | q :: r, tgt, U, hW, hcell, h => by
    rcases h with ⟨hno, h⟩ | ⟨hyes, h0, C, hlk, h⟩
    · obtain ⟨vm', h1, h2⟩ := ma_find hpl hown hts hNc hX hcX hcl hobj r tgt U hW hcell h
      refine ⟨vm', h1, fun Q E d acts => ?_⟩
      rw [show tableOf (q :: r) = ⟨q.1, q.2.1, q.2.2.1, q.2.2.2⟩ :: tableOf r from rfl, W.findHandler_go_skip hno]
      exact h2 Q E d acts
    · obtain ⟨cT, hcT, hlnk⟩ := Cond.classLink_spec hown (hts _ hlk) e.platform hpl
      obtain ⟨dk, _, _, kt, hd, _, _, _, _, hkt, _, hopen⟩ := hlnk.here
      have hl0 := hW.classLinks hlnk
      have hW' : s.WarmedH (U.vm.noted f.method.cls q.2.2.2 (.cls cT)) := hW.noted hd hopen (State.rightAt_cls hlnk)
      obtain ⟨kt', hkt', -⟩ := hW.alike.2.2 _ _ hkt
      obtain ⟨-, kX, hkX, hkXk⟩ := hcX
      obtain ⟨kX', hkX', -⟩ := hW.alike.2.2 _ _ hkX
      rcases h with ⟨rfl, rfl⟩ | ⟨hnc, h⟩
      · have hcc : cT = cX := Option.some.inj (hcT.symm.trans hX)
        subst hcc
        refine ⟨_, hW', fun Q E d acts => ?_⟩
        rw [show tableOf (q :: r) = ⟨q.1, q.2.1, q.2.2.1, q.2.2.2⟩ :: tableOf r from rfl]
        exact ma_goYes hyes h0 hl0 hcell hobj (by rw [hcl]; exact ⟨kX', hkX'⟩) ⟨kt', hkt'⟩ (by rw [hcl, hW.alike.assignable]; exact va_assign ⟨hX, kX, hkX, hkXk⟩)
      · obtain ⟨jj, rfl, j1, j2, j3, j4, j5⟩ := hnc
        obtain ⟨c1, t1, e1, e2, e3⟩ := hNc k jj j3 j4 j1 j2 j5
        cases hX.symm.trans e1
        cases hcT.symm.trans e2
        obtain ⟨vm', h1, h2⟩ := ma_find hpl hown hts hNc hX ⟨hX, kX, hkX, hkXk⟩ hcl hobj r tgt (U.setVm (U.vm.noted f.method.cls q.2.2.2 (.cls cT))) hW' hcell h
        refine ⟨vm', h1, fun Q E d acts => ?_⟩
        rw [show tableOf (q :: r) = ⟨q.1, q.2.1, q.2.2.1, q.2.2.2⟩ :: tableOf r from rfl, ma_goNo hyes h0 hl0 hcell hobj (by rw [hcl]; exact ⟨kX', hkX'⟩) ⟨kt', hkt'⟩ (by rw [hcl, hW.alike.assignable]; exact e3)]
        exact h2 Q E d acts
end HANDLERS
/-- the thrown object is caught: the frame goes on at the handler -/
theorem ma_caught {tb : Tables} {e : Env} {U target : State} {m : MethodId} {pc tgt : Nat} {L : Array Slot} {S' : List Value} {c : Code} {below : List Frame} {x : Addr} {meth : Method} {vm' : Vm} {hs : List (Nat × Nat × Nat × Nat)} (hA : At U m c below) (hm : U.vm.method? m = some meth) (hc : meth.code = some c) (hex : c.exceptionTable.toList = tableOf hs)
    (hfind : ∀ (Q : Handler → Pre) (E : CtlPost) (d : Bool) (acts : List Action), wp (findHandler.go (F0 m pc L S') x (tableOf hs)) Q E e d acts ((U.setTop (F0 m pc L S')).pushFrame (.throwing x)) ↔ Q (.found tgt) d acts (((U.setTop (F0 m pc L S')).pushFrame (.throwing x)).setVm vm'))
    (hrest : Steps tb e below ((U.setVm vm').setTop (F0 m tgt L [.ref x])) target) : Steps tb e below ((U.setTop (F0 m pc L S')).pushFrame (.throwing x)) target := by
  obtain ⟨hgo, hw⟩ := At.throwing (g := F0 m pc L S') hA x
  refine Steps.head hgo hw ?_
  obtain ⟨g₀, hg⟩ := Option.isSome_iff_exists.mp hA.top
  obtain ⟨r, hr⟩ := State.topJava?_eq_some.mp hg
  have hm' : ((U.setTop (F0 m pc L S')).pushFrame (.throwing x)).vm.method? (F0 m pc L S').method = some meth := by simpa [State.pushFrame, State.setFrames, State.setTop, State.modifyTopJava] using hm
  have hstep : (stepThrowing e ((U.setTop (F0 m pc L S')).pushFrame (.throwing x)) x (.java (F0 m pc L S') :: r)).Is ((((U.setTop (F0 m pc L S')).pushFrame (.throwing x)).setVm vm').setFrames (.java { F0 m pc L S' with pc := tgt, stack := [.ref x] } :: r)) [] := by
    simp only [stepThrowing, searchFrame, vmDo]
    generalize hres : Sem.go _ e false [] _ = res
    obtain ⟨as, rfl, ha⟩ := Sem.eq_ok_of hres (a := Handler.found tgt) (s' := ((U.setTop (F0 m pc L S')).pushFrame (.throwing x)).setVm vm') (acts' := []) (by
      have hf : ∀ (Q : Handler → Pre) (E : CtlPost) (d : Bool) (acts : List Action), wp (findHandler (F0 m pc L S') x) Q E e d acts ((U.setTop (F0 m pc L S')).pushFrame (.throwing x)) ↔ Q (.found tgt) d acts (((U.setTop (F0 m pc L S')).pushFrame (.throwing x)).setVm vm') := by
        intro Q E d acts
        rw [W.findHandler_eq hm' hc, hex]
        exact hfind Q E d acts
      simp [hf])
    exact ⟨rfl, ha⟩
  rw [stepThread_throwing (frames_entered hA.top _), hr]
  rw [List.tail_cons, hstep.1]
  have hr' : (U.setVm vm').frames = .java g₀ :: r := hr
  rw [State.setTop_of_frames _ hr'] at hrest
  have e5 : ∀ (F G : List Frame), ((U.setFrames F).setVm vm').setFrames G = (U.setVm vm').setFrames G := fun F G => by
    have e6 : (U.setFrames F).setVm vm' = (U.setVm vm').setFrames F := rfl
    rw [e6, State.setFrames_setFrames]
  rw [State.pushFrame, State.setTop_of_frames _ hr, State.setFrames_setFrames, e5]
  exact hrest
theorem ma_at_ns {D : va_G} {q : Nat × va_E} {H : Heap} (h : va_at D maCl q H) : ∀ cell : Cell, H[q.1]? = some cell → cell.vm.isStatics = false := by
  obtain ⟨a, e⟩ := q
  intro cell hc
  rcases e with x | o
  · have h1 : H[a]? = some (vp_cell x.1 x.2) := h
    rw [h1] at hc
    cases hc
    obtain ⟨cA, n, b⟩ := x
    rcases b with b | b | b | b | b <;> rfl
  · obtain ⟨r, h1, cell', g1, g2, g3, -⟩ := h
    have g1' : H[a]? = some cell' := g1
    rw [g1'] at hc
    cases hc
    rw [g3]; rfl
theorem ma_HR_weak {D : va_G} {aC : Nat → ClassId} {A A' : Nat → Prop} {ad : Nat → Nat → Nat} {h : AH} {H : Heap} (hA : ∀ q, A q → A' q) (hH : ma_HR D aC A ad h H) : ma_HR D aC A' ad h H := by
  obtain ⟨Ls, hm, hnd, hP, hD, h90, hcl⟩ := hH
  exact ⟨Ls, hm, hnd, hP, ⟨hD.1, fun k q hk => hA _ (hD.2 k q hk)⟩, h90, hcl⟩
def ma_A2 (A : Nat → Prop) (H : Heap) : Nat → Prop := fun q => A q ∧ ∀ cell : Cell, H[q]? = some cell → cell.vm.isStatics = false
theorem ma_HR_ns {D : va_G} {aC : Nat → ClassId} {A : Nat → Prop} {ad : Nat → Nat → Nat} {h : AH} {H : Heap} (hH : ma_HR D aC A ad h H) : ma_HR D aC (ma_A2 A H) ad h H := by
  obtain ⟨Ls, hm, hnd, hP, hD, h90, hcl⟩ := hH
  exact ⟨Ls, hm, hnd, hP, ⟨hD.1, fun k q hk => ⟨hD.2 k q hk, ma_at_ns (hP k q hk)⟩⟩, h90, hcl⟩
theorem ma_HR_ad {D : va_G} {aC : Nat → ClassId} {A : Nat → Prop} {ad ad' : Nat → Nat → Nat} {h : AH} {H : Heap} (he : ∀ k i, i < ma_n h k → ad' k i = ad k i) (hH : ma_HR D aC A ad h H) : ma_HR D aC A ad' h H := by
  obtain ⟨Ls, hm, hnd, hP, hD, h90, hcl⟩ := hH
  have hw : ma_ws aC ad' h Ls = ma_ws aC ad h Ls := by
    unfold ma_ws
    refine List.map_congr_left (fun x hx => ?_)
    have hx2 := (hm x).mp hx
    have a1 : ∀ j, ma_rf ad' (h.2.1 x.1 x.2 j) = ma_rf ad (h.2.1 x.1 x.2 j) := by
      intro j
      cases hr : h.2.1 x.1 x.2 j with
      | none => rfl
      | some r => simp only [ma_rf]; rw [he _ _ (hcl.1 _ _ _ _ hx2 hr)]
    have a2 : (fun j => (h.2.1 x.1 x.2 j).map (fun z => ad' z.1 z.2)) = (fun j => (h.2.1 x.1 x.2 j).map (fun z => ad z.1 z.2)) := by
      funext j
      cases hr : h.2.1 x.1 x.2 j with
      | none => rfl
      | some r => simp only [Option.map_some]; rw [he _ _ (hcl.1 _ _ _ _ hx2 hr)]
    rw [he _ _ hx2]
    simp only [ma_E, ma_fs, ma_ar, a1, a2]
  exact ⟨Ls, hm, hnd, by rw [hw]; exact hP, by rw [hw]; exact hD, h90, hcl⟩
section CORE
variable {sc : Nat × (Nat → Int32)} {cl cl' rd rd2 : Bool} {d2 bc2 bs2 bc bs : Nat} {y y2 : MD} {h : AH} {vs ls st : List AV} {Q2 Q : GO → AH → Prop} {p : Program} {l : Launch} {e : Env} {R : Room} {s T1 : State} {m mk : MethodId} {args : Array Value} {below : List Frame} {meth : Method} {c : Code} {H : Heap} {locs : List Loc} {cells slots mc ms : Nat} {D : va_G} {aC : Nat → ClassId} {A : Nat → Prop} {ad ad0 : Nat → Nat → Nat} {n0 : Nat → Nat} {L : Array Slot} {S' As : List Value} {pc : Nat} {ig : Instr}
set_option maxHeartbeats 1000000 in
theorem ma_core (hC : ma_Cx y p l s m args meth c D aC) (hHR : ma_HR D aC A ad h H) (hSX : ma_SX sc A ad s) (hS : va_S A s.heap H locs) (hA : ∀ q, s.heap.size ≤ q → A q) (hL : ma_LR ad (ma_n h) y.2.2.1 ls L)
    (X₁ : Stand p l e R s m args below meth c T1 locs cells slots) (hT1 : T1.heap = H) (hn : s.methodNamed? y2.1 = some mk) (hcw : ma_CW y2) (hpl : plainFor y2.1 = true)
    (hN : vs.length ≤ y2.2.2.1) (h40 : y2.2.2.1 ≤ 30) (hnl : ∀ v ∈ vs, ma_nl v) (hAs : ma_SR ad (ma_n h) vs As) (hrest : (S'.map fun v => v.category).sum ≤ 20) (hd : decode y.2.1 pc = .ok (ig, 3))
    (r1 : d2 + 1 ≤ R.frames) (r2 : 64 * (d2 + 1) ≤ R.locals) (r3 : cells + bc2 ≤ R.cells) (r4 : slots + bs2 ≤ R.slots)
    (G2 : Go sc true rd2 d2 bc2 bs2 y2 0 (vs ++ List.replicate (y2.2.2.1 - vs.length) vU) [] h Q2) :
    ∃ t : State, (∀ acts, Steps p.tables e below (doInvoke e (T1.setTop (F0 m pc L S')) acts mk As.toArray).1 t) ∧ ma_Z (.java (F0 m pc L S') :: below) D aC (ma_A2 A H) ad (ma_n h) rd2 Q2 (T1.calling (F0 m pc L S') mk As.toArray) bc2 bs2 t := by
  obtain ⟨hx, hb, hml, hr, hown, hts, hlocks, hnm, hex, hK, hKa, hNc, hfl, hmH⟩ := id hC
  obtain ⟨mk', methk, ck, hn', hmk, hck, q1, q2, q3, q4, q5, q6⟩ := ma_CW_spec hts hcw
  cases hn.symm.trans hn'
  have hW := X₁.warmed
  have hmk1 : T1.vm.method? mk = some methk := by rw [hW.alike.method?]; exact hmk
  have hn1 : T1.methodNamed? y2.1 = some mk := X₁.named hn
  have hpm : T1.plainMethod mk := State.plainMethod.of_named hpl hn1 hmk1
  have hroom : 2 * (F0 m pc L S').monitorRoom + (S'.map fun v => v.category).sum ≤ 20 := by
    show 2 * 0 + _ ≤ 20
    omega
  obtain ⟨X2, hent⟩ := X₁.into (g := F0 m pc L S') rfl (hL.1.trans hml.symm) (ig := ig) (len := 3) (by rw [hb]; exact hd) (a := As.toArray) (R' := { frames := d2, cells := bc2, slots := bs2, locals := 64 * d2 }) hmk1 hck q4 hpm r1 (by
    show 2 * (F0 m pc L S').monitorRoom + (S'.map fun v => v.category).sum + (ck.maxLocals + 11) + 64 * d2 ≤ R.locals
    rw [q2]; omega) r3 r4
  have hC2 : ma_Cx y2 p l (T1.calling (F0 m pc L S') mk As.toArray) mk As.toArray methk ck D aC :=
    ⟨hx, q1, q2, q3, findClass_of_methodNamed hn1, fun w hw => ma_keep (s := s) (U := T1.calling (F0 m pc L S') mk As.toArray) hW (ma_good w hw) (hts w hw), q4, (name_of_methodNamed hn1 hmk1).1, q5, va_K.moved hW.alike hK, fun k ty hk => ⟨arrOfT_moved hW.alike (hKa k ty hk).1, (hKa k ty hk).2.moved hW.alike⟩, fun j k h1 h2 h3 h4 h5 => va_Nc.moved hW.alike (hNc j k h1 h2 h3 h4 h5), hfl, ma_keepH (s := s) (U := T1.calling (F0 m pc L S') mk As.toArray) hW (fun q cell hc hs9 => by
      have hnA : ¬ A q := fun h9 => by rw [hSX.2.2.2 q cell h9 hc] at hs9; cases hs9
      show T1.heap[q]? = some cell
      rw [hT1, hS.2.1 q (Array.getElem?_eq_some_iff.mp hc).1 hnA]
      exact hc) hmH⟩
  have hh2 : (T1.calling (F0 m pc L S') mk As.toArray).heap = H := hT1
  have hDy2 : ma_Dy sc true d2 bc2 bs2 y2 (vs ++ List.replicate (y2.2.2.1 - vs.length) vU) [] h { frames := d2, cells := bc2, slots := bs2, locals := 64 * d2 } (T1.calling (F0 m pc L S') mk As.toArray) H [] 0 0 bc2 bs2 D aC (ma_A2 A H) ad ad (ma_n h) ((lg_sl As ++ List.replicate (y2.2.2.1 - (lg_sl As).length) Slot.unset).toArray) [] := by
    refine ⟨⟨Nat.le_refl _, Nat.le_refl _, by omega, by omega, Nat.le_refl _, Nat.le_refl _⟩, ma_HR_ns hHR, ⟨?_, fun q => hSX.2.1 q.1, ?_, fun q cell hq hc => hq.2 cell (by rw [hh2] at hc; exact hc)⟩, by rw [hh2]; exact va_S.rf, fun q hq => ⟨hA q (by rw [hh2] at hq; exact Nat.le_trans hS.1 hq), fun cell hc => by
      rw [hh2] at hq
      have := (Array.getElem?_eq_some_iff.mp hc).1
      omega⟩, ma_Ex_rf, ma_LR_entry hAs hnl hN, rfl, fun _ => ⟨rfl, by rw [hh2]; exact ma_HR_ns hHR⟩⟩
    · rw [hh2]
      exact va_X.moved hW.alike (hSX.1.kept (hS.2.1 _ hSX.2.2.1 hSX.2.1))
    · rw [hh2]
      exact Nat.lt_of_lt_of_le hSX.2.2.1 hS.1
  obtain ⟨t, st, hz⟩ := G2 p l e _ _ mk As.toArray (.java (F0 m pc L S') :: below) methk ck H [] 0 0 bc2 bs2 D aC (ma_A2 A H) ad ad (ma_n h) _ [] hC2 hDy2 _ (show ((T1.setTop (F0 m pc L S')).pushFrame (.java (entryFrame mk As.toArray ck.maxLocals))).heap = H from hT1) X2
  refine ⟨t, fun acts => ?_, hz⟩
  rw [hent acts]
  have e9 : entryFrame mk As.toArray ck.maxLocals = F0 mk 0 ((lg_sl As ++ List.replicate (y2.2.2.1 - (lg_sl As).length) Slot.unset).toArray) [] := by rw [q2]; exact lg_entry_eq mk As y2.2.2.1
  rw [← e9] at st
  exact ma_weaken st
/-- the invoking instruction's own step -/
def ma_Inv (p : Program) (l : Launch) (e : Env) (R : Room) (s : State) (m : MethodId) (args : Array Value) (below : List Frame) (meth : Method) (c : Code) (H : Heap) (y2 : MD) (g : JFrame) (rest As : List Value) : Prop :=
  ∀ (T : State) (locs : List Loc) (cells slots : Nat), T.heap = H → Stand p l e R s m args below meth c T locs cells slots → ∃ (vm₁ : Vm) (mk : MethodId), Stand p l e R s m args below meth c (T.setVm vm₁) locs cells slots ∧ s.methodNamed? y2.1 = some mk ∧ ∀ target, (∀ acts, Steps p.tables e below (doInvoke e ((T.setVm vm₁).setTop { g with stack := rest }) acts mk As.toArray).1 target) → Steps p.tables e below (T.setTop g) target
/-- where a thrown object goes: out of the method, or to a handler -/
def ma_thr (sc : Nat × (Nat → Int32)) (cl rd : Bool) (d bc bs : Nat) (y : MD) (pc : Nat) (ls : List AV) (h1 : AH) (Q : GO → AH → Prop) (k : Nat) : Prop :=
  ((tableOf y.2.2.2.2).all (fun x => !covers x pc) = true ∧ (rd = true → cl = true) ∧ Q (.inr k) h1) ∨ ∃ tgt, ma_hf y pc k tgt ∧ Go sc cl rd d bc bs y tgt ls [vO 97 0] h1 Q

set_option maxHeartbeats 1000000 in
theorem ma_call {Sf : List Value} {d2 : Nat} (hC : ma_Cx y p l s m args meth c D aC) (hDy : ma_Dy sc cl (d2 + 1) (bc + bc2) (bs + bs2) y ls st h R s H locs cells slots mc ms D aC A ad ad0 n0 L S') (hinv : ma_Inv p l e R s m args below meth c H y2 (F0 m pc L Sf) S' As) (hcw : ma_CW y2) (hpl : plainFor y2.1 = true)
    (hN : vs.length ≤ y2.2.2.1) (h40 : y2.2.2.1 ≤ 30) (hnl : ∀ v ∈ vs, ma_nl v) (hAs : ma_SR ad (ma_n h) vs As) (hrest : (S'.map fun v => v.category).sum ≤ 20) (hd : decode y.2.1 pc = .ok (ig, 3)) (hcl' : cl' = true → cl = true ∧ rd2 = true ∧ ∀ g h1, Q2 g h1 → h1 = h)
    (G2 : Go sc true rd2 d2 bc2 bs2 y2 0 (vs ++ List.replicate (y2.2.2.1 - vs.length) vU) [] h Q2)
    (kr : ∀ h1, Q2 (.inl none) h1 → Go sc cl' rd (d2 + 1) bc bs y (pc + 3) ls st h1 Q) (kv : ∀ v h1, Q2 (.inl (some v)) h1 → Go sc cl' rd (d2 + 1) bc bs y (pc + 3) ls (v :: st) h1 Q) (kt : ∀ k h1, Q2 (.inr k) h1 → ma_thr sc cl' rd (d2 + 1) bc bs y pc ls h1 Q k) :
    W p l e R s m args below meth c H locs cells slots (ma_Z below D aC A ad0 n0 rd Q s mc ms) (F0 m pc L Sf) := by
  intro T hT X
  obtain ⟨hx, hb, hml, hr, hown, hts, hlocks, hnm, hex, hK, hKa, hNc, hfl, hmH⟩ := id hC
  obtain ⟨⟨r1, r2, r3, r4, r5, r6⟩, hHR, hSX, hS, hA, hEx, hL, hSt, hCl⟩ := id hDy
  obtain ⟨vm₁, mk, X₁, hn, hstep⟩ := hinv T locs cells slots hT X
  obtain ⟨t, hsteps, o, z1, z2, z3, ⟨L9, z4, z4', z4r⟩, z5, g, h1, ad1, c1, c2, c3, c4⟩ := ma_core (pc := pc) (L := L) (S' := S') hC hHR hSX hS hA hL X₁ hT hn hcw hpl hN h40 hnl hAs hrest hd r1 r2 (by omega) (by omega) G2
  replace c3 := ma_HR_weak (fun q (hq : ma_A2 A H q) => hq.1) c3
  have hSXa : ma_SX sc A ad1 s := by unfold ma_SX; rw [c4.2]; exact hSX
  have hz5 : H.size ≤ t.heap.size ∧ ∀ q : Nat, q < H.size → ¬ A q → t.heap[q]? = H[q]? := by
    have z5 : va_F (ma_A2 A H) _ t := z5
    have e9 : ((T.setVm vm₁).calling (F0 m pc L S') mk As.toArray).heap = H := hT
    unfold va_F at z5
    rw [e9] at z5
    exact ⟨z5.1, fun q h9 h8 => z5.2 q h9 (fun h7 => h8 h7.1)⟩
  have hS1 : va_S A s.heap t.heap (locs ++ L9) := ⟨Nat.le_trans hS.1 hz5.1, fun q h9 h8 => (hz5.2 q (Nat.lt_of_lt_of_le h9 hS.1) h8).trans (hS.2.1 q h9 h8), fun q hq => by
    rcases List.mem_append.mp hq with h9 | h9
    · exact hS.2.2 q h9
    · exact (z4' q h9).1⟩
  have hCl1 : cl' = true → locs ++ L9 = [] ∧ ma_HR D aC A ad1 h1 s.heap := by
    intro h9
    obtain ⟨e1, e2, e3⟩ := hcl' h9
    have e4 := e3 g h1 c1
    subst e4
    obtain ⟨f1, f2⟩ := hCl e1
    exact ⟨by rw [f1, z4r e2]; rfl, ma_HR_ad (fun k i hi => (c4.1 k i hi).1) f2⟩
  cases o with
  | returned v =>
    obtain ⟨T', X', hw', hsame', ht⟩ := X₁.outOf (g := F0 m pc L S') rfl (ig := ig) (len := 3) (by rw [hb]; exact hd) (mk := mk) (a := As.toArray) z2 z3 z4
    have hth : T'.heap = t.heap := by rw [ht]; rfl
    have fin : ∀ (st' : List AV) (Sx : List Value), v.toList ++ S' = Sx → ma_SR ad1 (ma_n h1) st' Sx → Go sc cl' rd (d2 + 1) bc bs y (pc + 3) ls st' h1 Q → ∃ t, Steps p.tables e below (T.setTop (F0 m pc L Sf)) t ∧ ma_Z below D aC A ad0 n0 rd Q s mc ms t := by
      intro st' Sx hSx hst' G
      obtain ⟨t2, a1, b1⟩ := G p l e R s m args below meth c t.heap (locs ++ L9) (cells + bc2) (slots + bs2) mc ms D aC A ad1 ad0 n0 L Sx hC ⟨⟨r1, r2, by omega, by omega, r5, r6⟩, c3, hSXa, hS1, hA, ma_Ex_tr hEx c4, ma_LR_ext c4 hL, hst', hCl1⟩ T' hth X'
      refine ⟨t2, hstep _ (fun acts => (hsteps acts).trans ?_), b1⟩
      rw [ht]
      subst hSx
      exact a1
    rcases g with (_ | v') | k
    · cases c2
      exact fin st S' rfl (ma_SR_ext c4 hSt) (kr h1 c1)
    · obtain ⟨x, c2, c5⟩ := c2
      cases c2
      exact fin (v' :: st) (x :: S') rfl ⟨_, _, rfl, c5, ma_SR_ext c4 hSt⟩ (kv v' h1 c1)
    · obtain ⟨x, c2, -⟩ := c2
      cases c2
  | threw x =>
    rcases g with (_ | v') | k
    · cases c2
    · obtain ⟨x, c2, -⟩ := c2
      cases c2
    · obtain ⟨x', c2, c5⟩ := c2
      cases c2
      obtain ⟨T', X', hw', hsame', ht⟩ := X₁.outOfThrown (g := F0 m pc L S') rfl (mk := mk) (a := As.toArray) z2 z3 z4
      have hth : T'.heap = t.heap := by rw [ht]; simp [State.pushFrame, State.setFrames, State.setTop, State.modifyTopJava]
      have htv : T'.vm = t.vm := by rw [ht]; simp [State.pushFrame, State.setFrames, State.setTop, State.modifyTopJava]
      rcases kt k h1 c1 with ⟨hout, hrd, hq⟩ | ⟨tgt, hhf, G⟩
      · have hout' : ∀ z ∈ c.exceptionTable.toList, covers z (F0 m pc L S').pc = false := by
          intro z hz
          rw [hex] at hz
          have h9 : (!covers z pc) = true := List.all_eq_true.mp hout z hz
          show covers z pc = false
          cases hcv : covers z pc with
          | true => rw [hcv] at h9; cases h9
          | false => rfl
        obtain ⟨l1, l2, l3, l4, l5⟩ := X'.leaveThrown x (g := F0 m pc L S') rfl rfl rfl hout' hlocks
        refine ⟨T'.setFrames (.throwing x :: below), hstep _ (fun acts => (hsteps acts).trans (by rw [ht]; exact l1)), .threw x, l2, l3, l4, ⟨locs ++ L9, l5.mono (by omega) (by omega), hS1.2.2, fun h9 => (hCl1 (hrd h9)).1⟩, ⟨by show s.heap.size ≤ T'.heap.size; rw [hth]; exact hS1.1, fun q h9 h8 => by show T'.heap[q]? = _; rw [hth]; exact hS1.2.1 q h9 h8⟩, .inr k, h1, ad1, hq, ⟨x, rfl, ?_⟩, by show ma_HR D aC A ad1 h1 T'.heap; rw [hth]; exact c3, ma_Ex_tr hEx c4⟩
        obtain ⟨cell, e1, e2, e3⟩ := c5
        exact ⟨cell, by show T'.heap[x]? = _; rw [hth]; exact e1, e2, by show T'.vm.findClass _ = _; rw [htv]; exact e3⟩
      · obtain ⟨cell, e1, e2, e3⟩ := c5
        have hXs : s.vm.findClass (ma_en k) = some cell.cls := by
          have := X'.warmed.alike.findClass (ma_en k)
          rw [htv] at this
          rw [← this]; exact e3
        obtain ⟨kX, hkX, hkXk⟩ := ma_exc (args := args) hts hXs
        have hmX : (((T'.setTop (F0 m pc L S')).pushFrame (.throwing x))).vm = T'.vm := by simp [State.pushFrame, State.setFrames, State.setTop, State.modifyTopJava]
        have hhX : (((T'.setTop (F0 m pc L S')).pushFrame (.throwing x))).heap = T'.heap := by simp [State.pushFrame, State.setFrames, State.setTop, State.modifyTopJava]
        obtain ⟨vm', hW', hfind⟩ := ma_find (e := e) (f := F0 m pc L S') (a := x) (s := s) (args := args) (k := k) (cell := cell) (by rw [X.admits.platform]) hown hts hNc hXs ⟨hXs, kX, hkX, hkXk⟩ rfl e2 y.2.2.2.2 tgt ((T'.setTop (F0 m pc L S')).pushFrame (.throwing x)) (by rw [hmX]; exact X'.warmed) (by rw [hhX, hth]; exact e1) hhf
        have X9 := X'.noted hW'
        obtain ⟨t2, a1, b1⟩ := G p l e R s m args below meth c t.heap (locs ++ L9) (cells + bc2) (slots + bs2) mc ms D aC A ad1 ad0 n0 L [.ref x] hC ⟨⟨r1, r2, by omega, by omega, r5, r6⟩, c3, hSXa, hS1, hA, ma_Ex_tr hEx c4, ma_LR_ext c4 hL, ⟨_, _, rfl, Or.inl ⟨rfl, x, rfl⟩, rfl⟩, hCl1⟩ (T'.setVm vm') hth X9
        refine ⟨t2, hstep _ (fun acts => (hsteps acts).trans ?_), b1⟩
        rw [ht]
        exact ma_caught X'.here (X'.method') X'.code hex hfind a1
end CORE
