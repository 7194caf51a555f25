/-! A new exception whose own constructor calls RuntimeException's by any place ix of its pool (the library's row has the place 7 alone) -/
def ma_CA (own : String) (ic : Nat) (X : String) (ix : Nat) (by6 : ByteArray) : List Cond := Bundle.throwableAtoms ++ Bundle.throwableSAtoms ++ Bundle.passSAtoms X "java/lang/RuntimeException" ix by6 ++ Bundle.chainSAtoms "java/lang/RuntimeException" ["java/lang/Exception"] ++
  [.methodLink own ic (Bundle.initS X), .instantiable X 6, .castable X X, .selects X Bundle.tFill0 Bundle.tFill0, .selects X Bundle.tFill Bundle.tFill,
   .lays X Bundle.tN "cause" "Ljava/lang/Throwable;", .lays X Bundle.tN "stackTrace" Bundle.steD, .lays X Bundle.tN "suppressedExceptions" Bundle.listD, .lays X Bundle.tN "detailMessage" "Ljava/lang/String;",
   .isRef (.static Bundle.tN "UNASSIGNED_STACK" Bundle.steD), .isRef (.static Bundle.tN "SUPPRESSED_SENTINEL" Bundle.listD),
   .fieldLink Bundle.tN 198 Bundle.tN "backtrace" "Ljava/lang/Object;", .lays Bundle.tN Bundle.tN "backtrace" "Ljava/lang/Object;", .lays X Bundle.tN "backtrace" "Ljava/lang/Object;"]
section CTOR
variable {p : Program} {l : Launch} {e : Env} {R : Room} {s : State} {m₀ : MethodId} {args : Array Value} {below : List Frame} {meth : Method} {c : Code} {T0 : State} {locs : List Loc} {cells slots : Nat}
set_option maxHeartbeats 2000000 in
theorem ma_ctor (X : Stand p l e R s m₀ args below meth c T0 locs cells slots) (hexec : p.tables.exec = Jvm.exec) (htr : e.platform.stackTraces = false) {own cls : String} {ic ix : Nat} {by6 : ByteArray} (hown : s.vm.findClass own = some m₀.cls) (hcls : Bundle.fit cls = true)
    (e0 : decode by6 0 = .ok (.aload_n 0, 1)) (e1 : decode by6 1 = .ok (.aload_n 1, 1)) (e2 : decode by6 2 = .ok (.invokespecial ix, 3)) (e5 : decode by6 5 = .ok (.return_, 1))
    (h : ∀ a ∈ ma_CA own ic cls ix by6, a.before args s = true) (hlocs : ∀ x ∈ locs, ∀ cell, s.heap[x.base]? = some cell → cell.vm.isStatics = false)
    {a : Addr} {cX : ClassId} {kX : Class} (hfX : s.vm.findClass cls = some cX) (hkX : s.vm.classes[cX]? = some kX) (hcell : T0.heap[a]? = some (freshCell cX kX)) (hnew : s.heap.size ≤ a) {msg : Value} (hmsg : msg.isRef = true)
    {g : JFrame} (hg : g.method = m₀) (hsize : g.locals.size = c.maxLocals) (hlocked : g.locked = none) (hentered : g.entered = []) {rest : List Value} (hstack : g.stack = msg :: .ref a :: .ref a :: rest)
    (hd6 : decode c.code g.pc = .ok (.invokespecial ic, 3)) (hd9 : decode c.code (g.pc + 3) = .ok (.athrow, 1)) (hout : ∀ x ∈ c.exceptionTable.toList, covers x (g.pc + 3) = false)
    (hRf : 5 < R.frames) (hRl : 2 * g.monitorRoom + ((Value.ref a :: rest).map fun v => v.category).sum + 81 ≤ R.locals) (hlocks : meth.locks = false) :
    ∃ U : State, Steps p.tables e below (T0.setTop g) U ∧ U.status = .running ∧ Ended U below (.threw a) ∧ s.WarmedH U.vm ∧ s.sameButNew ({ U with vm := s.vm } : State) locs cells slots ∧ ∃ ce : Cell, U.heap[a]? = some ce ∧ ce.cls = cX ∧ ce.vm = .none := by
  have hpl : e.platform.magicAccessors = ({} : Platform).magicAccessors := by rw [X.admits.platform]
  have hh : ∀ w, w ∈ ma_CA own ic cls ix by6 → w.holds args s none s [] = true := fun w hw => h w hw
  have hi : ∀ w, w ∈ ma_CA own ic cls ix by6 → w.before args s = true := h
  obtain ⟨T, Z0, hT, -, Y⟩ := ThrowableC.of_atoms (args := args) (pl := e.platform) (by rw [X.admits.platform]) (by rw [X.admits.platform]) hpl (fun w hw => h w (by simp [ma_CA, hw]))
  obtain ⟨Z, M, hZ, hM, hnZ⟩ := Init0T.ofS_atoms (args := args) hpl hT Y (fun w hw => h w (by simp [ma_CA, hw]))
  obtain ⟨P1, hP1, hP1m, hP1s⟩ := PassC.ofS_atoms (args := args) (s := s) hpl (X := cls) (Y := "java/lang/RuntimeException") (Bundle.fit_spec hcls).1 (by decide) e0 e1 e2 e5 (fun w hw => h w (by simp [ma_CA, hw]))
  obtain ⟨P2, Ps, hlen, hP2, hPs, hP2m, hsup, hpass⟩ := Bundle.chainS (args := args) hpl hnZ ["java/lang/Exception"] "java/lang/RuntimeException" (by decide +kernel) (by decide +kernel) (fun w hw => h w (by simp [ma_CA, hw]))
  have hlink : P1.sup = P2.m := Option.some.inj (hP1s.symm.trans hP2m)
  have hfd : s.vm.findClass cls = some P1.m.cls := findClass_of_methodNamed hP1m
  cases Option.some.inj (hfX.symm.trans hfd)
  obtain ⟨c1, kX', hc1, hk, hord, -, -, hn6⟩ := Cond.instantiable_spec (hh (.instantiable cls 6) (by simp [ma_CA]))
  cases Option.some.inj (hc1.symm.trans hfd)
  cases Option.some.inj (hkX.symm.trans hk)
  have sel : ∀ {y : MethodName} {mi : MethodId}, s.methodNamed? y = some mi → (y.cls ≠ "java/lang/invoke/MethodHandle" ∧ y.cls ≠ "java/lang/invoke/VarHandle") → Cond.selects cls y y ∈ ma_CA own ic cls ix by6 → selectMethod e.platform s.vm P1.m.cls mi = .method mi := by
    intro y mi hy hne hin
    obtain ⟨z1, z2, z3, q1, q2, q3, q4, -⟩ := Cond.selects_spec (hh _ hin)
    cases Option.some.inj (q1.symm.trans hfd)
    cases Option.some.inj (q2.symm.trans (State.methodFound?_of_named hy hne))
    cases Option.some.inj (q3.symm.trans hy)
    rw [Launch.admits_selectMethod X.admits]; exact q4
  have hsel0 := sel Y.fill0 (by decide) (by simp [ma_CA])
  have hselF := sel Y.fill (by decide) (by simp [ma_CA])
  obtain ⟨cs0, hcs0, hst⟩ := Y.statics
  obtain ⟨u0, hu0⟩ := Cond.staticRefV Y.unassigned hT.unassignedStatic hT.statics hcs0 hst (hh (.isRef (.static Bundle.tN "UNASSIGNED_STACK" Bundle.steD)) (by simp [ma_CA]))
  obtain ⟨sen, hsen⟩ := Cond.staticRefV Y.sentinel hT.sentinelStatic hT.statics hcs0 hst (hh (.isRef (.static Bundle.tN "SUPPRESSED_SENTINEL" Bundle.listD)) (by simp [ma_CA]))
  obtain ⟨cB, iB, fB, b1, b2, b3, b4, -, b5, b6, hffB⟩ := Cond.ownField (t := .object "java/lang/Object") Y.found hT.cls (by decide +kernel) (hh (.fieldLink Bundle.tN 198 Bundle.tN "backtrace" "Ljava/lang/Object;") (by simp [ma_CA])) (hh (.lays Bundle.tN Bundle.tN "backtrace" "Ljava/lang/Object;") (by simp [ma_CA])) e.platform hpl
  obtain ⟨cs, hcs, hes, -, hkeep⟩ := X.same.2.2.2.2.2 T.aS cs0 hcs0
  have hcs' : T0.heap[T.aS]? = some cs := hcs
  have hfree : ∀ i, (⟨T.aS, i⟩ : Loc) ∉ locs := fun i hm9 => by
    have := hlocs _ hm9 cs0 hcs0
    rw [hst] at this; cases this
  have hkn : cs.vm ≠ .unknown := by
    rw [hes]; intro hu
    rw [show cs0.vm = .unknown from hu] at hst
    cases hst
  have hne : T.aS ≠ a := Nat.ne_of_lt (Nat.lt_of_lt_of_le (Array.getElem?_eq_some_iff.mp hcs0).1 hnew)
  obtain ⟨iM, hffM⟩ := Y.msg
  obtain ⟨tC, dC, gC, nC⟩ := Cond.laysAt hfd hk Y.cause (hh (.lays cls Bundle.tN "cause" "Ljava/lang/Throwable;") (by simp [ma_CA]))
  obtain ⟨tS, dS, gS, nS⟩ := Cond.laysAt hfd hk Y.stack (hh (.lays cls Bundle.tN "stackTrace" Bundle.steD) (by simp [ma_CA]))
  obtain ⟨tP, dP, gP, nP⟩ := Cond.laysAt hfd hk Y.supp (hh (.lays cls Bundle.tN "suppressedExceptions" Bundle.listD) (by simp [ma_CA]))
  obtain ⟨tM, dM, gM, nM⟩ := Cond.laysAt hfd hk hffM (hh (.lays cls Bundle.tN "detailMessage" "Ljava/lang/String;") (by simp [ma_CA]))
  obtain ⟨tB, dB, gB, nB⟩ := Cond.laysAt hfd hk hffB (hh (.lays cls Bundle.tN "backtrace" "Ljava/lang/Object;") (by simp [ma_CA]))
  have bC := Cond.laysApart gB gC nB nC (by rw [b5, Y.causeName]; decide)
  have bS := Cond.laysApart gB gS nB nS (by rw [b5, Y.stackName]; decide)
  have bP := Cond.laysApart gB gP nB nP (by rw [b5, Y.suppName]; decide)
  have hskip : SkipFacts T e.platform s (fun u => u) u0 ((preparedCellV T.toThrowableT (freshCell P1.m.cls kX) a u0 sen).withEntry T0.cur) :=
    ⟨{ ci198 := cB, i198 := iB, fBack := fB }, ⟨b1, b2, b3, b4⟩, by
      have := fresh_default (c := P1.m.cls) tB
      rw [b6] at this
      simpa [preparedCellV, Cell.setSlot, Cell.withEntry, Array.getElem?_setIfInBounds, bC, bS, bP, bC.symm, bS.symm, bP.symm, defaultValue] using this, fun _ _ => rfl⟩
  obtain ⟨tm, _, _, _, vm₁, hnC, -, -, -, -, -, -, -, hW₁, st1⟩ := Steps.initColdS (tb := p.tables) (e := e) (below := below) (s := s) (U := T0) X.here hexec X.warmed hpl hown (t := Bundle.initS cls) rfl rfl (Bundle.fit_spec hcls).2 (hi (.methodLink own ic (Bundle.initS cls)) (by simp [ma_CA])) (hi (.instanceMethod (Bundle.initS cls)) (by simp [ma_CA, Bundle.passSAtoms])) (bytes := by6) (maxL := 2) (hi (.code (Bundle.initS cls) by6 2 none) (by simp [ma_CA, Bundle.passSAtoms])) (f := g) hg (a := a) (msg := msg) (rest := .ref a :: rest) hstack hd6
  cases Option.some.inj (hnC.symm.trans hP1m)
  obtain ⟨vm₂, X₂, st2⟩ := (X.noted hW₁).ctorMessageOffV hexec (g := { g with stack := .ref a :: rest }) hg hsize T hT Z hZ M hM (P1 :: P2 :: Ps)
    (fun P hP => by
      rcases List.mem_cons.mp hP with rfl | hP
      · exact hP1
      · rcases List.mem_cons.mp hP with rfl | hP
        · exact hP2
        · exact hPs P hP) ⟨hlink, hsup, hpass⟩ (u0 := u0) (sen := sen) (self := a) hmsg (cell := freshCell P1.m.cls kX) (cellS := cs)
    hcell (fun _ => by simp) (by simp) rfl rfl hsel0 hselF hcs' hne hkn (by rw [hkeep _ (hfree _)]; exact hu0) (by rw [hkeep _ (hfree _)]; exact hsen)
    (Takes.of_laid hk hord tC (by rw [Y.causeType]; rfl)) (Takes.of_laid hk hord tS (by rw [Y.stackType]; exact fits_refV_array _ u0)) (Takes.of_laid hk hord tP (by rw [Y.suppType]; exact fits_refV_object _ sen))
    (Takes.of_laid hk hord tM (by rw [Y.msgType]; exact fits_refV_object _ ⟨msg, hmsg⟩)) Y.objLocals hskip htr [] hd6 (by simp only [List.length_cons, hlen, List.length_nil]; omega) (by simp only [List.length_cons, hlen, List.length_nil]; exact hRl)
  obtain ⟨hwalk, hrun, hend, hWU, hsame⟩ := X₂.athrowLeaves hexec (g := { g with stack := .ref a :: rest, pc := g.pc + 3 }) hg hlocked hentered hout (a := a) (rest := rest) rfl hd9 hlocks
  have hlt : a < ((T0.setVm vm₁).setVm vm₂).heap.size := (Array.getElem?_eq_some_iff.mp hcell).1
  refine ⟨_, st1 _ (fun acts => by rw [doInvoke_state]; exact st2 _ hwalk), hrun, hend, hWU, hsame.weaken (fun z hz hz2 => ?_) (Nat.le_refl _) (Nat.le_refl _), _, heapAt_setCell_self (s := (T0.setVm vm₁).setVm vm₂) (plainBareV T.toThrowableT (freshCell P1.m.cls kX) a u0 sen msg) hlt, rfl, rfl⟩
  rcases List.mem_append.mp hz with h1 | h1
  · exact h1
  · have hb9 : z.base = a := by
      simp only [List.mem_cons, List.not_mem_nil, or_false] at h1
      rcases h1 with rfl | rfl | rfl | rfl | rfl <;> rfl
    rw [hb9] at hz2
    exact absurd hz2 (Nat.not_lt.mpr hnew)
end CTOR
