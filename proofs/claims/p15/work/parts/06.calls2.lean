/-! THE THREE CALLS -/
def ma_VW (own : String) (idx : Nat) (y2 : MD) (k n : Nat) : Prop := Cond.methodLink own idx y2.1 ∈ maT ∧ Cond.instanceMethod y2.1 ∈ maT ∧ (∃ q, maCl[k]? = some q ∧ Cond.selects q.1 y2.1 y2.1 ∈ maT) ∧ (y2.1.cls ≠ "java/lang/invoke/MethodHandle" ∧ y2.1.cls ≠ "java/lang/invoke/VarHandle") ∧ (parseMethodDescriptor y2.1.desc).map (fun d => d.parameters.length) = some n ∧ ma_CW y2 ∧ plainFor y2.1 = true ∧ y2.2.2.1 ≤ 30
def ma_SW (own : String) (idx : Nat) (y2 : MD) (n : Nat) : Prop := Cond.methodLink own idx y2.1 ∈ maT ∧ Cond.static y2.1 ∈ maT ∧ Cond.initialized y2.1.cls ∈ maT ∧ (y2.1.cls ≠ "java/lang/invoke/MethodHandle" ∧ y2.1.cls ≠ "java/lang/invoke/VarHandle") ∧ (parseMethodDescriptor y2.1.desc).map (fun d => d.parameters.length) = some n ∧ ma_CW y2 ∧ plainFor y2.1 = true ∧ y2.2.2.1 ≤ 30
def ma_IW (own : String) (idx : Nat) (y2 : MD) (n : Nat) : Prop := Cond.methodLink own idx y2.1 ∈ maT ∧ Cond.instanceMethod y2.1 ∈ maT ∧ y2.1.name = "<init>" ∧ (y2.1.cls ≠ "java/lang/invoke/MethodHandle" ∧ y2.1.cls ≠ "java/lang/invoke/VarHandle") ∧ (parseMethodDescriptor y2.1.desc).map (fun d => d.parameters.length) = some n ∧ Cond.code y2.1 y2.2.1 y2.2.2.1 none ∈ maT ∧ ma_CW y2 ∧ plainFor y2.1 = true ∧ y2.2.2.1 ≤ 30
theorem ma_par {y2 : MD} {n : Nat} {sig : MethodDescriptor} (h : (parseMethodDescriptor y2.1.desc).map (fun d => d.parameters.length) = some n) (hs : parseMethodDescriptor y2.1.desc = some sig) : n = sig.parameters.length := by
  rw [hs] at h
  exact (Option.some.inj h).symm
theorem ma_SR_app {ad : Nat → Nat → Nat} {n : Nat → Nat} : ∀ {a b : List AV} {S : List Value}, ma_SR ad n (a ++ b) S → ∃ S1 S2, S = S1 ++ S2 ∧ ma_SR ad n a S1 ∧ ma_SR ad n b S2
  | [], _, S, h => ⟨[], S, rfl, rfl, h⟩
  | _ :: _, _, _, ⟨x, S', e, h1, h2⟩ => by
    obtain ⟨S1, S2, e2, h3, h4⟩ := ma_SR_app h2
    subst e; subst e2
    exact ⟨x :: S1, S2, rfl, ⟨x, S1, rfl, h1, h3⟩, h4⟩
theorem ma_SR_cat {ad : Nat → Nat → Nat} {n : Nat → Nat} : ∀ {a b : List AV} {S1 S2 : List Value}, ma_SR ad n a S1 → ma_SR ad n b S2 → ma_SR ad n (a ++ b) (S1 ++ S2)
  | [], _, _, _, h1, h2 => by cases h1; exact h2
  | _ :: _, _, _, _, ⟨x, S', e, h1, h3⟩, h2 => by subst e; exact ⟨x, _, rfl, h1, ma_SR_cat h3 h2⟩
theorem ma_SR_rev {ad : Nat → Nat → Nat} {n : Nat → Nat} : ∀ {a : List AV} {S : List Value}, ma_SR ad n a S → ma_SR ad n a.reverse S.reverse
  | [], _, h => by cases h; rfl
  | _ :: _, _, ⟨x, S', e, h1, h2⟩ => by
    subst e
    rw [List.reverse_cons, List.reverse_cons]
    exact ma_SR_cat (ma_SR_rev h2) ⟨x, [], rfl, h1, rfl⟩
theorem ma_SR_sum {ad : Nat → Nat → Nat} {n : Nat → Nat} : ∀ {a : List AV} {S : List Value}, ma_SR ad n a S → (S.map fun v => v.category).sum ≤ 2 * a.length
  | [], _, h => by cases h; simp
  | _ :: _, _, ⟨x, S', e, h1, h2⟩ => by
    subst e
    have := ma_SR_sum h2
    have hc : x.category ≤ 2 := by rcases lv_cat x with h | h <;> omega
    simp only [List.map_cons, List.sum_cons, List.length_cons]
    omega
section INV
variable {sc : Nat × (Nat → Int32)} {y y2 : MD} {h : AH} {p : Program} {l : Launch} {e : Env} {R : Room} {s : State} {m : MethodId} {args : Array Value} {below : List Frame} {meth : Method} {c : Code} {H : Heap} {D : va_G} {aC : Nat → ClassId} {A : Nat → Prop} {ad : Nat → Nat → Nat} {L : Array Slot} {S' As : List Value} {pc idx k i n : Nat}
theorem ma_invV (hC : ma_Cx y p l s m args meth c D aC) (hHR : ma_HR D aC A ad h H) (hk : k < 90) (hi : i < ma_n h k) (hvw : ma_VW y.1.cls idx y2 k n) (hn : As.length = n) (hd : decode y.2.1 pc = .ok (.invokevirtual idx, 3)) :
    ma_Inv p l e R s m args below meth c H y2 (F0 m pc L (As.reverse ++ .ref (ad k i) :: S')) S' (.ref (ad k i) :: As) := by
  intro T locs cells slots hT X
  obtain ⟨hx, hb, hml, hr, hown, hts, hlocks, hnm, hex, hK, hKa, hNc, hfl, hmH⟩ := id hC
  obtain ⟨hlk, hinst, ⟨q, hq, hsel⟩, hy, hpar, hcw, -, -⟩ := hvw
  obtain ⟨Ls, hm, hnd, hP, hD, h90, hcl⟩ := id hHR
  obtain ⟨q0, hq0⟩ := ma_pos hm hi
  have he := ma_ws_at (aC := aC) (ad := ad) (h := h) hq0
  rw [ma_E_obj hk] at he
  obtain ⟨cellB, hcB, hoB, hclB⟩ := va_recv hK hP hq he
  obtain ⟨mk, methM, hnamed, hmethM, hstM, habM⟩ := Cond.instanceMethod_spec (hts _ hinst)
  obtain ⟨mk', methM', cM, hn', hm', -, -, -, -, -, -, hsigM⟩ := ma_CW_spec hts hcw
  cases hnamed.symm.trans hn'
  cases hmethM.symm.trans hm'
  obtain ⟨c2, r2, m2, q1, q2, q3, q4, kP, hkP, hkPi⟩ := Cond.selects_spec (hts _ hsel)
  cases hclB.symm.trans q1
  cases (State.methodFound?_of_named hnamed hy).symm.trans q2
  cases hnamed.symm.trans q3
  have hselP : selectMethod e.platform s.vm cellB.cls mk = .method mk := by rw [Launch.admits_selectMethod X.admits]; exact q4
  obtain ⟨vm₁, X₁, hstep₁⟩ := X.invokevirtual hx hown (hts _ hlk) hnamed hmethM hstM hkP hkPi hy (a := ad k i) (cell := cellB) (by rw [hT]; exact hcB)
    (fun z h9 => by rw [h9] at hoB; cases hoB) hselP hmethM habM hkP hkPi (g := F0 m pc L (As.reverse ++ .ref (ad k i) :: S')) rfl (argsL := As) (rest := S') (hn.trans (ma_par hpar hsigM)) rfl (by rw [hb]; exact hd)
  exact ⟨vm₁, mk, X₁, hnamed, fun target h9 => hstep₁ _ h9⟩
theorem ma_invS (hC : ma_Cx y p l s m args meth c D aC) (hvw : ma_SW y.1.cls idx y2 n) (hn : As.length = n) (hd : decode y.2.1 pc = .ok (.invokestatic idx, 3)) :
    ma_Inv p l e R s m args below meth c H y2 (F0 m pc L (As.reverse ++ S')) S' As := by
  intro T locs cells slots hT X
  obtain ⟨hx, hb, hml, hr, hown, hts, hlocks, hnm, hex, hK, hKa, hNc, hfl, hmH⟩ := id hC
  obtain ⟨hlk, hst, hini, hy, hpar, hcw, -, -⟩ := hvw
  obtain ⟨mk, methM, cM, hnamed, hmethM, -, -, -, -, -, -, hsigM⟩ := ma_CW_spec hts hcw
  have hstatic : methM.isStatic = true := Cond.static_spec hnamed hmethM (hts _ hst)
  obtain ⟨kP, hkP, -⟩ := className_of_methodNamed hnamed
  have hinitP : kP.init = .initialized := Cond.initialized_spec (findClass_of_methodNamed hnamed) hkP (hts _ hini)
  obtain ⟨vm₁, X₁, hstep₁⟩ := X.invokestatic hx hown (hts _ hlk) hnamed hmethM hstatic hkP hinitP hy (g := F0 m pc L (As.reverse ++ S')) rfl (argsL := As) (rest := S') (hn.trans (ma_par hpar hsigM)) rfl (by rw [hb]; exact hd)
  exact ⟨vm₁, mk, X₁, hnamed, fun target h9 => hstep₁ _ h9⟩
theorem ma_invI {a : Addr} (hC : ma_Cx y p l s m args meth c D aC) (hvw : ma_IW y.1.cls idx y2 n) (hn : As.length = n) (hd : decode y.2.1 pc = .ok (.invokespecial idx, 3)) :
    ma_Inv p l e R s m args below meth c H y2 (F0 m pc L (As.reverse ++ .ref a :: S')) S' (.ref a :: As) := by
  intro T locs cells slots hT X
  obtain ⟨hx, hb, hml, hr, hown, hts, hlocks, hnm, hex, hK, hKa, hNc, hfl, hmH⟩ := id hC
  obtain ⟨hlk, hinst, hy1, hy, hpar, hcd, hcw, -, -⟩ := hvw
  have hcode : (Cond.code y2.1 y2.2.1 y2.2.2.1 none).before args s = true := hts _ hcd
  have hpl : e.platform.magicAccessors = ({} : Platform).magicAccessors := by rw [X.admits.platform]
  obtain ⟨mk, methM, cM, kP, vm₁, hnamed, hmethM, hcodeM, -, hlocalsM, -, hkP, -, hW₁, hstep₁⟩ := Steps.initColdArgs (e := e) X.here hx X.warmed hpl hown hy1 hy (hts _ hlk) (hts _ hinst) hcode (f := F0 m pc L (As.reverse ++ .ref a :: S')) rfl (argsL := As) (a := a) (rest := S') (fun sig h9 => hn.trans (ma_par hpar h9)) rfl (by rw [hb]; exact hd)
  exact ⟨vm₁, mk, X.noted hW₁, hnamed, fun target h9 => hstep₁ _ h9⟩
end INV
theorem Go.callV {sc : Nat × (Nat → Int32)} {cl rd rd2 : Bool} {d2 bc2 bs2 bc bs : Nat} {y : MD} {pc : Nat} {ls st stk ls2 : List AV} {h : AH} {Q : GO → AH → Prop} (cl' : Bool) (y2 : MD) (vs : List AV) {k i idx : Nat} {Q2 : GO → AH → Prop} (hd : decode y.2.1 pc = .ok (.invokevirtual idx, 3)) (hvw : ma_VW y.1.cls idx y2 k vs.length) (hk : k < 90) (hs : vs.reverse ++ vO k i :: st = stk) (hl2 : (vO k i :: vs) ++ List.replicate (y2.2.2.1 - (vs.length + 1)) vU = ls2) (hN : vs.length + 1 ≤ y2.2.2.1) (hnl : ∀ v ∈ vs, ma_nl v) (h8 : st.length ≤ 10)
    (hcl' : cl' = true → cl = true ∧ rd2 = true ∧ ∀ g h1, Q2 g h1 → h1 = h) (G2 : Go sc true rd2 d2 bc2 bs2 y2 0 ls2 [] h Q2) (kr : ∀ h1, Q2 (.inl none) h1 → Go sc cl' rd (d2 + 1) bc bs y (pc + 3) ls st h1 Q) (kv : ∀ v h1, Q2 (.inl (some v)) h1 → Go sc cl' rd (d2 + 1) bc bs y (pc + 3) ls (v :: st) h1 Q) (kt : ∀ k h1, Q2 (.inr k) h1 → ma_thr sc cl' rd (d2 + 1) bc bs y pc ls h1 Q k) : Go sc cl rd (d2 + 1) (bc + bc2) (bs + bs2) y pc ls stk h Q := by
  intro p l e R s m args below meth c H locs cells slots mc ms D aC A ad ad0 n0 L S hC hDy
  obtain ⟨hRm, hHR, hSX, hS, hA, hEx, hL, hSt, hCl⟩ := id hDy
  subst hs
  obtain ⟨S1, S2, rfl, hv1, x, S', rfl, hx1, hSt'⟩ := ma_SR_app hSt
  obtain ⟨hi, rfl⟩ := ma_ref (Or.inl hk) hx1
  have hAs : ma_SR ad (ma_n h) (vO k i :: vs) (.ref (ad k i) :: S1.reverse) := ⟨_, _, rfl, hx1, by have := ma_SR_rev hv1; rwa [List.reverse_reverse] at this⟩
  have hlen : S1.reverse.length = vs.length := by
    have := ma_SR_len hv1
    simpa using this
  have hinv := ma_invV (l := l) (e := e) (R := R) (below := below) (L := L) (S' := S') (pc := pc) hC hHR hk hi hvw hlen hd
  rw [List.reverse_reverse] at hinv
  have hsum := ma_SR_sum hSt'
  obtain ⟨-, -, -, -, -, hcw, hpl, h40⟩ := hvw
  subst hl2
  exact ma_call hC ⟨hRm, hHR, hSX, hS, hA, hEx, hL, hSt', hCl⟩ hinv hcw hpl (by simpa using hN) h40 (fun v hv => by rcases List.mem_cons.mp hv with rfl | hv; exact trivial; exact hnl v hv) hAs (by omega) hd hcl' G2 kr kv kt
theorem Go.callS {sc : Nat × (Nat → Int32)} {cl rd rd2 : Bool} {d2 bc2 bs2 bc bs : Nat} {y : MD} {pc : Nat} {ls st stk ls2 : List AV} {h : AH} {Q : GO → AH → Prop} (cl' : Bool) (y2 : MD) (vs : List AV) {idx : Nat} {Q2 : GO → AH → Prop} (hd : decode y.2.1 pc = .ok (.invokestatic idx, 3)) (hvw : ma_SW y.1.cls idx y2 vs.length) (hs : vs.reverse ++ st = stk) (hl2 : vs ++ List.replicate (y2.2.2.1 - vs.length) vU = ls2) (hN : vs.length ≤ y2.2.2.1) (hnl : ∀ v ∈ vs, ma_nl v) (h8 : st.length ≤ 10)
    (hcl' : cl' = true → cl = true ∧ rd2 = true ∧ ∀ g h1, Q2 g h1 → h1 = h) (G2 : Go sc true rd2 d2 bc2 bs2 y2 0 ls2 [] h Q2) (kr : ∀ h1, Q2 (.inl none) h1 → Go sc cl' rd (d2 + 1) bc bs y (pc + 3) ls st h1 Q) (kv : ∀ v h1, Q2 (.inl (some v)) h1 → Go sc cl' rd (d2 + 1) bc bs y (pc + 3) ls (v :: st) h1 Q) (kt : ∀ k h1, Q2 (.inr k) h1 → ma_thr sc cl' rd (d2 + 1) bc bs y pc ls h1 Q k) : Go sc cl rd (d2 + 1) (bc + bc2) (bs + bs2) y pc ls stk h Q := by
  intro p l e R s m args below meth c H locs cells slots mc ms D aC A ad ad0 n0 L S hC hDy
  obtain ⟨hRm, hHR, hSX, hS, hA, hEx, hL, hSt, hCl⟩ := id hDy
  subst hs
  obtain ⟨S1, S', rfl, hv1, hSt'⟩ := ma_SR_app hSt
  have hAs : ma_SR ad (ma_n h) vs S1.reverse := by have := ma_SR_rev hv1; rwa [List.reverse_reverse] at this
  have hlen : S1.reverse.length = vs.length := by
    have := ma_SR_len hv1
    simpa using this
  have hinv := ma_invS (l := l) (e := e) (R := R) (below := below) (H := H) (L := L) (S' := S') (pc := pc) hC hvw hlen hd
  rw [List.reverse_reverse] at hinv
  have hsum := ma_SR_sum hSt'
  obtain ⟨-, -, -, -, -, hcw, hpl, h40⟩ := hvw
  subst hl2
  exact ma_call hC ⟨hRm, hHR, hSX, hS, hA, hEx, hL, hSt', hCl⟩ hinv hcw hpl hN h40 hnl hAs (by omega) hd hcl' G2 kr kv kt
theorem Go.callI {sc : Nat × (Nat → Int32)} {cl rd rd2 : Bool} {d2 bc2 bs2 bc bs : Nat} {y : MD} {pc : Nat} {ls st stk ls2 : List AV} {h : AH} {Q : GO → AH → Prop} (cl' : Bool) (y2 : MD) (vs : List AV) {k i idx : Nat} {Q2 : GO → AH → Prop} (hd : decode y.2.1 pc = .ok (.invokespecial idx, 3)) (hvw : ma_IW y.1.cls idx y2 vs.length) (hk : k < 90) (hs : vs.reverse ++ vO k i :: st = stk) (hl2 : (vO k i :: vs) ++ List.replicate (y2.2.2.1 - (vs.length + 1)) vU = ls2) (hN : vs.length + 1 ≤ y2.2.2.1) (hnl : ∀ v ∈ vs, ma_nl v) (h8 : st.length ≤ 10)
    (hcl' : cl' = true → cl = true ∧ rd2 = true ∧ ∀ g h1, Q2 g h1 → h1 = h) (G2 : Go sc true rd2 d2 bc2 bs2 y2 0 ls2 [] h Q2) (kr : ∀ h1, Q2 (.inl none) h1 → Go sc cl' rd (d2 + 1) bc bs y (pc + 3) ls st h1 Q) (kv : ∀ v h1, Q2 (.inl (some v)) h1 → Go sc cl' rd (d2 + 1) bc bs y (pc + 3) ls (v :: st) h1 Q) (kt : ∀ k h1, Q2 (.inr k) h1 → ma_thr sc cl' rd (d2 + 1) bc bs y pc ls h1 Q k) : Go sc cl rd (d2 + 1) (bc + bc2) (bs + bs2) y pc ls stk h Q := by
  intro p l e R s m args below meth c H locs cells slots mc ms D aC A ad ad0 n0 L S hC hDy
  obtain ⟨hRm, hHR, hSX, hS, hA, hEx, hL, hSt, hCl⟩ := id hDy
  subst hs
  obtain ⟨S1, S2, rfl, hv1, x, S', rfl, hx1, hSt'⟩ := ma_SR_app hSt
  obtain ⟨hi, rfl⟩ := ma_ref (Or.inl hk) hx1
  have hAs : ma_SR ad (ma_n h) (vO k i :: vs) (.ref (ad k i) :: S1.reverse) := ⟨_, _, rfl, hx1, by have := ma_SR_rev hv1; rwa [List.reverse_reverse] at this⟩
  have hlen : S1.reverse.length = vs.length := by
    have := ma_SR_len hv1
    simpa using this
  have hinv := ma_invI (l := l) (e := e) (R := R) (below := below) (H := H) (L := L) (S' := S') (pc := pc) (a := ad k i) hC hvw hlen hd
  rw [List.reverse_reverse] at hinv
  have hsum := ma_SR_sum hSt'
  obtain ⟨-, -, -, -, -, -, hcw, hpl, h40⟩ := hvw
  subst hl2
  exact ma_call hC ⟨hRm, hHR, hSX, hS, hA, hEx, hL, hSt', hCl⟩ hinv hcw hpl (by simpa using hN) h40 (fun v hv => by rcases List.mem_cons.mp hv with rfl | hv; exact trivial; exact hnl v hv) hAs (by omega) hd hcl' G2 kr kv kt
