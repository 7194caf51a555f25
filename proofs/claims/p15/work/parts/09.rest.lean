/-! Object's constructor, a nest mate's constructor, lcmp -/
theorem Go.objInit {sc : Nat × (Nat → Int32)} {cl rd : Bool} {d bc bs : Nat} {y : MD} {pc : Nat} {ls st : List AV} {h : AH} {Q : GO → AH → Prop} {k i idx : Nat} (hd : decode y.2.1 pc = .ok (.invokespecial idx, 3)) (hw : Cond.methodLink y.1.cls idx objectInit ∈ maT ∧ Cond.instanceMethod objectInit ∈ maT ∧ Cond.code objectInit ⟨#[0xb1]⟩ 1 none ∈ maT) (hd1 : 1 ≤ d) (h8 : st.length ≤ 4) (kk : Go sc cl rd d bc bs y (pc + 3) ls st h Q) : Go sc cl rd d bc bs y pc ls (vO k i :: st) h Q := by
  intro p l e R s m args below meth c H locs cells slots mc ms D aC A ad ad0 n0 L S hC hDy
  obtain ⟨hx, hb, hml, hr, hown, hts, hlocks, hnm, hex, hK, hKa, hNc, hfl, hmH⟩ := id hC
  obtain ⟨hRm, hHR, hSX, hS, hA, hEx, hL, hSt, hCl⟩ := id hDy
  obtain ⟨z1, S1, rfl, hv, hSt⟩ := hSt
  have hv' : ∃ a, z1 = .ref a := by
    rcases hv with ⟨-, a, rfl⟩ | ⟨-, rfl⟩ | ⟨-, rfl⟩ <;> exact ⟨_, rfl⟩
  obtain ⟨a, rfl⟩ := hv'
  obtain ⟨r1, r2, r3, r4, r5, r6⟩ := id hRm
  have hsum := ma_SR_sum hSt
  have hroom := lv_room (m := m) (pc := pc) (ls := L) (rest := .ref a :: S1) (st := S1) (by omega)
  refine W.objInit hx hb hown (hts _ hw.1) (hts _ hw.2.1) (hts _ hw.2.2) rfl (hL.1.trans hml.symm) rfl hd (by omega) (by
    show 2 * (F0 m pc L (.ref a :: S1)).monitorRoom + (S1.map fun v => v.category).sum + 12 ≤ R.locals
    omega) ?_
  exact W.eq (g2 := F0 m (pc + 3) L S1) rfl (kk p l e R s m args below meth c H locs cells slots mc ms D aC A ad ad0 n0 L S1 hC ⟨hRm, hHR, hSX, hS, hA, hEx, hL, hSt, hCl⟩)
theorem Go.lcmp {sc : Nat × (Nat → Int32)} {cl rd : Bool} {d bc bs : Nat} {y : MD} {pc : Nat} {ls st : List AV} {h : AH} {Q : GO → AH → Prop} {a b : Int64} (hd : decode y.2.1 pc = .ok (.lcmp, 1)) (kk : Go sc cl rd d bc bs y (pc + 1) ls (vI (lg_cmp a b) :: st) h Q) : Go sc cl rd d bc bs y pc ls (vL b :: vL a :: st) h Q := by
  intro p l e R s m args below meth c H locs cells slots mc ms D aC A ad ad0 n0 L S hC hDy
  obtain ⟨hx, hb, hml, hr, hown, hts, hlocks, hnm, hex, hK, hKa, hNc, hfl, hmH⟩ := id hC
  obtain ⟨hRm, hHR, hSX, hS, hA, hEx, hL, hSt, hCl⟩ := id hDy
  obtain ⟨z1, S1, rfl, rfl, z2, S2, rfl, rfl, hSt⟩ := hSt
  exact W.lcmp hx hb hd (kk p l e R s m args below meth c H locs cells slots mc ms D aC A ad ad0 n0 L (.int (lg_cmp a b) :: S2) hC ⟨hRm, hHR, hSX, hS, hA, hEx, hL, ⟨_, _, rfl, rfl, hSt⟩, hCl⟩)
def ma_JW (own : String) (idx : Nat) (y2 : MD) (n : Nat) (host : String) : Prop := Cond.methodLinkNest own idx y2.1 host ∈ maT ∧ Cond.instanceMethod y2.1 ∈ maT ∧ y2.1.name = "<init>" ∧ (y2.1.cls ≠ "java/lang/invoke/MethodHandle" ∧ y2.1.cls ≠ "java/lang/invoke/VarHandle") ∧ (parseMethodDescriptor y2.1.desc).map (fun d => d.parameters.length) = some n ∧ Cond.code y2.1 y2.2.1 y2.2.2.1 none ∈ maT ∧ ma_CW y2 ∧ plainFor y2.1 = true ∧ y2.2.2.1 ≤ 30
theorem Go.callJ {sc : Nat × (Nat → Int32)} {cl rd rd2 : Bool} {d2 bc2 bs2 bc bs : Nat} {y : MD} {pc : Nat} {ls st stk ls2 : List AV} {h : AH} {Q : GO → AH → Prop} (cl' : Bool) (y2 : MD) (vs : List AV) {k i idx : Nat} {host : String} {Q2 : GO → AH → Prop} (hd : decode y.2.1 pc = .ok (.invokespecial idx, 3)) (hvw : ma_JW y.1.cls idx y2 vs.length host) (hk : k < 90) (hs : vs.reverse ++ vO k i :: st = stk) (hl2 : (vO k i :: vs) ++ List.replicate (y2.2.2.1 - (vs.length + 1)) vU = ls2) (hN : vs.length + 1 ≤ y2.2.2.1) (hnl : ∀ v ∈ vs, ma_nl v) (h8 : st.length ≤ 10)
    (hcl' : cl' = true → cl = true ∧ rd2 = true ∧ ∀ g h1, Q2 g h1 → h1 = h) (G2 : Go sc true rd2 d2 bc2 bs2 y2 0 ls2 [] h Q2) (kr : ∀ h1, Q2 (.inl none) h1 → Go sc cl' rd (d2 + 1) bc bs y (pc + 3) ls st h1 Q) (kv : ∀ v h1, Q2 (.inl (some v)) h1 → Go sc cl' rd (d2 + 1) bc bs y (pc + 3) ls (v :: st) h1 Q) (kt : ∀ k h1, Q2 (.inr k) h1 → ma_thr sc cl' rd (d2 + 1) bc bs y pc ls h1 Q k) : Go sc cl rd (d2 + 1) (bc + bc2) (bs + bs2) y pc ls stk h Q := by
  intro p l e R s m args below meth c H locs cells slots mc ms D aC A ad ad0 n0 L S hC hDy
  obtain ⟨hx, hb, hml, hr, hown, hts, hlocks, hnm, hex, hK, hKa, hNc, hfl, hmH⟩ := id hC
  obtain ⟨hRm, hHR, hSX, hS, hA, hEx, hL, hSt, hCl⟩ := id hDy
  subst hs
  obtain ⟨S1, S2, rfl, hv1, x, S', rfl, hx1, hSt'⟩ := ma_SR_app hSt
  obtain ⟨hi, rfl⟩ := ma_ref (Or.inl hk) hx1
  have hAs : ma_SR ad (ma_n h) (vO k i :: vs) (.ref (ad k i) :: S1.reverse) := ⟨_, _, rfl, hx1, by have := ma_SR_rev hv1; rwa [List.reverse_reverse] at this⟩
  have hlen : S1.reverse.length = vs.length := by
    have := ma_SR_len hv1
    simpa using this
  obtain ⟨hlk, hinst, hy1, hy, hpar, hcd, hcw, hpl9, h40⟩ := hvw
  have hinv : ma_Inv p l e R s m args below meth c H y2 (F0 m pc L (S1 ++ .ref (ad k i) :: S')) S' (.ref (ad k i) :: S1.reverse) := by
    intro T locs cells slots hT X
    have hpl : e.platform.magicAccessors = ({} : Platform).magicAccessors := by rw [X.admits.platform]
    obtain ⟨mk, methM, cM, kP, vm₁, hnamed, hmethM, hcodeM, -, hlocalsM, -, hkP, -, hW₁, hstep₁⟩ := Steps.initColdArgsNest (e := e) X.here hx X.warmed hpl hown hy1 hy (hts _ hlk) (hts _ hinst) (hts _ hcd) (f := F0 m pc L (S1 ++ .ref (ad k i) :: S')) rfl (argsL := S1.reverse) (a := ad k i) (rest := S') (fun sig h9 => hlen.trans (ma_par hpar h9)) (by rw [List.reverse_reverse]) (by rw [hb]; exact hd)
    exact ⟨vm₁, mk, X.noted hW₁, hnamed, fun target h9 => hstep₁ _ h9⟩
  have hsum := ma_SR_sum hSt'
  subst hl2
  exact ma_call hC ⟨hRm, hHR, hSX, hS, hA, hEx, hL, hSt', hCl⟩ hinv hcw hpl9 (by simpa using hN) h40 (fun v hv => by rcases List.mem_cons.mp hv with rfl | hv; exact trivial; exact hnl v hv) hAs (by omega) hd hcl' G2 kr kv kt
