/-! RULES IN SHORT FOR THE SAFE WALK: what is forgotten, natural numbers, calls that end -/
theorem Go.hav {sc : Nat × (Nat → Int32)} {cl rd : Bool} {d bc bs : Nat} {y : MD} {pc : Nat} {ls st : List AV} {h : AH} {Q : GO → AH → Prop} {Kp : AH → Prop} (hk : Kp h) (kk : ∀ h1 : AH, Kp h1 → Go sc cl rd d bc bs y pc ls st h1 Q) : Go sc cl rd d bc bs y pc ls st h Q := kk h hk
theorem Go.cvt {sc : Nat × (Nat → Int32)} {cl rd : Bool} {d bc bs : Nat} {y : MD} {pc : Nat} {ls st : List AV} {h : AH} {Q : GO → AH → Prop} {v v' : Int32} (e : v = v') (kk : Go sc cl rd d bc bs y pc ls (vI v' :: st) h Q) : Go sc cl rd d bc bs y pc ls (vI v :: st) h Q := by
  rw [e]; exact kk
theorem Go.getIv {sc : Nat × (Nat → Int32)} {cl rd : Bool} {d bc bs : Nat} {y : MD} {pc : Nat} {ls st : List AV} {h : AH} {Q : GO → AH → Prop} {k i f idx : Nat} {v : Int32} (hd : decode y.2.1 pc = .ok (.getfield idx, 3)) (hf : ma_FL y.1.cls k f idx) (hk : k < 90) (hfk : ma_fk k f = false) (hv : h.1 k i f = v) (kk : Go sc cl rd d bc bs y (pc + 3) ls (vI v :: st) h Q) : Go sc cl rd d bc bs y pc ls (vO k i :: st) h Q :=
  Go.getI hd hf hk hfk (Go.cvt hv kk)
theorem Go.ialdv {sc : Nat × (Nat → Int32)} {cl rd : Bool} {d bc bs : Nat} {y : MD} {pc : Nat} {ls st : List AV} {h : AH} {Q : GO → AH → Prop} {i jn : Nat} {j v : Int32} (hd : decode y.2.1 pc = .ok (.iaload, 1)) (hj : j = nI jn) (hlt : jn < h.2.2.2.1 100 i) (hb31 : jn < 2 ^ 31) (hv : h.1 100 i jn = v) (kk : Go sc cl rd d bc bs y (pc + 1) ls (vI v :: st) h Q) : Go sc cl rd d bc bs y pc ls (vI j :: vO 100 i :: st) h Q :=
  Go.iald hd hj hlt hb31 (Go.cvt hv kk)
theorem Go.zaldv {sc : Nat × (Nat → Int32)} {cl rd : Bool} {d bc bs : Nat} {y : MD} {pc : Nat} {ls st : List AV} {h : AH} {Q : GO → AH → Prop} {i jn : Nat} {j v : Int32} (hd : decode y.2.1 pc = .ok (.baload, 1)) (hj : j = nI jn) (hlt : jn < h.2.2.2.1 102 i) (hb31 : jn < 2 ^ 31) (hv : h.1 102 i jn = v) (kk : Go sc cl rd d bc bs y (pc + 1) ls (vI v :: st) h Q) : Go sc cl rd d bc bs y pc ls (vI j :: vO 102 i :: st) h Q :=
  Go.zald hd hj hlt hb31 (Go.cvt hv kk)
theorem Go.ishr {sc : Nat × (Nat → Int32)} {cl rd : Bool} {d bc bs : Nat} {y : MD} {pc : Nat} {ls st : List AV} {h : AH} {Q : GO → AH → Prop} {x y' : Int32} (hd : decode y.2.1 pc = .ok (.ishr, 1)) (k : Go sc cl rd d bc bs y (pc + 1) ls (vI (x >>> (y' &&& 31)) :: st) h Q) : Go sc cl rd d bc bs y pc ls (vI y' :: vI x :: st) h Q := by
  intro p l e R s m args below meth c H locs cells slots mc ms D aC A ad ad0 n0 L S hC hDy
  obtain ⟨hx, hb, hml, hr, hown, hts, hlocks, hnm, hex, hK, hKa, hNc, hfl, hmH⟩ := id hC
  obtain ⟨hRm, hHR, hSX, hS, hA, hEx, hL, hSt, hCl⟩ := id hDy
  obtain ⟨z1, S1, rfl, rfl, z2, S2, rfl, rfl, hSt⟩ := hSt
  exact lv_ishr hx hb hd (k p l e R s m args below meth c H locs cells slots mc ms D aC A ad ad0 n0 L (.int (x >>> (y' &&& 31)) :: S2) hC ⟨hRm, hHR, hSX, hS, hA, hEx, hL, ⟨_, _, rfl, rfl, hSt⟩, hCl⟩)
theorem Go.idiv {sc : Nat × (Nat → Int32)} {cl rd : Bool} {d bc bs : Nat} {y : MD} {pc : Nat} {ls st : List AV} {h : AH} {Q : GO → AH → Prop} {x y' : Int32} (hd : decode y.2.1 pc = .ok (.idiv, 1)) (hne : ¬ y' = 0) (k : Go sc cl rd d bc bs y (pc + 1) ls (vI (x / y') :: st) h Q) : Go sc cl rd d bc bs y pc ls (vI y' :: vI x :: st) h Q := by
  intro p l e R s m args below meth c H locs cells slots mc ms D aC A ad ad0 n0 L S hC hDy
  obtain ⟨hx, hb, hml, hr, hown, hts, hlocks, hnm, hex, hK, hKa, hNc, hfl, hmH⟩ := id hC
  obtain ⟨hRm, hHR, hSX, hS, hA, hEx, hL, hSt, hCl⟩ := id hDy
  obtain ⟨z1, S1, rfl, rfl, z2, S2, rfl, rfl, hSt⟩ := hSt
  exact lv_idiv hx hb hd hne (k p l e R s m args below meth c H locs cells slots mc ms D aC A ad ad0 n0 L (.int (x / y') :: S2) hC ⟨hRm, hHR, hSX, hS, hA, hEx, hL, ⟨_, _, rfl, rfl, hSt⟩, hCl⟩)
theorem Go.irem {sc : Nat × (Nat → Int32)} {cl rd : Bool} {d bc bs : Nat} {y : MD} {pc : Nat} {ls st : List AV} {h : AH} {Q : GO → AH → Prop} {x y' : Int32} (hd : decode y.2.1 pc = .ok (.irem, 1)) (hne : ¬ y' = 0) (k : Go sc cl rd d bc bs y (pc + 1) ls (vI (x - x / y' * y') :: st) h Q) : Go sc cl rd d bc bs y pc ls (vI y' :: vI x :: st) h Q := by
  intro p l e R s m args below meth c H locs cells slots mc ms D aC A ad ad0 n0 L S hC hDy
  obtain ⟨hx, hb, hml, hr, hown, hts, hlocks, hnm, hex, hK, hKa, hNc, hfl, hmH⟩ := id hC
  obtain ⟨hRm, hHR, hSX, hS, hA, hEx, hL, hSt, hCl⟩ := id hDy
  obtain ⟨z1, S1, rfl, rfl, z2, S2, rfl, rfl, hSt⟩ := hSt
  exact lv_irem hx hb hd hne (k p l e R s m args below meth c H locs cells slots mc ms D aC A ad ad0 n0 L (.int (x - x / y' * y') :: S2) hC ⟨hRm, hHR, hSX, hS, hA, hEx, hL, ⟨_, _, rfl, rfl, hSt⟩, hCl⟩)
theorem Go.lconst {sc : Nat × (Nat → Int32)} {cl rd : Bool} {d bc bs : Nat} {y : MD} {pc : Nat} {ls st : List AV} {h : AH} {Q : GO → AH → Prop} {n : Fin 2} {v : Int64} (hd : decode y.2.1 pc = .ok (.lconst n, 1)) (hv : Int64.ofNat (n : Nat) = v) (k : Go sc cl rd d bc bs y (pc + 1) ls (vL v :: st) h Q) : Go sc cl rd d bc bs y pc ls st h Q := by
  intro p l e R s m args below meth c H locs cells slots mc ms D aC A ad ad0 n0 L S hC hDy
  obtain ⟨hx, hb, hml, hr, hown, hts, hlocks, hnm, hex, hK, hKa, hNc, hfl, hmH⟩ := id hC
  obtain ⟨hRm, hHR, hSX, hS, hA, hEx, hL, hSt, hCl⟩ := id hDy
  exact lv_lconst hx hb hd hv (k p l e R s m args below meth c H locs cells slots mc ms D aC A ad ad0 n0 L (.long v :: S) hC ⟨hRm, hHR, hSX, hS, hA, hEx, hL, ⟨_, _, rfl, rfl, hSt⟩, hCl⟩)
/-! outcomes -/
def PV (P : Int32 → AH → Prop) : GO → AH → Prop := fun g h' => ∃ v, g = .inl (some (vI v)) ∧ P v h'
def PN (P : AH → Prop) : GO → AH → Prop := fun g h' => g = .inl none ∧ P h'
theorem Go.cVp {sc : Nat × (Nat → Int32)} {cl rd : Bool} {d2 bc bs : Nat} {y : MD} {pc : Nat} {ls st stk ls2 : List AV} {h : AH} {Q : GO → AH → Prop} (y2 : MD) (vs : List AV) {k i idx : Nat} (hd : decode y.2.1 pc = .ok (.invokevirtual idx, 3)) (hvw : ma_VW y.1.cls idx y2 k vs.length) (hk : k < 90) (hs : vs.reverse ++ vO k i :: st = stk) (hl2 : (vO k i :: vs) ++ List.replicate (y2.2.2.1 - (vs.length + 1)) vU = ls2) (hN : vs.length + 1 ≤ y2.2.2.1) (hnl : vs.all ma_nlb = true) (h8 : st.length ≤ 10) {P : Int32 → AH → Prop} (G2 : Go sc true false d2 0 0 y2 0 ls2 [] h (PV P)) (kk : ∀ v h1, P v h1 → Go sc false rd (d2 + 1) bc bs y (pc + 3) ls (vI v :: st) h1 Q) : Go sc cl rd (d2 + 1) bc bs y pc ls stk h Q :=
  Go.callV (bc2 := 0) (bs2 := 0) (rd2 := false) false y2 vs hd hvw hk hs hl2 hN (ma_nls hnl) h8 (fun hc => nomatch hc) G2 (fun _ hq => by obtain ⟨_, e1, _⟩ := hq; cases e1) (fun v' h1 hq => by obtain ⟨v, e1, e2⟩ := hq; cases e1; exact kk v h1 e2) (fun _ _ hq => by obtain ⟨_, e1, _⟩ := hq; cases e1)
theorem Go.cVn {sc : Nat × (Nat → Int32)} {cl rd : Bool} {d2 bc bs : Nat} {y : MD} {pc : Nat} {ls st stk ls2 : List AV} {h : AH} {Q : GO → AH → Prop} (y2 : MD) (vs : List AV) {k i idx : Nat} (hd : decode y.2.1 pc = .ok (.invokevirtual idx, 3)) (hvw : ma_VW y.1.cls idx y2 k vs.length) (hk : k < 90) (hs : vs.reverse ++ vO k i :: st = stk) (hl2 : (vO k i :: vs) ++ List.replicate (y2.2.2.1 - (vs.length + 1)) vU = ls2) (hN : vs.length + 1 ≤ y2.2.2.1) (hnl : vs.all ma_nlb = true) (h8 : st.length ≤ 10) {P : AH → Prop} (G2 : Go sc true false d2 0 0 y2 0 ls2 [] h (PN P)) (kk : ∀ h1, P h1 → Go sc false rd (d2 + 1) bc bs y (pc + 3) ls st h1 Q) : Go sc cl rd (d2 + 1) bc bs y pc ls stk h Q :=
  Go.callV (bc2 := 0) (bs2 := 0) (rd2 := false) false y2 vs hd hvw hk hs hl2 hN (ma_nls hnl) h8 (fun hc => nomatch hc) G2 (fun h1 hq => kk h1 hq.2) (fun _ _ hq => by cases hq.1) (fun _ _ hq => by cases hq.1)
theorem Go.cSp {sc : Nat × (Nat → Int32)} {cl rd : Bool} {d2 bc bs : Nat} {y : MD} {pc : Nat} {ls st stk ls2 : List AV} {h : AH} {Q : GO → AH → Prop} (y2 : MD) (vs : List AV) {idx : Nat} (hd : decode y.2.1 pc = .ok (.invokestatic idx, 3)) (hvw : ma_SW y.1.cls idx y2 vs.length) (hs : vs.reverse ++ st = stk) (hl2 : vs ++ List.replicate (y2.2.2.1 - vs.length) vU = ls2) (hN : vs.length ≤ y2.2.2.1) (hnl : vs.all ma_nlb = true) (h8 : st.length ≤ 10) {P : Int32 → AH → Prop} (G2 : Go sc true false d2 0 0 y2 0 ls2 [] h (PV P)) (kk : ∀ v h1, P v h1 → Go sc false rd (d2 + 1) bc bs y (pc + 3) ls (vI v :: st) h1 Q) : Go sc cl rd (d2 + 1) bc bs y pc ls stk h Q :=
  Go.callS (bc2 := 0) (bs2 := 0) (rd2 := false) false y2 vs hd hvw hs hl2 hN (ma_nls hnl) h8 (fun hc => nomatch hc) G2 (fun _ hq => by obtain ⟨_, e1, _⟩ := hq; cases e1) (fun v' h1 hq => by obtain ⟨v, e1, e2⟩ := hq; cases e1; exact kk v h1 e2) (fun _ _ hq => by obtain ⟨_, e1, _⟩ := hq; cases e1)
theorem Go.cSn {sc : Nat × (Nat → Int32)} {cl rd : Bool} {d2 bc bs : Nat} {y : MD} {pc : Nat} {ls st stk ls2 : List AV} {h : AH} {Q : GO → AH → Prop} (y2 : MD) (vs : List AV) {idx : Nat} (hd : decode y.2.1 pc = .ok (.invokestatic idx, 3)) (hvw : ma_SW y.1.cls idx y2 vs.length) (hs : vs.reverse ++ st = stk) (hl2 : vs ++ List.replicate (y2.2.2.1 - vs.length) vU = ls2) (hN : vs.length ≤ y2.2.2.1) (hnl : vs.all ma_nlb = true) (h8 : st.length ≤ 10) {P : AH → Prop} (G2 : Go sc true false d2 0 0 y2 0 ls2 [] h (PN P)) (kk : ∀ h1, P h1 → Go sc false rd (d2 + 1) bc bs y (pc + 3) ls st h1 Q) : Go sc cl rd (d2 + 1) bc bs y pc ls stk h Q :=
  Go.callS (bc2 := 0) (bs2 := 0) (rd2 := false) false y2 vs hd hvw hs hl2 hN (ma_nls hnl) h8 (fun hc => nomatch hc) G2 (fun h1 hq => kk h1 hq.2) (fun _ _ hq => by cases hq.1) (fun _ _ hq => by cases hq.1)
def rP (P : Int32 → Prop) (h : AH) : GO → AH → Prop := PV (fun v h' => P v ∧ h' = h)
theorem Go.cVr {sc : Nat × (Nat → Int32)} {cl rd : Bool} {d2 bc bs : Nat} {y : MD} {pc : Nat} {ls st stk ls2 : List AV} {h : AH} {Q : GO → AH → Prop} (y2 : MD) (vs : List AV) {k i idx : Nat} (hd : decode y.2.1 pc = .ok (.invokevirtual idx, 3)) (hvw : ma_VW y.1.cls idx y2 k vs.length) (hk : k < 90) (hs : vs.reverse ++ vO k i :: st = stk) (hl2 : (vO k i :: vs) ++ List.replicate (y2.2.2.1 - (vs.length + 1)) vU = ls2) (hN : vs.length + 1 ≤ y2.2.2.1) (hnl : vs.all ma_nlb = true) (h8 : st.length ≤ 10) {P : Int32 → Prop} (G2 : Go sc true false d2 0 0 y2 0 ls2 [] h (rP P h)) (kk : ∀ v, P v → Go sc false rd (d2 + 1) bc bs y (pc + 3) ls (vI v :: st) h Q) : Go sc cl rd (d2 + 1) bc bs y pc ls stk h Q :=
  Go.cVp y2 vs hd hvw hk hs hl2 hN hnl h8 G2 (fun v h1 e => by obtain ⟨e1, e2⟩ := e; cases e2; exact kk v e1)
theorem Go.cVo {sc : Nat × (Nat → Int32)} {cl rd : Bool} {d2 bc bs : Nat} {y : MD} {pc : Nat} {ls st stk ls2 : List AV} {h : AH} {Q : GO → AH → Prop} (y2 : MD) (vs : List AV) {k i idx : Nat} (hd : decode y.2.1 pc = .ok (.invokevirtual idx, 3)) (hvw : ma_VW y.1.cls idx y2 k vs.length) (hk : k < 90) (hs : vs.reverse ++ vO k i :: st = stk) (hl2 : (vO k i :: vs) ++ List.replicate (y2.2.2.1 - (vs.length + 1)) vU = ls2) (hN : vs.length + 1 ≤ y2.2.2.1) (hnl : vs.all ma_nlb = true) (h8 : st.length ≤ 10) {P : Int32 → Prop} (G2 : Go sc true true d2 0 0 y2 0 ls2 [] h (rP P h)) (kk : ∀ v, P v → Go sc cl rd (d2 + 1) bc bs y (pc + 3) ls (vI v :: st) h Q) : Go sc cl rd (d2 + 1) bc bs y pc ls stk h Q :=
  Go.callV (bc2 := 0) (bs2 := 0) (rd2 := true) cl y2 vs hd hvw hk hs hl2 hN (ma_nls hnl) h8 (fun hc => ⟨hc, rfl, fun _ _ hq => by obtain ⟨_, _, _, e⟩ := hq; exact e⟩) G2 (fun _ hq => by obtain ⟨_, e1, _⟩ := hq; cases e1) (fun v' h1 hq => by obtain ⟨v, e1, e2, e3⟩ := hq; cases e1; cases e3; exact kk v e2) (fun _ _ hq => by obtain ⟨_, e1, _⟩ := hq; cases e1)
theorem Go.cSr {sc : Nat × (Nat → Int32)} {cl rd : Bool} {d2 bc bs : Nat} {y : MD} {pc : Nat} {ls st stk ls2 : List AV} {h : AH} {Q : GO → AH → Prop} (y2 : MD) (vs : List AV) {idx : Nat} (hd : decode y.2.1 pc = .ok (.invokestatic idx, 3)) (hvw : ma_SW y.1.cls idx y2 vs.length) (hs : vs.reverse ++ st = stk) (hl2 : vs ++ List.replicate (y2.2.2.1 - vs.length) vU = ls2) (hN : vs.length ≤ y2.2.2.1) (hnl : vs.all ma_nlb = true) (h8 : st.length ≤ 10) {P : Int32 → Prop} (G2 : Go sc true false d2 0 0 y2 0 ls2 [] h (rP P h)) (kk : ∀ v, P v → Go sc false rd (d2 + 1) bc bs y (pc + 3) ls (vI v :: st) h Q) : Go sc cl rd (d2 + 1) bc bs y pc ls stk h Q :=
  Go.cSp y2 vs hd hvw hs hl2 hN hnl h8 G2 (fun v h1 e => by obtain ⟨e1, e2⟩ := e; cases e2; exact kk v e1)
theorem Go.cSo {sc : Nat × (Nat → Int32)} {cl rd : Bool} {d2 bc bs : Nat} {y : MD} {pc : Nat} {ls st stk ls2 : List AV} {h : AH} {Q : GO → AH → Prop} (y2 : MD) (vs : List AV) {idx : Nat} (hd : decode y.2.1 pc = .ok (.invokestatic idx, 3)) (hvw : ma_SW y.1.cls idx y2 vs.length) (hs : vs.reverse ++ st = stk) (hl2 : vs ++ List.replicate (y2.2.2.1 - vs.length) vU = ls2) (hN : vs.length ≤ y2.2.2.1) (hnl : vs.all ma_nlb = true) (h8 : st.length ≤ 10) {P : Int32 → Prop} (G2 : Go sc true true d2 0 0 y2 0 ls2 [] h (rP P h)) (kk : ∀ v, P v → Go sc cl rd (d2 + 1) bc bs y (pc + 3) ls (vI v :: st) h Q) : Go sc cl rd (d2 + 1) bc bs y pc ls stk h Q :=
  Go.callS (bc2 := 0) (bs2 := 0) (rd2 := true) cl y2 vs hd hvw hs hl2 hN (ma_nls hnl) h8 (fun hc => ⟨hc, rfl, fun _ _ hq => by obtain ⟨_, _, _, e⟩ := hq; exact e⟩) G2 (fun _ hq => by obtain ⟨_, e1, _⟩ := hq; cases e1) (fun v' h1 hq => by obtain ⟨v, e1, e2, e3⟩ := hq; cases e1; cases e3; exact kk v e2) (fun _ _ hq => by obtain ⟨_, e1, _⟩ := hq; cases e1)
theorem Go.cVf {sc : Nat × (Nat → Int32)} {cl rd : Bool} {d2 bc bs : Nat} {y : MD} {pc : Nat} {ls st stk ls2 : List AV} {h : AH} {Q : GO → AH → Prop} (y2 : MD) (vs : List AV) {k i idx : Nat} (hd : decode y.2.1 pc = .ok (.invokevirtual idx, 3)) (hvw : ma_VW y.1.cls idx y2 k vs.length) (hk : k < 90) (hs : vs.reverse ++ vO k i :: st = stk) (hl2 : (vO k i :: vs) ++ List.replicate (y2.2.2.1 - (vs.length + 1)) vU = ls2) (hN : vs.length + 1 ≤ y2.2.2.1) (hnl : vs.all ma_nlb = true) (h8 : st.length ≤ 10) {h2 : AH} (G2 : Go sc true false d2 0 0 y2 0 ls2 [] h (rN h2)) (kk : Go sc false rd (d2 + 1) bc bs y (pc + 3) ls st h2 Q) : Go sc cl rd (d2 + 1) bc bs y pc ls stk h Q :=
  Go.callVn y2 vs hd hvw hk hs hl2 hN hnl h8 G2 kk
theorem Go.cVv {sc : Nat × (Nat → Int32)} {cl rd : Bool} {d2 bc bs : Nat} {y : MD} {pc : Nat} {ls st stk ls2 : List AV} {h : AH} {Q : GO → AH → Prop} (y2 : MD) (vs : List AV) {k i idx : Nat} (hd : decode y.2.1 pc = .ok (.invokevirtual idx, 3)) (hvw : ma_VW y.1.cls idx y2 k vs.length) (hk : k < 90) (hs : vs.reverse ++ vO k i :: st = stk) (hl2 : (vO k i :: vs) ++ List.replicate (y2.2.2.1 - (vs.length + 1)) vU = ls2) (hN : vs.length + 1 ≤ y2.2.2.1) (hnl : vs.all ma_nlb = true) (h8 : st.length ≤ 10) {v : Int32} (G2 : Go sc true true d2 0 0 y2 0 ls2 [] h (rV v h)) (kk : ∀ v2, v2 = v → Go sc cl rd (d2 + 1) bc bs y (pc + 3) ls (vI v2 :: st) h Q) : Go sc cl rd (d2 + 1) bc bs y pc ls stk h Q :=
  Go.callVr y2 vs hd hvw hk hs hl2 hN hnl h8 G2 (kk v rfl)
/-- it reads alone, and may throw -/
def rPT (P : Int32 → Prop) (kx : Nat) (h : AH) : GO → AH → Prop := fun g h' => h' = h ∧ ((∃ v, P v ∧ g = .inl (some (vI v))) ∨ g = .inr kx)
theorem Go.cVt {sc : Nat × (Nat → Int32)} {cl rd : Bool} {d2 bc bs : Nat} {y : MD} {pc : Nat} {ls st stk ls2 : List AV} {h : AH} {Q : GO → AH → Prop} (y2 : MD) (vs : List AV) {k i idx : Nat} (hd : decode y.2.1 pc = .ok (.invokevirtual idx, 3)) (hvw : ma_VW y.1.cls idx y2 k vs.length) (hk : k < 90) (hs : vs.reverse ++ vO k i :: st = stk) (hl2 : (vO k i :: vs) ++ List.replicate (y2.2.2.1 - (vs.length + 1)) vU = ls2) (hN : vs.length + 1 ≤ y2.2.2.1) (hnl : vs.all ma_nlb = true) (h8 : st.length ≤ 10) {P : Int32 → Prop} {kx : Nat} (hno : (tableOf y.2.2.2.2).all (fun x => !covers x pc) = true) (hrd : rd = true → cl = true) (G2 : Go sc true true d2 1 6 y2 0 ls2 [] h (rPT P kx h)) (kk : ∀ v, P v → Go sc cl rd (d2 + 1) bc bs y (pc + 3) ls (vI v :: st) h Q) (kq : Q (.inr kx) h) : Go sc cl rd (d2 + 1) (bc + 1) (bs + 6) y pc ls stk h Q :=
  Go.callV (bc2 := 1) (bs2 := 6) (rd2 := true) cl y2 vs hd hvw hk hs hl2 hN (ma_nls hnl) h8 (fun hc => ⟨hc, rfl, fun _ _ hq => hq.1⟩) G2 (fun _ hq => by obtain ⟨-, ⟨_, -, e3⟩ | e3⟩ := hq <;> cases e3) (fun v' h1 hq => by
    obtain ⟨e1, ⟨v, e2, e3⟩ | e3⟩ := hq
    · cases e1; cases e3; exact kk v e2
    · cases e3) (fun k' h1 hq => by
    obtain ⟨e1, ⟨_, -, e3⟩ | e3⟩ := hq
    · cases e3
    · cases e1; cases e3; exact Or.inl ⟨hno, hrd, kq⟩)
/-- how a call of the book ends: with a number (or nothing), or with an exception of these kinds, and then all is as it was -/
def OB (Kp : AH → Prop) (h : AH) (ks : List Nat) : GO → AH → Prop := fun g h' => (∃ v, g = .inl (some (vI v)) ∧ Kp h') ∨ (∃ k, k ∈ ks ∧ g = .inr k ∧ h' = h)
def ON (Kp : AH → Prop) (h : AH) (ks : List Nat) : GO → AH → Prop := fun g h' => (g = .inl none ∧ Kp h') ∨ (∃ k, k ∈ ks ∧ g = .inr k ∧ h' = h)
/-! natural numbers in ints -/
theorem nI_inc (n : Nat) : nI n + Int32.ofInt 1 = nI (n + 1) := by
  rw [show Int32.ofInt 1 = nI 1 from by decide]; exact nI_add n 1
theorem nI_inc5 (n : Nat) : nI n + Int32.ofInt 5 = nI (n + 5) := by
  rw [show Int32.ofInt 5 = nI 5 from by decide]; exact nI_add n 5
theorem nI_dec {n : Nat} (h : 0 < n) : nI n + Int32.ofInt (-1) = nI (n - 1) := by
  rw [show Int32.ofInt (-1) = (-1 : Int32) from by decide]; exact sb_m1 h
theorem nI_nz {n : Nat} (h : 0 < n ∧ n < 2 ^ 31) : ¬ nI n = 0 := nI_ne0 h.1 h.2
theorem nI_or (a b : Nat) : nI a ||| nI b = nI (a ||| b) := by
  apply Int32.toBitVec_inj.mp
  show BitVec.ofNat 32 a ||| BitVec.ofNat 32 b = BitVec.ofNat 32 (a ||| b)
  rw [BitVec.ofNat_or]
theorem nI_and (a b : Nat) : nI a &&& nI b = nI (a &&& b) := by
  apply Int32.toBitVec_inj.mp
  show BitVec.ofNat 32 a &&& BitVec.ofNat 32 b = BitVec.ofNat 32 (a &&& b)
  rw [BitVec.ofNat_and]
theorem nI_31 : ∀ i, i < 32 → ((nI i &&& 31).toBitVec.smod 32).toNat = i := by decide +kernel
theorem nI_shr {a i : Nat} (ha : a < 2 ^ 31) (hi : i < 32) : nI a >>> (nI i &&& 31) = nI (a / 2 ^ i) := pk_shrN ha _ i (nI_31 i hi)
theorem nI_shl {i : Nat} (hi : i < 31) : nI 1 <<< (nI i &&& 31) = nI (2 ^ i) := by
  have h := pk_shlN (n := 1) (nI i &&& 31) i (nI_31 i (by omega)) (by rw [Nat.one_mul]; exact Nat.pow_lt_pow_right (by decide) (by omega))
  rw [Nat.one_mul] at h
  exact h
theorem nI_an1 {a : Nat} (ha : a < 2 ^ 31) : nI a &&& nI 1 = nI (a % 2) := pk_andN (by omega) 1 (by decide)
theorem tle {a b : Nat} (q : nI a ≤ nI b) (ha : a < 2 ^ 31) (hb : b < 2 ^ 31) : a ≤ b := (nI_leI ha hb).mp q
theorem tnle {a b : Nat} (q : ¬ nI a ≤ nI b) (ha : a < 2 ^ 31) (hb : b < 2 ^ 31) : b < a := Nat.not_le.mp (fun z => q ((nI_leI ha hb).mpr z))
theorem tlt {a b : Nat} (q : nI a < nI b) (ha : a < 2 ^ 31) (hb : b < 2 ^ 31) : a < b := (nI_ltI ha hb).mp q
theorem tnlt {a b : Nat} (q : ¬ nI a < nI b) (ha : a < 2 ^ 31) (hb : b < 2 ^ 31) : b ≤ a := Nat.not_lt.mp (fun z => q ((nI_ltI ha hb).mpr z))
theorem teq {a b : Nat} (q : nI a = nI b) (ha : a < 2 ^ 31) (hb : b < 2 ^ 31) : a = b := (nI_eq ha hb).mp q
theorem tne {a b : Nat} (q : ¬ nI a = nI b) (ha : a < 2 ^ 31) (hb : b < 2 ^ 31) : a ≠ b := fun z => q ((nI_eq ha hb).mpr z)
theorem zeq {a : Nat} (q : nI a = 0) (ha : a < 2 ^ 31) : a = 0 := teq (b := 0) q ha (by decide)
theorem zne {a : Nat} (q : ¬ nI a = 0) (ha : a < 2 ^ 31) : a ≠ 0 := tne (b := 0) q ha (by decide)
theorem zgt {a : Nat} (q : 0 < nI a) (ha : a < 2 ^ 31) : 0 < a := tlt (a := 0) q (by decide) ha
theorem zngt {a : Nat} (q : ¬ 0 < nI a) (ha : a < 2 ^ 31) : a = 0 := Nat.le_zero.mp (tnlt (a := 0) q (by decide) ha)
theorem zle {a : Nat} (q : nI a ≤ 0) (ha : a < 2 ^ 31) : a = 0 := Nat.le_zero.mp (tle (b := 0) q ha (by decide))
theorem znle {a : Nat} (q : ¬ nI a ≤ 0) (ha : a < 2 ^ 31) : 0 < a := tnle (b := 0) q ha (by decide)
theorem ma_up_ne {α : Type} {f : Nat → Nat → Nat → α} {c i k c' i' k' : Nat} {v : α} (h : c' ≠ c ∨ i' ≠ i ∨ k' ≠ k) : ma_up f c i k v c' i' k' = f c' i' k' := by
  unfold ma_up
  rw [if_neg]
  rintro ⟨h1, h2, h3⟩
  rcases h with h | h | h
  · exact h h1
  · exact h h2
  · exact h h3
theorem ma_up_cases {α : Type} {f : Nat → Nat → Nat → α} {c i k k' : Nat} {v : α} (P : α → Prop) (h1 : k' = k → P v) (h2 : k' ≠ k → P (f c i k')) : P (ma_up f c i k v c i k') := by
  by_cases h : k' = k
  · subst h; rw [ma_up_self]; exact h1 rfl
  · rw [ma_up_ne (Or.inr (Or.inr h))]; exact h2 h
/-- a number below n -/
def inR (n : Nat) (x : Int32) : Prop := ∃ j : Nat, j < n ∧ x = nI j
/-- a door, or none -/
def inD (x : Int32) : Prop := x = -1 ∨ inR 4 x
theorem or32 : ∀ s, s < 32 → ∀ t, t < 5 → s ||| 2 ^ t < 32 := by decide +kernel
/-- one less, from 0 on: a number that goes down -/
def im (c : Nat) : Int32 := nI c + Int32.ofInt (-1)
theorem im_0 : im 0 = -1 := by decide
theorem im_s (c : Nat) : im (c + 1) = nI c := nI_dec (Nat.succ_pos c)
theorem im_e (c : Nat) : nI c - nI 1 = im c := by
  unfold im
  rw [show Int32.ofInt (-1) = -nI 1 from by decide, Int32.sub_eq_add_neg]
theorem and_bit : ∀ s, s < 32 → ∀ t, t < 5 → s &&& 2 ^ t = 0 → s / 2 ^ t % 2 = 0 := by decide +kernel
theorem p2_5 : ∀ t, t < 5 → 2 ^ t < 32 := by decide
theorem sw7 (x : Int32) : (x.toInt < 0 ∨ 6 < x.toInt) ∨ x = 0 ∨ x = 1 ∨ x = 2 ∨ x = 3 ∨ x = 4 ∨ x = 5 ∨ x = 6 := by
  by_cases h : x.toInt < 0 ∨ 6 < x.toInt
  · exact Or.inl h
  · right
    have e : x.toInt = 0 ∨ x.toInt = 1 ∨ x.toInt = 2 ∨ x.toInt = 3 ∨ x.toInt = 4 ∨ x.toInt = 5 ∨ x.toInt = 6 := by omega
    rcases e with e | e | e | e | e | e | e
    · exact Or.inl (Int32.toInt_inj.mp e)
    · exact Or.inr (Or.inl (Int32.toInt_inj.mp e))
    · exact Or.inr (Or.inr (Or.inl (Int32.toInt_inj.mp e)))
    · exact Or.inr (Or.inr (Or.inr (Or.inl (Int32.toInt_inj.mp e))))
    · exact Or.inr (Or.inr (Or.inr (Or.inr (Or.inl (Int32.toInt_inj.mp e)))))
    · exact Or.inr (Or.inr (Or.inr (Or.inr (Or.inr (Or.inl (Int32.toInt_inj.mp e))))))
    · exact Or.inr (Or.inr (Or.inr (Or.inr (Or.inr (Or.inr ((Int32.toInt_inj.mp e)))))))
theorem sw18 (x : Int32) : (x.toInt < 0 ∨ 17 < x.toInt) ∨ x = 0 ∨ x = 1 ∨ x = 2 ∨ x = 3 ∨ x = 4 ∨ x = 5 ∨ x = 6 ∨ x = 7 ∨ x = 8 ∨ x = 9 ∨ x = 10 ∨ x = 11 ∨ x = 12 ∨ x = 13 ∨ x = 14 ∨ x = 15 ∨ x = 16 ∨ x = 17 := by
  by_cases h : x.toInt < 0 ∨ 17 < x.toInt
  · exact Or.inl h
  · right
    have e : x.toInt = 0 ∨ x.toInt = 1 ∨ x.toInt = 2 ∨ x.toInt = 3 ∨ x.toInt = 4 ∨ x.toInt = 5 ∨ x.toInt = 6 ∨ x.toInt = 7 ∨ x.toInt = 8 ∨ x.toInt = 9 ∨ x.toInt = 10 ∨ x.toInt = 11 ∨ x.toInt = 12 ∨ x.toInt = 13 ∨ x.toInt = 14 ∨ x.toInt = 15 ∨ x.toInt = 16 ∨ x.toInt = 17 := by omega
    rcases e with e | e | e | e | e | e | e | e | e | e | e | e | e | e | e | e | e | e
    · exact Or.inl (Int32.toInt_inj.mp e)
    · exact Or.inr (Or.inl (Int32.toInt_inj.mp e))
    · exact Or.inr (Or.inr (Or.inl (Int32.toInt_inj.mp e)))
    · exact Or.inr (Or.inr (Or.inr (Or.inl (Int32.toInt_inj.mp e))))
    · exact Or.inr (Or.inr (Or.inr (Or.inr (Or.inl (Int32.toInt_inj.mp e)))))
    · exact Or.inr (Or.inr (Or.inr (Or.inr (Or.inr (Or.inl (Int32.toInt_inj.mp e))))))
    · exact Or.inr (Or.inr (Or.inr (Or.inr (Or.inr (Or.inr (Or.inl (Int32.toInt_inj.mp e)))))))
    · exact Or.inr (Or.inr (Or.inr (Or.inr (Or.inr (Or.inr (Or.inr (Or.inl (Int32.toInt_inj.mp e))))))))
    · exact Or.inr (Or.inr (Or.inr (Or.inr (Or.inr (Or.inr (Or.inr (Or.inr (Or.inl (Int32.toInt_inj.mp e)))))))))
    · exact Or.inr (Or.inr (Or.inr (Or.inr (Or.inr (Or.inr (Or.inr (Or.inr (Or.inr (Or.inl (Int32.toInt_inj.mp e))))))))))
    · exact Or.inr (Or.inr (Or.inr (Or.inr (Or.inr (Or.inr (Or.inr (Or.inr (Or.inr (Or.inr (Or.inl (Int32.toInt_inj.mp e)))))))))))
    · exact Or.inr (Or.inr (Or.inr (Or.inr (Or.inr (Or.inr (Or.inr (Or.inr (Or.inr (Or.inr (Or.inr (Or.inl (Int32.toInt_inj.mp e))))))))))))
    · exact Or.inr (Or.inr (Or.inr (Or.inr (Or.inr (Or.inr (Or.inr (Or.inr (Or.inr (Or.inr (Or.inr (Or.inr (Or.inl (Int32.toInt_inj.mp e)))))))))))))
    · exact Or.inr (Or.inr (Or.inr (Or.inr (Or.inr (Or.inr (Or.inr (Or.inr (Or.inr (Or.inr (Or.inr (Or.inr (Or.inr (Or.inl (Int32.toInt_inj.mp e))))))))))))))
    · exact Or.inr (Or.inr (Or.inr (Or.inr (Or.inr (Or.inr (Or.inr (Or.inr (Or.inr (Or.inr (Or.inr (Or.inr (Or.inr (Or.inr (Or.inl (Int32.toInt_inj.mp e)))))))))))))))
    · exact Or.inr (Or.inr (Or.inr (Or.inr (Or.inr (Or.inr (Or.inr (Or.inr (Or.inr (Or.inr (Or.inr (Or.inr (Or.inr (Or.inr (Or.inr (Or.inl (Int32.toInt_inj.mp e))))))))))))))))
    · exact Or.inr (Or.inr (Or.inr (Or.inr (Or.inr (Or.inr (Or.inr (Or.inr (Or.inr (Or.inr (Or.inr (Or.inr (Or.inr (Or.inr (Or.inr (Or.inr (Or.inl (Int32.toInt_inj.mp e)))))))))))))))))
    · exact Or.inr (Or.inr (Or.inr (Or.inr (Or.inr (Or.inr (Or.inr (Or.inr (Or.inr (Or.inr (Or.inr (Or.inr (Or.inr (Or.inr (Or.inr (Or.inr (Or.inr ((Int32.toInt_inj.mp e))))))))))))))))))
theorem up_self {h : AH} {c i k : Nat} {v : Int32} : ((ma_up h.1 c i k v, h.2) : AH).1 c i k = v := ma_up_self h.1 c i k v
theorem up_ne {h : AH} {c i k c' i' k' : Nat} {v : Int32} (hn : c' ≠ c ∨ i' ≠ i ∨ k' ≠ k) : ((ma_up h.1 c i k v, h.2) : AH).1 c' i' k' = h.1 c' i' k' := ma_up_ne (f := h.1) hn
theorem up_ne2 {h : AH} {c i k c2 i2 k2 c' i' k' : Nat} {v v2 : Int32} (hn : c' ≠ c ∨ i' ≠ i ∨ k' ≠ k) (hn2 : c' ≠ c2 ∨ i' ≠ i2 ∨ k' ≠ k2) : ((ma_up (ma_up h.1 c i k v) c2 i2 k2 v2, h.2) : AH).1 c' i' k' = h.1 c' i' k' := (ma_up_ne (f := ma_up h.1 c i k v) hn2).trans (ma_up_ne (f := h.1) hn)
