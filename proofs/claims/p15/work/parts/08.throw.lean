/-! A NEW EXCEPTION IS THROWN, before anything was written: new, dup, ldc, invokespecial, athrow -/
theorem ma_same0 {s U : State} {k n : Nat} (h : s.sameButNew U [] k n) {q : Nat} {x : Cell} (hc : s.heap[q]? = some x) : U.heap[q]? = some x := by
  obtain ⟨x', h1, h2, h3, h4⟩ := h.2.2.2.2.2 q x hc
  have e1 : x'.slots = x.slots := by
    apply Array.ext_getElem?
    intro i
    exact h4 i (by simp)
  rw [h1, h2, e1]
/-- the tables' words of a throw in the class own -/
def ma_TW (own : String) (k icls istr ictor : Nat) (tx : String) : Prop := Cond.classLink own icls (ma_en k) ∈ maT ∧ Cond.instantiable (ma_en k) 6 ∈ maT ∧ Cond.initialized (ma_en k) ∈ maT ∧ Cond.stringRef own istr tx ∈ maT ∧ Bundle.fit (ma_en k) = true ∧ ∃ (ix : Nat) (by6 : ByteArray), (decode by6 0 = .ok (.aload_n 0, 1) ∧ decode by6 1 = .ok (.aload_n 1, 1) ∧ decode by6 2 = .ok (.invokespecial ix, 3) ∧ decode by6 5 = .ok (.return_, 1)) ∧ ∀ a ∈ ma_CA own ictor (ma_en k) ix by6, a ∈ maT ∨ a ∈ maH
set_option maxHeartbeats 1000000 in
theorem Go.thrown {sc : Nat × (Nat → Int32)} {rd : Bool} {d bc bs : Nat} {y : MD} {pc : Nat} {ls st : List AV} {h : AH} {Q : GO → AH → Prop} {k icls istr ictor : Nat} {tx : String} (hd0 : decode y.2.1 pc = .ok (.new icls, 3)) (hd3 : decode y.2.1 (pc + 3) = .ok (.dup, 1)) (hd4 : decode y.2.1 (pc + 4) = .ok (.ldc istr, 2)) (hd6 : decode y.2.1 (pc + 6) = .ok (.invokespecial ictor, 3)) (hd9 : decode y.2.1 (pc + 9) = .ok (.athrow, 1))
    (hw : ma_TW y.1.cls k icls istr ictor tx) (hout : (tableOf y.2.2.2.2).all (fun x => !covers x (pc + 9)) = true) (hd8 : 8 ≤ d) (h8 : st.length ≤ 3) (hQ : Q (.inr k) h) : Go sc true rd d (bc + 1) (bs + 6) y pc ls st h Q := by
  intro p l e R s m args below meth c H locs cells slots mc ms D aC A ad ad0 n0 L S hC hDy
  obtain ⟨hx, hb, hml, hr, hown, hts, hlocks, hnm, hex, hK, hKa, hNc, hfl, hmH⟩ := id hC
  obtain ⟨⟨r1, r2, r3, r4, r5, r6⟩, hHR, hSX, hS, hA, hEx, hL, hSt, hCl⟩ := id hDy
  obtain ⟨hl0, hHRs⟩ := hCl rfl
  subst hl0
  obtain ⟨w1, w2, w3, w4, w5, ix, by6, ⟨e0, e1, e2, e5⟩, w6⟩ := hw
  refine W.newc hx hb hown (hts _ w1) (hts _ w2) (hts _ w3) (g := F0 m pc L S) rfl hd0 (by omega) (by omega) (fun cC kC f1 f2 f3 f4 => ?_)
  refine W.eq (g2 := F0 m (pc + 3) L (.ref H.size :: S)) rfl ?_
  refine lv_dup hx hb hd3 rfl ?_
  obtain ⟨_, _, _, q, -, -, -, -, -, hev⟩ := Cond.stringRef_spec hown (hts _ w4)
  have hZ : vk_R y.1.cls istr tx q s := vk_R.of (hts _ w4) hev
  refine va_ldcS hx hb hown hZ hd4 ?_
  intro T hT X
  have hsum := ma_SR_sum hSt
  have hroom := lv_room (m := m) (pc := pc + 6) (ls := L) (rest := .ref q :: .ref H.size :: .ref H.size :: S) (st := .ref H.size :: S) (by
    rw [List.map_cons, List.sum_cons]
    have h1 : (Value.ref H.size).category = 1 := rfl
    omega)
  have htr : e.platform.stackTraces = false := by
    rw [X.admits.platform]
    show l.stackTraces = false
    unfold Launch.stackTraces
    rw [hfl]
    decide +kernel
  have hcell : T.heap[H.size]? = some (freshCell cC kC) := by rw [hT]; simp
  have hout' : ∀ z ∈ c.exceptionTable.toList, covers z (pc + 9) = false := by
    intro z hz
    rw [hex] at hz
    have h9 : (!covers z (pc + 9)) = true := List.all_eq_true.mp hout z hz
    cases hcv : covers z (pc + 9) with
    | true => rw [hcv] at h9; cases h9
    | false => rfl
  obtain ⟨U, u1, u2, u3, u4, u5, ce, u6, u7, u8⟩ := ma_ctor X hx htr (own := y.1.cls) (cls := ma_en k) (ic := ictor) hown w5 e0 e1 e2 e5 (fun a ha => (w6 a ha).elim (hts a) (hmH a)) (fun z hz => by cases hz) f1 f2 hcell hS.1 (msg := .ref q) rfl
    (g := F0 m (pc + 6) L (.ref q :: .ref H.size :: .ref H.size :: S)) rfl (hL.1.trans hml.symm) rfl rfl (rest := S) rfl (by rw [hb]; exact hd6) (by rw [hb]; exact hd9) hout' (by omega) (by omega) hlocks
  have hold : ∀ (z : Nat) (x : Cell), s.heap[z]? = some x → U.heap[z]? = some x := fun z x hz => ma_same0 u5 hz
  have hold2 : ∀ z : Nat, z < s.heap.size → U.heap[z]? = s.heap[z]? := fun z hz => by
    obtain ⟨x, hx9⟩ : ∃ x, s.heap[z]? = some x := ⟨_, Array.getElem?_eq_getElem hz⟩
    rw [hx9]; exact hold z x hx9
  refine ⟨U, u1, .threw H.size, u2, u3, u4, ⟨[], u5.mono (by omega) (by omega), fun z hz => (List.not_mem_nil hz).elim, fun _ => rfl⟩, ⟨u5.2.1, fun z hz _ => hold2 z hz⟩, .inr k, h, ad, hQ, ⟨H.size, rfl, ce, u6, by rw [u8]; rfl, by rw [u4.alike.findClass, u7]; exact f1⟩, ?_, hEx⟩
  obtain ⟨Ls, hm, hnd, hP, hD, h90, hcl⟩ := hHRs
  exact ⟨Ls, hm, hnd, hP.kept (fun j z hz => hold2 z.1 ((hP j z hz).lt)), hD, h90, hcl⟩
