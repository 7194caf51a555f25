theorem Go.mmax {sc : Nat × (Nat → Int32)} {cl rd : Bool} {d bc bs : Nat} {y : MD} {pc : Nat} {ls st : List AV} {h : AH} {Q : GO → AH → Prop} {idx : Nat} {x y' : Int32} (hd : decode y.2.1 pc = .ok (.invokestatic idx, 3)) (hw : Cond.methodLink y.1.cls idx Lib.Math.max.name ∈ maT ∧ Cond.static Lib.Math.max.name ∈ maT ∧ Cond.initialized "java/lang/Math" ∈ maT ∧ Cond.code Lib.Math.max.name Lib.Math.max.code 2 (some .int) ∈ maT) (h8 : st.length ≤ 4) (hd1 : 1 ≤ d) (kk : Go sc cl rd d bc bs y (pc + 3) ls (vI (if x < y' then y' else x) :: st) h Q) : Go sc cl rd d bc bs y pc ls (vI y' :: vI x :: st) h Q := by
  intro p l e R s m args below meth c H locs cells slots mc ms D aC A ad ad0 n0 L S hC hDy
  obtain ⟨hx, hb, hml, hr, hown, hts, hlocks, hnm, hex, hK, hKa, hNc, hfl, hmH⟩ := id hC
  obtain ⟨hRm, hHR, hSX, hS, hA, hEx, hL, hSt, hCl⟩ := id hDy
  obtain ⟨z1, S1, rfl, rfl, z2, S2, rfl, rfl, hSt⟩ := hSt
  obtain ⟨r1, r2, r3, r4, r5, r6⟩ := id hRm
  have hsum := ma_SR_sum hSt
  exact va_mmax hx hb (hml.trans hL.1.symm) hown (hts _ hw.1) (hts _ hw.2.1) (hts _ hw.2.2.1) (hts _ hw.2.2.2) (by omega) (by omega) (by omega) (by omega) hd (kk p l e R s m args below meth c H locs cells slots mc ms D aC A ad ad0 n0 L (.int (if x < y' then y' else x) :: S2) hC ⟨hRm, hHR, hSX, hS, hA, hEx, hL, ⟨_, _, rfl, rfl, hSt⟩, hCl⟩)

theorem Go.mmin {sc : Nat × (Nat → Int32)} {cl rd : Bool} {d bc bs : Nat} {y : MD} {pc : Nat} {ls st : List AV} {h : AH} {Q : GO → AH → Prop} {idx : Nat} {x y' : Int32} (hd : decode y.2.1 pc = .ok (.invokestatic idx, 3)) (hw : Cond.methodLink y.1.cls idx Lib.Math.min.name ∈ maT ∧ Cond.static Lib.Math.min.name ∈ maT ∧ Cond.initialized "java/lang/Math" ∈ maT ∧ Cond.code Lib.Math.min.name Lib.Math.min.code 2 (some .int) ∈ maT) (h8 : st.length ≤ 4) (hd1 : 1 ≤ d) (kk : Go sc cl rd d bc bs y (pc + 3) ls (vI (if y' < x then y' else x) :: st) h Q) : Go sc cl rd d bc bs y pc ls (vI y' :: vI x :: st) h Q := by
  intro p l e R s m args below meth c H locs cells slots mc ms D aC A ad ad0 n0 L S hC hDy
  obtain ⟨hx, hb, hml, hr, hown, hts, hlocks, hnm, hex, hK, hKa, hNc, hfl, hmH⟩ := id hC
  obtain ⟨hRm, hHR, hSX, hS, hA, hEx, hL, hSt, hCl⟩ := id hDy
  obtain ⟨z1, S1, rfl, rfl, z2, S2, rfl, rfl, hSt⟩ := hSt
  obtain ⟨r1, r2, r3, r4, r5, r6⟩ := id hRm
  have hsum := ma_SR_sum hSt
  exact va_mmin hx hb (hml.trans hL.1.symm) hown (hts _ hw.1) (hts _ hw.2.1) (hts _ hw.2.2.1) (hts _ hw.2.2.2) (by omega) (by omega) (by omega) (by omega) hd (kk p l e R s m args below meth c H locs cells slots mc ms D aC A ad ad0 n0 L (.int (if y' < x then y' else x) :: S2) hC ⟨hRm, hHR, hSX, hS, hA, hEx, hL, ⟨_, _, rfl, rfl, hSt⟩, hCl⟩)

/-- System.arraycopy from one int array to another -/
theorem Go.acopy {sc : Nat × (Nat → Int32)} {cl rd : Bool} {d bc bs : Nat} {y : MD} {pc : Nat} {ls st : List AV} {h : AH} {Q : GO → AH → Prop} {idx i0 i1 sp dp n : Nat} (hd : decode y.2.1 pc = .ok (.invokestatic idx, 3)) (hw : Cond.methodLink y.1.cls idx arraycopyName ∈ maT ∧ Cond.native arraycopyName ∈ maT ∧ Cond.static arraycopyName ∈ maT ∧ Cond.initialized "java/lang/System" ∈ maT) (hne : i0 ≠ i1) (h8 : st.length ≤ 4) (hd1 : 1 ≤ d) (hsp : sp < 65536) (hdp : dp < 65536) (hnn : n < 65536) (h4 : sp + n ≤ h.2.2.2.1 100 i0) (h5 : dp + n ≤ h.2.2.2.1 100 i1)
    (kk : Go sc false rd d bc bs y (pc + 3) ls st (fun k i j => if k = 100 ∧ i = i1 then va_cpy (h.1 100 i0) (h.1 100 i1) sp dp n j else h.1 k i j, h.2) Q) : Go sc cl rd d bc bs y pc ls (vI (nI n) :: vI (nI dp) :: vO 100 i1 :: vI (nI sp) :: vO 100 i0 :: st) h Q := by
  intro p l e R s m args below meth c H locs cells slots mc ms D aC A ad ad0 n0 L S hC hDy
  obtain ⟨hx, hb, hml, hr, hown, hts, hlocks, hnm, hex, hK, hKa, hNc, hfl, hmH⟩ := id hC
  obtain ⟨hRm, hHR, hSX, hS, hA, hEx, hL, hSt, hCl⟩ := id hDy
  obtain ⟨z1, S1, rfl, rfl, z2, S2, rfl, rfl, z3, S3, rfl, hv1, z4, S4, rfl, rfl, z5, S5, rfl, hv0, hSt⟩ := hSt
  obtain ⟨hi1, rfl⟩ := ma_ref (Or.inr (by omega)) hv1
  obtain ⟨hi0, rfl⟩ := ma_ref (Or.inr (by omega)) hv0
  obtain ⟨r1, r2, r3, r4, r5, r6⟩ := id hRm
  have hsum := ma_SR_sum hSt
  obtain ⟨Ls, hm, hnd, hP, hD, h90, hcl⟩ := id hHR
  obtain ⟨q0, hq0⟩ := ma_pos hm hi0
  obtain ⟨q1, hq1⟩ := ma_pos hm hi1
  have he0 := ma_ws_at (aC := aC) (ad := ad) (h := h) hq0
  have he1 := ma_ws_at (aC := aC) (ad := ad) (h := h) hq1
  rw [ma_E_arr (by omega), ma_ar_i (by omega) (by omega)] at he0 he1
  have hKt : va_K D maCl [(aC 100, .int)] s := ⟨hK.1, fun j q hq => by
    have hj : j < 1 := (List.getElem?_eq_some_iff.mp hq).1
    rw [show j = 0 by omega] at hq
    cases hq
    exact hKa _ _ rfl⟩
  have esp : (nI sp).toNatClampNeg = sp := nI_clamp (by omega)
  have edp : (nI dp).toNatClampNeg = dp := nI_clamp (by omega)
  have en : (nI n).toNatClampNeg = n := nI_clamp (by omega)
  have hset := ma_ws_set (aC := aC) (ad := ad) (h := h) (h' := (fun k i j => if k = 100 ∧ i = i1 then va_cpy (h.1 100 i0) (h.1 100 i1) sp dp n j else h.1 k i j, h.2)) (e := .inl (aC 100, h.2.2.2.1 100 i1, .inl (va_cpy (h.1 100 i0) (h.1 100 i1) sp dp n))) hnd hq1 ((ma_E_arr (by omega)).trans (by simp [ma_ar])) (by
    intro x hx
    have e1 : (fun j => if x.1 = 100 ∧ x.2 = i1 then va_cpy (h.1 100 i0) (h.1 100 i1) sp dp n j else h.1 x.1 x.2 j) = h.1 x.1 x.2 := by
      funext j
      rw [if_neg]
      rintro ⟨g1, g2⟩
      exact hx (Prod.ext g1 g2)
    have e2 : ∀ j, (if x.1 = 100 ∧ x.2 = i1 then va_cpy (h.1 100 i0) (h.1 100 i1) sp dp n j else h.1 x.1 x.2 j) = h.1 x.1 x.2 j := fun j => congrFun e1 j
    simp only [ma_E, ma_fs, ma_ar, e1, e2])
  have hcl1 : ma_cls (fun k i j => if k = 100 ∧ i = i1 then va_cpy (h.1 100 i0) (h.1 100 i1) sp dp n j else h.1 k i j, h.2) := by
    refine ⟨hcl.1, fun k i j hk => ⟨?_, (hcl.2 k i j hk).2⟩⟩
    show (if k = 100 ∧ i = i1 then _ else _) = _
    rw [if_neg]
    · exact (hcl.2 k i j hk).1
    · rintro ⟨rfl, rfl⟩
      have hk' : ma_n h 100 ≤ i := hk
      omega
  refine va_copyi (D := D) (f := h.1 100 i0) (g := h.1 100 i1) hx hb (hml.trans hL.1.symm) hown (hts _ hw.1) (hts _ hw.2.1) (hts _ hw.2.2.1) (hts _ hw.2.2.2) hKt hP hD hS q0 q1 0 0 he0 he1 rfl rfl rfl (nI_pos (by omega)) (nI_pos (by omega)) (nI_pos (by omega)) (by rw [esp, en]; exact h4) (by rw [edp, en]; exact h5) (fun i _ => rfl) (by omega) (by
    have : nativeFrameWords "java/lang/System" "arraycopy" 5 + 11 ≤ 56 := by decide +kernel
    omega) hd (fun H1 locs1 hP1 hD1 hS1 => ?_)
  rw [esp, edp, en] at hP1 hD1
  rw [hset] at hP1 hD1
  exact kk p l e R s m args below meth c H1 locs1 cells slots mc ms D aC A ad ad0 n0 L S5 hC ⟨hRm, ⟨Ls, hm, hnd, hP1, hD1, h90, hcl1⟩, hSX, hS1, hA, hEx, hL, hSt, fun h9 => nomatch h9⟩
