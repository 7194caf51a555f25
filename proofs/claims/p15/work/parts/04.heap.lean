theorem ma_ref {ad : Nat → Nat → Nat} {n : Nat → Nat} {k i : Nat} {x : Value} (hk : k < 90 ∨ 100 ≤ k) (hv : ma_RV ad n (vO k i) x) : i < n k ∧ x = .ref (ad k i) := by
  rcases hv with ⟨h1, -⟩ | ⟨h1, -⟩ | h1
  · dsimp only at h1; omega
  · dsimp only at h1; omega
  · exact h1
theorem ma_pos {n : Nat → Nat} {Ls : List (Nat × Nat)} {k i : Nat} (hm : ∀ x, x ∈ Ls ↔ x.2 < n x.1) (hi : i < n k) : ∃ q0 : Nat, Ls[q0]? = some (k, i) := List.getElem?_of_mem ((hm (k, i)).mpr hi)
theorem ma_ws_at {aC : Nat → ClassId} {ad : Nat → Nat → Nat} {h : AH} {Ls : List (Nat × Nat)} {k i q0 : Nat} (hq : Ls[q0]? = some (k, i)) : (ma_ws aC ad h Ls)[q0]? = some (ad k i, ma_E aC ad h (k, i)) := by
  rw [ma_ws, List.getElem?_map, hq]; rfl
theorem ma_E_obj {aC : Nat → ClassId} {ad : Nat → Nat → Nat} {h : AH} {k i : Nat} (hk : k < 90) : ma_E aC ad h (k, i) = .inr (k, ma_fs ad h k i) := by simp [ma_E, hk]
theorem ma_E_arr {aC : Nat → ClassId} {ad : Nat → Nat → Nat} {h : AH} {k i : Nat} (hk : 100 ≤ k) : ma_E aC ad h (k, i) = .inl (aC k, ma_ar ad h k i) := by
  have : ¬ k < 90 := by omega
  simp [ma_E, this]
theorem ma_ar_i {ad : Nat → Nat → Nat} {h : AH} {k i : Nat} (h1 : k ≠ 101) (h2 : k < 110) : ma_ar ad h k i = (h.2.2.2.1 k i, .inl (h.1 k i)) := by simp [ma_ar, h1, h2]
theorem ma_ar_l {ad : Nat → Nat → Nat} {h : AH} {i : Nat} : ma_ar ad h 101 i = (h.2.2.2.1 101 i, .inr (.inl (h.2.2.1 101 i))) := by simp [ma_ar]
theorem ma_ar_q {ad : Nat → Nat → Nat} {h : AH} {k i : Nat} (h1 : 110 ≤ k) : ma_ar ad h k i = (h.2.2.2.1 k i, .inr (.inr (.inr (.inr (fun j => (h.2.1 k i j).map (fun x => ad x.1 x.2)))))) := by
  have n1 : ¬ k = 101 := by omega
  have n2 : ¬ k < 110 := by omega
  simp [ma_ar, n1, n2]
theorem ma_fs_int {ad : Nat → Nat → Nat} {h : AH} {k i f : Nat} (hf : f < ma_nf k) (hk : ma_fk k f = false) : (ma_fs ad h k i)[f]? = some (.int (h.1 k i f)) := by
  simp [ma_fs, List.getElem?_map, List.getElem?_range hf, hk]
theorem ma_fs_ref {ad : Nat → Nat → Nat} {h : AH} {k i f : Nat} (hf : f < ma_nf k) (hk : ma_fk k f = true) : (ma_fs ad h k i)[f]? = some (ma_rf ad (h.2.1 k i f)) := by
  simp [ma_fs, List.getElem?_map, List.getElem?_range hf, hk]
theorem ma_up_row {α : Type} {f : Nat → Nat → Nat → α} {k i j : Nat} {v : α} {x : Nat × Nat} (hx : x ≠ (k, i)) : ma_up f k i j v x.1 x.2 = f x.1 x.2 := by
  funext q
  unfold ma_up
  rw [if_neg]
  rintro ⟨h1, h2, -⟩
  exact hx (Prod.ext h1 h2)
theorem ma_ws_set {aC : Nat → ClassId} {ad : Nat → Nat → Nat} {h h' : AH} {Ls : List (Nat × Nat)} {k i q0 : Nat} {e : va_E} (hnd : Ls.Nodup) (hq : Ls[q0]? = some (k, i)) (hE : ma_E aC ad h' (k, i) = e) (hO : ∀ x, x ≠ (k, i) → ma_E aC ad h' x = ma_E aC ad h x) : (ma_ws aC ad h Ls).set q0 (ad k i, e) = ma_ws aC ad h' Ls := by
  apply List.ext_getElem?
  intro j
  by_cases hj : j = q0
  · subst hj
    have hlt : j < (ma_ws aC ad h Ls).length := by
      have := (List.getElem?_eq_some_iff.mp hq).1
      simpa [ma_ws] using this
    rw [List.getElem?_set_self hlt, ma_ws_at hq, hE]
  · rw [List.getElem?_set_ne (Ne.symm hj)]
    unfold ma_ws
    rw [List.getElem?_map, List.getElem?_map]
    cases hx : Ls[j]? with
    | none => rfl
    | some x =>
      have hne : x ≠ (k, i) := by
        rintro rfl
        obtain ⟨a1, a2⟩ := List.getElem?_eq_some_iff.mp hx
        obtain ⟨b1, b2⟩ := List.getElem?_eq_some_iff.mp hq
        have hpw := List.pairwise_iff_getElem.mp hnd
        rcases Nat.lt_trichotomy j q0 with h1 | h1 | h1
        · exact hpw j q0 a1 b1 h1 (a2.trans b2.symm)
        · exact hj h1
        · exact hpw q0 j b1 a1 h1 (b2.trans a2.symm)
      simp [hO x hne]
theorem ma_E_upI {aC : Nat → ClassId} {ad : Nat → Nat → Nat} {h : AH} {k i j : Nat} {v : Int32} : ∀ x, x ≠ (k, i) → ma_E aC ad (ma_up h.1 k i j v, h.2) x = ma_E aC ad h x := by
  intro x hx
  have e1 : ma_up h.1 k i j v x.1 x.2 = h.1 x.1 x.2 := ma_up_row hx
  simp only [ma_E, ma_fs, ma_ar, e1]
theorem ma_E_upR {aC : Nat → ClassId} {ad : Nat → Nat → Nat} {h : AH} {k i j : Nat} {v : Option (Nat × Nat)} : ∀ x, x ≠ (k, i) → ma_E aC ad (h.1, ma_up h.2.1 k i j v, h.2.2) x = ma_E aC ad h x := by
  intro x hx
  have e1 : ma_up h.2.1 k i j v x.1 x.2 = h.2.1 x.1 x.2 := ma_up_row hx
  simp only [ma_E, ma_fs, ma_ar, e1]
theorem ma_E_upL {aC : Nat → ClassId} {ad : Nat → Nat → Nat} {h : AH} {k i j : Nat} {v : Int64} : ∀ x, x ≠ (k, i) → ma_E aC ad (h.1, h.2.1, ma_up h.2.2.1 k i j v, h.2.2.2) x = ma_E aC ad h x := by
  intro x hx
  have e1 : ma_up h.2.2.1 k i j v x.1 x.2 = h.2.2.1 x.1 x.2 := ma_up_row hx
  simp only [ma_E, ma_fs, ma_ar, e1]
theorem ma_fs_setI {ad : Nat → Nat → Nat} {h : AH} {k i f : Nat} {v : Int32} (hf : f < ma_nf k) (hk : ma_fk k f = false) : ma_fs ad (ma_up h.1 k i f v, h.2) k i = (ma_fs ad h k i).set f (.int v) := by
  apply List.ext_getElem?
  intro j
  by_cases hj : j = f
  · subst hj
    rw [ma_fs_int hf hk, List.getElem?_set_self (by simpa [ma_fs] using hf)]
    simp [ma_up]
  · rw [List.getElem?_set_ne (Ne.symm hj)]
    unfold ma_fs
    rw [List.getElem?_map, List.getElem?_map]
    have e1 : ma_up h.1 k i f v k i j = h.1 k i j := by simp [ma_up, hj]
    cases hx : (List.range (ma_nf k))[j]? with
    | none => rfl
    | some z =>
      have hz : z = j := by
        obtain ⟨a1, a2⟩ := List.getElem?_eq_some_iff.mp hx
        simpa using a2.symm
      subst hz
      simp [e1]
theorem ma_fs_setR {ad : Nat → Nat → Nat} {h : AH} {k i f : Nat} {v : Option (Nat × Nat)} (hf : f < ma_nf k) (hk : ma_fk k f = true) : ma_fs ad (h.1, ma_up h.2.1 k i f v, h.2.2) k i = (ma_fs ad h k i).set f (ma_rf ad v) := by
  apply List.ext_getElem?
  intro j
  by_cases hj : j = f
  · subst hj
    rw [ma_fs_ref hf hk, List.getElem?_set_self (by simpa [ma_fs] using hf)]
    simp [ma_up]
  · rw [List.getElem?_set_ne (Ne.symm hj)]
    unfold ma_fs
    rw [List.getElem?_map, List.getElem?_map]
    have e1 : ma_up h.2.1 k i f v k i j = h.2.1 k i j := by simp [ma_up, hj]
    cases hx : (List.range (ma_nf k))[j]? with
    | none => rfl
    | some z =>
      have hz : z = j := by
        obtain ⟨a1, a2⟩ := List.getElem?_eq_some_iff.mp hx
        simpa using a2.symm
      subst hz
      simp [e1]
theorem ma_fs_len {ad : Nat → Nat → Nat} {h : AH} {k i : Nat} : (ma_fs ad h k i).length = ma_nf k := by simp [ma_fs]
theorem ma_cls_upI {h : AH} {k i j : Nat} {v : Int32} (hz : ∀ a b q, ma_n h a ≤ b → h.1 a b q = 0 ∧ h.2.1 a b q = none ∧ h.2.2.1 a b q = 0) (hi : i < ma_n h k) : ∀ a b q, ma_n h a ≤ b → ma_up h.1 k i j v a b q = 0 ∧ h.2.1 a b q = none ∧ h.2.2.1 a b q = 0 := by
  intro a b q hb
  refine ⟨?_, (hz a b q hb).2⟩
  unfold ma_up
  rw [if_neg]
  · exact (hz a b q hb).1
  · rintro ⟨rfl, rfl, -⟩
    omega
theorem ma_cls_upL {h : AH} {k i j : Nat} {v : Int64} (hz : ∀ a b q, ma_n h a ≤ b → h.1 a b q = 0 ∧ h.2.1 a b q = none ∧ h.2.2.1 a b q = 0) (hi : i < ma_n h k) : ∀ a b q, ma_n h a ≤ b → h.1 a b q = 0 ∧ h.2.1 a b q = none ∧ ma_up h.2.2.1 k i j v a b q = 0 := by
  intro a b q hb
  refine ⟨(hz a b q hb).1, (hz a b q hb).2.1, ?_⟩
  unfold ma_up
  rw [if_neg]
  · exact (hz a b q hb).2.2
  · rintro ⟨rfl, rfl, -⟩
    omega
theorem ma_cls_upR {h : AH} {k i j c2 i2 : Nat} (hz : ma_cls h) (hi : i < ma_n h k) (hi2 : i2 < ma_n h c2) : ma_cls (h.1, ma_up h.2.1 k i j (some (c2, i2)), h.2.2) := by
  refine ⟨fun a b q r hb hr => ?_, fun a b q hb => ⟨(hz.2 a b q hb).1, ?_, (hz.2 a b q hb).2.2⟩⟩
  · dsimp only [ma_up] at hr
    split at hr
    · cases hr; exact hi2
    · exact hz.1 a b q r hb hr
  · show ma_up h.2.1 k i j (some (c2, i2)) a b q = none
    unfold ma_up
    rw [if_neg]
    · exact (hz.2 a b q hb).2.1
    · rintro ⟨rfl, rfl, -⟩
      have hb' : ma_n h a ≤ b := hb
      omega
/-- the tables' words of a field: it is read or written in the class own by the pool's place idx -/
def ma_FL (own : String) (k f idx : Nat) : Prop := ∃ (C : String) (T : u_T), maCl[k]? = some (C, T, ma_nf k) ∧ f < ma_nf k ∧ (∀ w ∈ u_ws C T (ma_nf k), w ∈ maT) ∧ Cond.fieldLink own idx (T f).1 (T f).2.1 (T f).2.2.1 ∈ maT ∧ (∀ j, j < ma_nf k → parseFieldDescriptor (T j).2.2.1 = some (ma_ft k j)) ∧ (∀ a, a < ma_nf k → ∀ b, b < ma_nf k → a ≠ b → (T a).2.1 ≠ (T b).2.1)
def ma_FW (y : MD) (k f idx : Nat) : Prop := ∃ (C : String) (T : u_T), maCl[k]? = some (C, T, ma_nf k) ∧ f < ma_nf k ∧ (∀ w ∈ u_ws C T (ma_nf k), w ∈ maT) ∧ Cond.fieldLink y.1.cls idx (T f).1 (T f).2.1 (T f).2.2.1 ∈ maT ∧ (∀ j, j < ma_nf k → parseFieldDescriptor (T j).2.2.1 = some (ma_ft k j)) ∧ (∀ a, a < ma_nf k → ∀ b, b < ma_nf k → a ≠ b → (T a).2.1 ≠ (T b).2.1) ∧ ((T f).2.2.2 = false ∨ ((T f).2.2.2 = true ∧ y.1.name = "<init>" ∧ (T f).1 = y.1.cls))

theorem Go.getI {sc : Nat × (Nat → Int32)} {cl rd : Bool} {d bc bs : Nat} {y : MD} {pc : Nat} {ls st : List AV} {h : AH} {Q : GO → AH → Prop} {k i f idx : Nat} (hd : decode y.2.1 pc = .ok (.getfield idx, 3)) (hf : ma_FL y.1.cls k f idx) (hk : k < 90) (hfk : ma_fk k f = false) (kk : Go sc cl rd d bc bs y (pc + 3) ls (vI (h.1 k i f) :: st) h Q) : Go sc cl rd d bc bs y pc ls (vO k i :: st) h Q := by
  intro p l e R s m args below meth c H locs cells slots mc ms D aC A ad ad0 n0 L S hC hDy
  obtain ⟨hx, hb, hml, hr, hown, hts, hlocks, hnm, hex, hK, hKa, hNc, hfl, hmH⟩ := id hC
  obtain ⟨hRm, hHR, hSX, hS, hA, hEx, hL, hSt, hCl⟩ := id hDy
  obtain ⟨z1, S1, rfl, hv, hSt⟩ := hSt
  obtain ⟨hi, rfl⟩ := ma_ref (Or.inl hk) hv
  obtain ⟨C, T, hc, hfn, hin, hlk, -, -⟩ := hf
  obtain ⟨Ls, hm, hnd, hP, hD, h90, hcl⟩ := id hHR
  obtain ⟨q0, hq0⟩ := ma_pos hm hi
  have he := ma_ws_at (aC := aC) (ad := ad) (h := h) hq0
  rw [ma_E_obj hk] at he
  exact va_get (D := D) (C := C) (T := T) hx hb hts hin hown hK hP q0 he hc f hfn (hts _ hlk) (fun _ h9 => h9) (ma_fs_int hfn hfk) hd (kk p l e R s m args below meth c H locs cells slots mc ms D aC A ad ad0 n0 L (.int (h.1 k i f) :: S1) hC ⟨hRm, hHR, hSX, hS, hA, hEx, hL, ⟨_, _, rfl, rfl, hSt⟩, hCl⟩)

theorem Go.getR {sc : Nat × (Nat → Int32)} {cl rd : Bool} {d bc bs : Nat} {y : MD} {pc : Nat} {ls st : List AV} {h : AH} {Q : GO → AH → Prop} {k i f idx : Nat} {r : Nat × Nat} (hd : decode y.2.1 pc = .ok (.getfield idx, 3)) (hf : ma_FL y.1.cls k f idx) (hk : k < 90) (hfk : ma_fk k f = true) (hr0 : h.2.1 k i f = some r) (kk : Go sc cl rd d bc bs y (pc + 3) ls (vO r.1 r.2 :: st) h Q) : Go sc cl rd d bc bs y pc ls (vO k i :: st) h Q := by
  intro p l e R s m args below meth c H locs cells slots mc ms D aC A ad ad0 n0 L S hC hDy
  obtain ⟨hx, hb, hml, hr, hown, hts, hlocks, hnm, hex, hK, hKa, hNc, hfl, hmH⟩ := id hC
  obtain ⟨hRm, hHR, hSX, hS, hA, hEx, hL, hSt, hCl⟩ := id hDy
  obtain ⟨z1, S1, rfl, hv, hSt⟩ := hSt
  obtain ⟨hi, rfl⟩ := ma_ref (Or.inl hk) hv
  obtain ⟨C, T, hc, hfn, hin, hlk, -, -⟩ := hf
  obtain ⟨Ls, hm, hnd, hP, hD, h90, hcl⟩ := id hHR
  obtain ⟨q0, hq0⟩ := ma_pos hm hi
  have he := ma_ws_at (aC := aC) (ad := ad) (h := h) hq0
  rw [ma_E_obj hk] at he
  have hz := ma_fs_ref (ad := ad) (h := h) (i := i) hfn hfk
  rw [hr0] at hz
  have hr2 := (hcl.1 _ _ _ _ hi hr0)
  exact va_get (D := D) (C := C) (T := T) hx hb hts hin hown hK hP q0 he hc f hfn (hts _ hlk) (fun _ h9 => h9) hz hd (kk p l e R s m args below meth c H locs cells slots mc ms D aC A ad ad0 n0 L (.ref (ad r.1 r.2) :: S1) hC ⟨hRm, hHR, hSX, hS, hA, hEx, hL, ⟨_, _, rfl, Or.inr (Or.inr ⟨hr2, rfl⟩), hSt⟩, hCl⟩)

theorem Go.putI {sc : Nat × (Nat → Int32)} {cl rd : Bool} {d bc bs : Nat} {y : MD} {pc : Nat} {ls st : List AV} {h : AH} {Q : GO → AH → Prop} {k i f idx : Nat} {x : Int32} (hd : decode y.2.1 pc = .ok (.putfield idx, 3)) (hf : ma_FW y k f idx) (hk : k < 90) (hfk : ma_fk k f = false) (hty : narrow (ma_ft k f) (.int x) = .int x ∧ fits (ma_ft k f) (.int x) = true) (kk : Go sc false rd d bc bs y (pc + 3) ls st (ma_up h.1 k i f x, h.2) Q) : Go sc cl rd d bc bs y pc ls (vI x :: vO k i :: st) h Q := by
  intro p l e R s m args below meth c H locs cells slots mc ms D aC A ad ad0 n0 L S hC hDy
  obtain ⟨hx, hb, hml, hr, hown, hts, hlocks, hnm, hex, hK, hKa, hNc, hfl, hmH⟩ := id hC
  obtain ⟨hRm, hHR, hSX, hS, hA, hEx, hL, hSt, hCl⟩ := id hDy
  obtain ⟨z1, S1, rfl, rfl, z2, S2, rfl, hv, hSt⟩ := hSt
  obtain ⟨hi, rfl⟩ := ma_ref (Or.inl hk) hv
  obtain ⟨C, T, hc, hfn, hin, hlk, htys, hnms, hfin⟩ := hf
  obtain ⟨Ls, hm, hnd, hP, hD, h90, hcl⟩ := id hHR
  obtain ⟨q0, hq0⟩ := ma_pos hm hi
  have he := ma_ws_at (aC := aC) (ad := ad) (h := h) hq0
  rw [ma_E_obj hk] at he
  have hset := ma_ws_set (aC := aC) (ad := ad) (h := h) (h' := (ma_up h.1 k i f x, h.2)) hnd hq0 ((ma_E_obj hk).trans (by rw [ma_fs_setI hfn hfk])) ma_E_upI
  have hcl1 : ma_cls (ma_up h.1 k i f x, h.2) := ⟨hcl.1, ma_cls_upI hcl.2 hi⟩
  rcases hfin with hfin | ⟨hfin, hini, hdecl⟩
  · refine va_put (D := D) (C := C) (T := T) hx hb hts hin (ma_ft k) htys hnms hown hK hP hD hS q0 he hc f hfn (hts _ hlk) (fun _ h9 => h9) hfin (htys f hfn) hty.1 hty.2 (by rw [ma_fs_len]; exact hfn) hd (fun H1 locs1 hP1 hD1 hS1 => ?_)
    rw [hset] at hP1 hD1
    exact kk p l e R s m args below meth c H1 locs1 cells slots mc ms D aC A ad ad0 n0 L S2 hC ⟨hRm, ⟨Ls, hm, hnd, hP1, hD1, h90, hcl1⟩, hSX, hS1, hA, hEx, hL, hSt, fun h9 => nomatch h9⟩
  · refine va_putF (D := D) (C := C) (T := T) hx hb hts hin (ma_ft k) htys hnms hown hK hP hD hS q0 he hc f hfn (hts _ hlk) (fun _ h9 => h9) hfin (hnm.trans hini) hdecl (htys f hfn) hty.1 hty.2 (by rw [ma_fs_len]; exact hfn) hd (fun H1 locs1 hP1 hD1 hS1 => ?_)
    rw [hset] at hP1 hD1
    exact kk p l e R s m args below meth c H1 locs1 cells slots mc ms D aC A ad ad0 n0 L S2 hC ⟨hRm, ⟨Ls, hm, hnd, hP1, hD1, h90, hcl1⟩, hSX, hS1, hA, hEx, hL, hSt, fun h9 => nomatch h9⟩

theorem Go.putR {sc : Nat × (Nat → Int32)} {cl rd : Bool} {d bc bs : Nat} {y : MD} {pc : Nat} {ls st : List AV} {h : AH} {Q : GO → AH → Prop} {k i f idx c2 i2 : Nat} (hd : decode y.2.1 pc = .ok (.putfield idx, 3)) (hf : ma_FW y k f idx) (hk : k < 90) (hc2 : c2 < 90 ∨ 100 ≤ c2) (hfk : ma_fk k f = true) (hty : ∀ a, narrow (ma_ft k f) (.ref a) = .ref a ∧ fits (ma_ft k f) (.ref a) = true) (kk : Go sc false rd d bc bs y (pc + 3) ls st (h.1, ma_up h.2.1 k i f (some (c2, i2)), h.2.2) Q) : Go sc cl rd d bc bs y pc ls (vO c2 i2 :: vO k i :: st) h Q := by
  intro p l e R s m args below meth c H locs cells slots mc ms D aC A ad ad0 n0 L S hC hDy
  obtain ⟨hx, hb, hml, hr, hown, hts, hlocks, hnm, hex, hK, hKa, hNc, hfl, hmH⟩ := id hC
  obtain ⟨hRm, hHR, hSX, hS, hA, hEx, hL, hSt, hCl⟩ := id hDy
  obtain ⟨z1, S1, rfl, hv1, z2, S2, rfl, hv, hSt⟩ := hSt
  obtain ⟨hi1, rfl⟩ := ma_ref hc2 hv1
  obtain ⟨hi, rfl⟩ := ma_ref (Or.inl hk) hv
  obtain ⟨C, T, hc, hfn, hin, hlk, htys, hnms, hfin⟩ := hf
  obtain ⟨Ls, hm, hnd, hP, hD, h90, hcl⟩ := id hHR
  obtain ⟨q0, hq0⟩ := ma_pos hm hi
  have he := ma_ws_at (aC := aC) (ad := ad) (h := h) hq0
  rw [ma_E_obj hk] at he
  have hset := ma_ws_set (aC := aC) (ad := ad) (h := h) (h' := (h.1, ma_up h.2.1 k i f (some (c2, i2)), h.2.2)) hnd hq0 ((ma_E_obj hk).trans (by rw [ma_fs_setR hfn hfk])) ma_E_upR
  have hcl1 : ma_cls (h.1, ma_up h.2.1 k i f (some (c2, i2)), h.2.2) := ma_cls_upR hcl hi hi1
  rcases hfin with hfin | ⟨hfin, hini, hdecl⟩
  · refine va_put (D := D) (C := C) (T := T) hx hb hts hin (ma_ft k) htys hnms hown hK hP hD hS q0 he hc f hfn (hts _ hlk) (fun _ h9 => h9) hfin (htys f hfn) (hty _).1 (hty _).2 (by rw [ma_fs_len]; exact hfn) hd (fun H1 locs1 hP1 hD1 hS1 => ?_)
    replace hP1 : va_P D maCl ((ma_ws aC ad h Ls).set q0 (ad k i, .inr (k, (ma_fs ad h k i).set f (ma_rf ad (some (c2, i2)))))) H1 := hP1
    replace hD1 : va_D A ((ma_ws aC ad h Ls).set q0 (ad k i, .inr (k, (ma_fs ad h k i).set f (ma_rf ad (some (c2, i2)))))) := hD1
    rw [hset] at hP1 hD1
    exact kk p l e R s m args below meth c H1 locs1 cells slots mc ms D aC A ad ad0 n0 L S2 hC ⟨hRm, ⟨Ls, hm, hnd, hP1, hD1, h90, hcl1⟩, hSX, hS1, hA, hEx, hL, hSt, fun h9 => nomatch h9⟩
  · refine va_putF (D := D) (C := C) (T := T) hx hb hts hin (ma_ft k) htys hnms hown hK hP hD hS q0 he hc f hfn (hts _ hlk) (fun _ h9 => h9) hfin (hnm.trans hini) hdecl (htys f hfn) (hty _).1 (hty _).2 (by rw [ma_fs_len]; exact hfn) hd (fun H1 locs1 hP1 hD1 hS1 => ?_)
    replace hP1 : va_P D maCl ((ma_ws aC ad h Ls).set q0 (ad k i, .inr (k, (ma_fs ad h k i).set f (ma_rf ad (some (c2, i2)))))) H1 := hP1
    replace hD1 : va_D A ((ma_ws aC ad h Ls).set q0 (ad k i, .inr (k, (ma_fs ad h k i).set f (ma_rf ad (some (c2, i2)))))) := hD1
    rw [hset] at hP1 hD1
    exact kk p l e R s m args below meth c H1 locs1 cells slots mc ms D aC A ad ad0 n0 L S2 hC ⟨hRm, ⟨Ls, hm, hnd, hP1, hD1, h90, hcl1⟩, hSX, hS1, hA, hEx, hL, hSt, fun h9 => nomatch h9⟩

theorem Go.iald {sc : Nat × (Nat → Int32)} {cl rd : Bool} {d bc bs : Nat} {y : MD} {pc : Nat} {ls st : List AV} {h : AH} {Q : GO → AH → Prop} {i jn : Nat} {j : Int32} (hd : decode y.2.1 pc = .ok (.iaload, 1)) (hj : j = nI jn) (hlt : jn < h.2.2.2.1 100 i) (hb31 : jn < 2 ^ 31) (kk : Go sc cl rd d bc bs y (pc + 1) ls (vI (h.1 100 i jn) :: st) h Q) : Go sc cl rd d bc bs y pc ls (vI j :: vO 100 i :: st) h Q := by
  intro p l e R s m args below meth c H locs cells slots mc ms D aC A ad ad0 n0 L S hC hDy
  obtain ⟨hx, hb, hml, hr, hown, hts, hlocks, hnm, hex, hK, hKa, hNc, hfl, hmH⟩ := id hC
  obtain ⟨hRm, hHR, hSX, hS, hA, hEx, hL, hSt, hCl⟩ := id hDy
  obtain ⟨z1, S1, rfl, rfl, z2, S2, rfl, hv, hSt⟩ := hSt
  obtain ⟨hi, rfl⟩ := ma_ref (Or.inr (by omega)) hv
  obtain ⟨Ls, hm, hnd, hP, hD, h90, hcl⟩ := id hHR
  obtain ⟨q0, hq0⟩ := ma_pos hm hi
  have he := ma_ws_at (aC := aC) (ad := ad) (h := h) hq0
  rw [ma_E_arr (by omega), ma_ar_i (by omega) (by omega)] at he
  have hKt : va_K D maCl [(aC 100, .int)] s := ⟨hK.1, fun j q hq => by
    have hj : j < 1 := (List.getElem?_eq_some_iff.mp hq).1
    rw [show j = 0 by omega] at hq
    cases hq
    exact hKa _ _ rfl⟩
  have hin : vp_in j (h.2.2.2.1 100 i) := by
    rw [hj, vp_in, nI_clamp hb31]
    rintro (q | q)
    · exact nI_pos hb31 q
    · omega
  have e9 : j.toNatClampNeg = jn := by rw [hj]; exact nI_clamp hb31
  have k9 := kk p l e R s m args below meth c H locs cells slots mc ms D aC A ad ad0 n0 L (.int (h.1 100 i jn) :: S2) hC ⟨hRm, hHR, hSX, hS, hA, hEx, hL, ⟨_, _, rfl, rfl, hSt⟩, hCl⟩
  rw [← e9] at k9
  exact va_iald (D := D) hx hb hKt hP q0 0 he rfl hin hd k9

theorem Go.zald {sc : Nat × (Nat → Int32)} {cl rd : Bool} {d bc bs : Nat} {y : MD} {pc : Nat} {ls st : List AV} {h : AH} {Q : GO → AH → Prop} {i jn : Nat} {j : Int32} (hd : decode y.2.1 pc = .ok (.baload, 1)) (hj : j = nI jn) (hlt : jn < h.2.2.2.1 102 i) (hb31 : jn < 2 ^ 31) (kk : Go sc cl rd d bc bs y (pc + 1) ls (vI (h.1 102 i jn) :: st) h Q) : Go sc cl rd d bc bs y pc ls (vI j :: vO 102 i :: st) h Q := by
  intro p l e R s m args below meth c H locs cells slots mc ms D aC A ad ad0 n0 L S hC hDy
  obtain ⟨hx, hb, hml, hr, hown, hts, hlocks, hnm, hex, hK, hKa, hNc, hfl, hmH⟩ := id hC
  obtain ⟨hRm, hHR, hSX, hS, hA, hEx, hL, hSt, hCl⟩ := id hDy
  obtain ⟨z1, S1, rfl, rfl, z2, S2, rfl, hv, hSt⟩ := hSt
  obtain ⟨hi, rfl⟩ := ma_ref (Or.inr (by omega)) hv
  obtain ⟨Ls, hm, hnd, hP, hD, h90, hcl⟩ := id hHR
  obtain ⟨q0, hq0⟩ := ma_pos hm hi
  have he := ma_ws_at (aC := aC) (ad := ad) (h := h) hq0
  rw [ma_E_arr (by omega), ma_ar_i (by omega) (by omega)] at he
  have hKt : va_K D maCl [(aC 102, .boolean)] s := ⟨hK.1, fun j q hq => by
    have hj : j < 1 := (List.getElem?_eq_some_iff.mp hq).1
    rw [show j = 0 by omega] at hq
    cases hq
    exact hKa _ _ rfl⟩
  have hin : vp_in j (h.2.2.2.1 102 i) := by
    rw [hj, vp_in, nI_clamp hb31]
    rintro (q | q)
    · exact nI_pos hb31 q
    · omega
  have e9 : j.toNatClampNeg = jn := by rw [hj]; exact nI_clamp hb31
  have k9 := kk p l e R s m args below meth c H locs cells slots mc ms D aC A ad ad0 n0 L (.int (h.1 102 i jn) :: S2) hC ⟨hRm, hHR, hSX, hS, hA, hEx, hL, ⟨_, _, rfl, rfl, hSt⟩, hCl⟩
  rw [← e9] at k9
  exact va_zald (D := D) hx hb hKt hP q0 0 he rfl hin hd k9

theorem Go.lald {sc : Nat × (Nat → Int32)} {cl rd : Bool} {d bc bs : Nat} {y : MD} {pc : Nat} {ls st : List AV} {h : AH} {Q : GO → AH → Prop} {i jn : Nat} {j : Int32} (hd : decode y.2.1 pc = .ok (.laload, 1)) (hj : j = nI jn) (hlt : jn < h.2.2.2.1 101 i) (hb31 : jn < 2 ^ 31) (kk : Go sc cl rd d bc bs y (pc + 1) ls (vL (h.2.2.1 101 i jn) :: st) h Q) : Go sc cl rd d bc bs y pc ls (vI j :: vO 101 i :: st) h Q := by
  intro p l e R s m args below meth c H locs cells slots mc ms D aC A ad ad0 n0 L S hC hDy
  obtain ⟨hx, hb, hml, hr, hown, hts, hlocks, hnm, hex, hK, hKa, hNc, hfl, hmH⟩ := id hC
  obtain ⟨hRm, hHR, hSX, hS, hA, hEx, hL, hSt, hCl⟩ := id hDy
  obtain ⟨z1, S1, rfl, rfl, z2, S2, rfl, hv, hSt⟩ := hSt
  obtain ⟨hi, rfl⟩ := ma_ref (Or.inr (by omega)) hv
  obtain ⟨Ls, hm, hnd, hP, hD, h90, hcl⟩ := id hHR
  obtain ⟨q0, hq0⟩ := ma_pos hm hi
  have he := ma_ws_at (aC := aC) (ad := ad) (h := h) hq0
  rw [ma_E_arr (by omega), ma_ar_l] at he
  have hKt : va_K D maCl [(aC 101, .long)] s := ⟨hK.1, fun j q hq => by
    have hj : j < 1 := (List.getElem?_eq_some_iff.mp hq).1
    rw [show j = 0 by omega] at hq
    cases hq
    exact hKa _ _ rfl⟩
  have hin : vp_in j (h.2.2.2.1 101 i) := by
    rw [hj, vp_in, nI_clamp hb31]
    rintro (q | q)
    · exact nI_pos hb31 q
    · omega
  have e9 : j.toNatClampNeg = jn := by rw [hj]; exact nI_clamp hb31
  have k9 := kk p l e R s m args below meth c H locs cells slots mc ms D aC A ad ad0 n0 L (.long (h.2.2.1 101 i jn) :: S2) hC ⟨hRm, hHR, hSX, hS, hA, hEx, hL, ⟨_, _, rfl, rfl, hSt⟩, hCl⟩
  rw [← e9] at k9
  exact va_lald (D := D) hx hb hKt hP q0 0 he rfl hin hd k9

theorem Go.iast {sc : Nat × (Nat → Int32)} {cl rd : Bool} {d bc bs : Nat} {y : MD} {pc : Nat} {ls st : List AV} {h : AH} {Q : GO → AH → Prop} {i jn : Nat} {j x : Int32} (hd : decode y.2.1 pc = .ok (.iastore, 1)) (hj : j = nI jn) (hlt : jn < h.2.2.2.1 100 i) (hb31 : jn < 2 ^ 31) (kk : Go sc false rd d bc bs y (pc + 1) ls st (ma_up h.1 100 i jn x, h.2) Q) : Go sc cl rd d bc bs y pc ls (vI x :: vI j :: vO 100 i :: st) h Q := by
  intro p l e R s m args below meth c H locs cells slots mc ms D aC A ad ad0 n0 L S hC hDy
  obtain ⟨hx, hb, hml, hr, hown, hts, hlocks, hnm, hex, hK, hKa, hNc, hfl, hmH⟩ := id hC
  obtain ⟨hRm, hHR, hSX, hS, hA, hEx, hL, hSt, hCl⟩ := id hDy
  obtain ⟨z1, S1, rfl, rfl, z2, S2, rfl, rfl, z3, S3, rfl, hv, hSt⟩ := hSt
  obtain ⟨hi, rfl⟩ := ma_ref (Or.inr (by omega)) hv
  obtain ⟨Ls, hm, hnd, hP, hD, h90, hcl⟩ := id hHR
  obtain ⟨q0, hq0⟩ := ma_pos hm hi
  have he := ma_ws_at (aC := aC) (ad := ad) (h := h) hq0
  rw [ma_E_arr (by omega), ma_ar_i (by omega) (by omega)] at he
  have hKt : va_K D maCl [(aC 100, .int)] s := ⟨hK.1, fun j q hq => by
    have hj : j < 1 := (List.getElem?_eq_some_iff.mp hq).1
    rw [show j = 0 by omega] at hq
    cases hq
    exact hKa _ _ rfl⟩
  have hin : vp_in j (h.2.2.2.1 100 i) := by
    rw [hj, vp_in, nI_clamp hb31]
    rintro (q | q)
    · exact nI_pos hb31 q
    · omega
  have e9 : j.toNatClampNeg = jn := by rw [hj]; exact nI_clamp hb31
  have hset := ma_ws_set (aC := aC) (ad := ad) (h := h) (h' := (ma_up h.1 100 i jn x, h.2)) (e := .inl (aC 100, h.2.2.2.1 100 i, .inl (upd (h.1 100 i) jn x))) hnd hq0 ((ma_E_arr (by omega)).trans (by
    have e1 : ma_up h.1 100 i jn x 100 i = upd (h.1 100 i) jn x := by funext q; simp [ma_up, upd]
    rw [ma_ar_i (by omega) (by omega)]; simp only [e1])) ma_E_upI
  have hcl1 : ma_cls (ma_up h.1 100 i jn x, h.2) := ⟨hcl.1, ma_cls_upI hcl.2 hi⟩
  refine va_iast (D := D) hx hb hKt hP hD hS q0 0 he rfl hin hd (fun H1 locs1 hP1 hD1 hS1 => ?_)
  rw [e9] at hP1 hD1
  rw [hset] at hP1 hD1
  exact kk p l e R s m args below meth c H1 locs1 cells slots mc ms D aC A ad ad0 n0 L S3 hC ⟨hRm, ⟨Ls, hm, hnd, hP1, hD1, h90, hcl1⟩, hSX, hS1, hA, hEx, hL, hSt, fun h9 => nomatch h9⟩

theorem Go.zast {sc : Nat × (Nat → Int32)} {cl rd : Bool} {d bc bs : Nat} {y : MD} {pc : Nat} {ls st : List AV} {h : AH} {Q : GO → AH → Prop} {i jn : Nat} {j x : Int32} (hd : decode y.2.1 pc = .ok (.bastore, 1)) (hj : j = nI jn) (hlt : jn < h.2.2.2.1 102 i) (hb31 : jn < 2 ^ 31) (hbit : x = 0 ∨ x = 1) (kk : Go sc false rd d bc bs y (pc + 1) ls st (ma_up h.1 102 i jn x, h.2) Q) : Go sc cl rd d bc bs y pc ls (vI x :: vI j :: vO 102 i :: st) h Q := by
  intro p l e R s m args below meth c H locs cells slots mc ms D aC A ad ad0 n0 L S hC hDy
  obtain ⟨hx, hb, hml, hr, hown, hts, hlocks, hnm, hex, hK, hKa, hNc, hfl, hmH⟩ := id hC
  obtain ⟨hRm, hHR, hSX, hS, hA, hEx, hL, hSt, hCl⟩ := id hDy
  obtain ⟨z1, S1, rfl, rfl, z2, S2, rfl, rfl, z3, S3, rfl, hv, hSt⟩ := hSt
  obtain ⟨hi, rfl⟩ := ma_ref (Or.inr (by omega)) hv
  obtain ⟨Ls, hm, hnd, hP, hD, h90, hcl⟩ := id hHR
  obtain ⟨q0, hq0⟩ := ma_pos hm hi
  have he := ma_ws_at (aC := aC) (ad := ad) (h := h) hq0
  rw [ma_E_arr (by omega), ma_ar_i (by omega) (by omega)] at he
  have hKt : va_K D maCl [(aC 102, .boolean)] s := ⟨hK.1, fun j q hq => by
    have hj : j < 1 := (List.getElem?_eq_some_iff.mp hq).1
    rw [show j = 0 by omega] at hq
    cases hq
    exact hKa _ _ rfl⟩
  have hin : vp_in j (h.2.2.2.1 102 i) := by
    rw [hj, vp_in, nI_clamp hb31]
    rintro (q | q)
    · exact nI_pos hb31 q
    · omega
  have e9 : j.toNatClampNeg = jn := by rw [hj]; exact nI_clamp hb31
  have hset := ma_ws_set (aC := aC) (ad := ad) (h := h) (h' := (ma_up h.1 102 i jn x, h.2)) (e := .inl (aC 102, h.2.2.2.1 102 i, .inl (upd (h.1 102 i) jn x))) hnd hq0 ((ma_E_arr (by omega)).trans (by
    have e1 : ma_up h.1 102 i jn x 102 i = upd (h.1 102 i) jn x := by funext q; simp [ma_up, upd]
    rw [ma_ar_i (by omega) (by omega)]; simp only [e1])) ma_E_upI
  have hcl1 : ma_cls (ma_up h.1 102 i jn x, h.2) := ⟨hcl.1, ma_cls_upI hcl.2 hi⟩
  refine va_zast (D := D) hx hb hKt hP hD hS q0 0 he rfl hin hd (fun H1 locs1 hP1 hD1 hS1 => ?_)
  have hnar : vp_nar .boolean x = x := by rcases hbit with rfl | rfl <;> rfl
  rw [e9, hnar] at hP1 hD1
  rw [hset] at hP1 hD1
  exact kk p l e R s m args below meth c H1 locs1 cells slots mc ms D aC A ad ad0 n0 L S3 hC ⟨hRm, ⟨Ls, hm, hnd, hP1, hD1, h90, hcl1⟩, hSX, hS1, hA, hEx, hL, hSt, fun h9 => nomatch h9⟩

theorem Go.last {sc : Nat × (Nat → Int32)} {cl rd : Bool} {d bc bs : Nat} {y : MD} {pc : Nat} {ls st : List AV} {h : AH} {Q : GO → AH → Prop} {i jn : Nat} {j : Int32} {x : Int64} (hd : decode y.2.1 pc = .ok (.lastore, 1)) (hj : j = nI jn) (hlt : jn < h.2.2.2.1 101 i) (hb31 : jn < 2 ^ 31) (kk : Go sc false rd d bc bs y (pc + 1) ls st (h.1, h.2.1, ma_up h.2.2.1 101 i jn x, h.2.2.2) Q) : Go sc cl rd d bc bs y pc ls (vL x :: vI j :: vO 101 i :: st) h Q := by
  intro p l e R s m args below meth c H locs cells slots mc ms D aC A ad ad0 n0 L S hC hDy
  obtain ⟨hx, hb, hml, hr, hown, hts, hlocks, hnm, hex, hK, hKa, hNc, hfl, hmH⟩ := id hC
  obtain ⟨hRm, hHR, hSX, hS, hA, hEx, hL, hSt, hCl⟩ := id hDy
  obtain ⟨z1, S1, rfl, rfl, z2, S2, rfl, rfl, z3, S3, rfl, hv, hSt⟩ := hSt
  obtain ⟨hi, rfl⟩ := ma_ref (Or.inr (by omega)) hv
  obtain ⟨Ls, hm, hnd, hP, hD, h90, hcl⟩ := id hHR
  obtain ⟨q0, hq0⟩ := ma_pos hm hi
  have he := ma_ws_at (aC := aC) (ad := ad) (h := h) hq0
  rw [ma_E_arr (by omega), ma_ar_l] at he
  have hKt : va_K D maCl [(aC 101, .long)] s := ⟨hK.1, fun j q hq => by
    have hj : j < 1 := (List.getElem?_eq_some_iff.mp hq).1
    rw [show j = 0 by omega] at hq
    cases hq
    exact hKa _ _ rfl⟩
  have hin : vp_in j (h.2.2.2.1 101 i) := by
    rw [hj, vp_in, nI_clamp hb31]
    rintro (q | q)
    · exact nI_pos hb31 q
    · omega
  have e9 : j.toNatClampNeg = jn := by rw [hj]; exact nI_clamp hb31
  have hset := ma_ws_set (aC := aC) (ad := ad) (h := h) (h' := (h.1, h.2.1, ma_up h.2.2.1 101 i jn x, h.2.2.2)) (e := .inl (aC 101, h.2.2.2.1 101 i, .inr (.inl (vp_updL (h.2.2.1 101 i) jn x)))) hnd hq0 ((ma_E_arr (by omega)).trans (by
    have e1 : ma_up h.2.2.1 101 i jn x 101 i = vp_updL (h.2.2.1 101 i) jn x := by funext q; simp [ma_up, vp_updL]
    rw [ma_ar_l]; simp only [e1])) ma_E_upL
  have hcl1 : ma_cls (h.1, h.2.1, ma_up h.2.2.1 101 i jn x, h.2.2.2) := ⟨hcl.1, ma_cls_upL hcl.2 hi⟩
  refine va_last (D := D) hx hb hKt hP hD hS q0 0 he rfl hin hd (fun H1 locs1 hP1 hD1 hS1 => ?_)
  rw [e9] at hP1 hD1
  rw [hset] at hP1 hD1
  exact kk p l e R s m args below meth c H1 locs1 cells slots mc ms D aC A ad ad0 n0 L S3 hC ⟨hRm, ⟨Ls, hm, hnd, hP1, hD1, h90, hcl1⟩, hSX, hS1, hA, hEx, hL, hSt, fun h9 => nomatch h9⟩

theorem Go.aald {sc : Nat × (Nat → Int32)} {cl rd : Bool} {d bc bs : Nat} {y : MD} {pc : Nat} {ls st : List AV} {h : AH} {Q : GO → AH → Prop} {a i jn : Nat} {C : String} {j : Int32} {r : Nat × Nat} (hd : decode y.2.1 pc = .ok (.aaload, 1)) (ha : 110 ≤ a) (hty : ma_ty a = some (.object C)) (hj : j = nI jn) (hlt : jn < h.2.2.2.1 a i) (hb31 : jn < 2 ^ 31) (hr0 : h.2.1 a i jn = some r) (kk : Go sc cl rd d bc bs y (pc + 1) ls (vO r.1 r.2 :: st) h Q) : Go sc cl rd d bc bs y pc ls (vI j :: vO a i :: st) h Q := by
  intro p l e R s m args below meth c H locs cells slots mc ms D aC A ad ad0 n0 L S hC hDy
  obtain ⟨hx, hb, hml, hr, hown, hts, hlocks, hnm, hex, hK, hKa, hNc, hfl, hmH⟩ := id hC
  obtain ⟨hRm, hHR, hSX, hS, hA, hEx, hL, hSt, hCl⟩ := id hDy
  obtain ⟨z1, S1, rfl, rfl, z2, S2, rfl, hv, hSt⟩ := hSt
  obtain ⟨hi, rfl⟩ := ma_ref (Or.inr (by omega)) hv
  obtain ⟨Ls, hm, hnd, hP, hD, h90, hcl⟩ := id hHR
  obtain ⟨q0, hq0⟩ := ma_pos hm hi
  have he := ma_ws_at (aC := aC) (ad := ad) (h := h) hq0
  rw [ma_E_arr (by omega), ma_ar_q ha] at he
  have hKt : va_K D maCl [(aC a, .object C)] s := ⟨hK.1, fun j q hq => by
    have hj : j < 1 := (List.getElem?_eq_some_iff.mp hq).1
    rw [show j = 0 by omega] at hq
    cases hq
    exact hKa _ _ hty⟩
  have hin : vp_in j (h.2.2.2.1 a i) := by
    rw [hj, vp_in, nI_clamp hb31]
    rintro (q | q)
    · exact nI_pos hb31 q
    · omega
  have e9 : j.toNatClampNeg = jn := by rw [hj]; exact nI_clamp hb31
  have hr2 := (hcl.1 _ _ _ _ hi hr0)
  refine va_aldq (D := D) hx hb hKt hP q0 0 he rfl hin hd ?_
  rw [e9, hr0]
  exact kk p l e R s m args below meth c H locs cells slots mc ms D aC A ad ad0 n0 L (.ref (ad r.1 r.2) :: S2) hC ⟨hRm, hHR, hSX, hS, hA, hEx, hL, ⟨_, _, rfl, Or.inr (Or.inr ⟨hr2, rfl⟩), hSt⟩, hCl⟩

theorem Go.aast {sc : Nat × (Nat → Int32)} {cl rd : Bool} {d bc bs : Nat} {y : MD} {pc : Nat} {ls st : List AV} {h : AH} {Q : GO → AH → Prop} {a i jn c2 i2 : Nat} {q2 : vw_C} {j : Int32} (hd : decode y.2.1 pc = .ok (.aastore, 1)) (ha : 110 ≤ a) (hc2 : c2 < 90) (hq2 : maCl[c2]? = some q2) (hty : ma_ty a = some (.object q2.1)) (hj : j = nI jn) (hlt : jn < h.2.2.2.1 a i) (hb31 : jn < 2 ^ 31) (kk : Go sc false rd d bc bs y (pc + 1) ls st (h.1, ma_up h.2.1 a i jn (some (c2, i2)), h.2.2) Q) : Go sc cl rd d bc bs y pc ls (vO c2 i2 :: vI j :: vO a i :: st) h Q := by
  intro p l e R s m args below meth c H locs cells slots mc ms D aC A ad ad0 n0 L S hC hDy
  obtain ⟨hx, hb, hml, hr, hown, hts, hlocks, hnm, hex, hK, hKa, hNc, hfl, hmH⟩ := id hC
  obtain ⟨hRm, hHR, hSX, hS, hA, hEx, hL, hSt, hCl⟩ := id hDy
  obtain ⟨z0, S0, rfl, hv0, z1, S1, rfl, rfl, z2, S2, rfl, hv, hSt⟩ := hSt
  obtain ⟨hi0, rfl⟩ := ma_ref (Or.inl hc2) hv0
  obtain ⟨hi, rfl⟩ := ma_ref (Or.inr (by omega)) hv
  obtain ⟨Ls, hm, hnd, hP, hD, h90, hcl⟩ := id hHR
  obtain ⟨q0, hq0⟩ := ma_pos hm hi
  have he := ma_ws_at (aC := aC) (ad := ad) (h := h) hq0
  rw [ma_E_arr (by omega), ma_ar_q ha] at he
  have hKt : va_K D maCl [(aC a, .object q2.1)] s := ⟨hK.1, fun j q hq => by
    have hj : j < 1 := (List.getElem?_eq_some_iff.mp hq).1
    rw [show j = 0 by omega] at hq
    cases hq
    exact hKa _ _ hty⟩
  have hin : vp_in j (h.2.2.2.1 a i) := by
    rw [hj, vp_in, nI_clamp hb31]
    rintro (q | q)
    · exact nI_pos hb31 q
    · omega
  have e9 : j.toNatClampNeg = jn := by rw [hj]; exact nI_clamp hb31
  obtain ⟨q3, hq3⟩ := ma_pos hm hi0
  have he3 := ma_ws_at (aC := aC) (ad := ad) (h := h) hq3
  rw [ma_E_obj hc2] at he3
  have hset := ma_ws_set (aC := aC) (ad := ad) (h := h) (h' := (h.1, ma_up h.2.1 a i jn (some (c2, i2)), h.2.2)) (e := .inl (aC a, h.2.2.2.1 a i, .inr (.inr (.inr (.inr (va_up (fun j => (h.2.1 a i j).map (fun x => ad x.1 x.2)) jn (some (ad c2 i2)))))))) hnd hq0 ((ma_E_arr (by omega)).trans (by
    have e1 : (fun j => (ma_up h.2.1 a i jn (some (c2, i2)) a i j).map (fun x => ad x.1 x.2)) = va_up (fun j => (h.2.1 a i j).map (fun x => ad x.1 x.2)) jn (some (ad c2 i2)) := by
      funext q
      by_cases hq : q = jn
      · subst hq; simp [ma_up, va_up]
      · simp [ma_up, va_up, hq]
    rw [ma_ar_q ha]; simp only [e1])) ma_E_upR
  have hcl1 : ma_cls (h.1, ma_up h.2.1 a i jn (some (c2, i2)), h.2.2) := ma_cls_upR hcl hi hi0
  refine va_astq (D := D) hx hb hKt hP hD hS q0 0 q3 c2 he rfl he3 hq2 hin hd (fun H1 locs1 hP1 hD1 hS1 => ?_)
  rw [e9] at hP1 hD1
  rw [hset] at hP1 hD1
  exact kk p l e R s m args below meth c H1 locs1 cells slots mc ms D aC A ad ad0 n0 L S2 hC ⟨hRm, ⟨Ls, hm, hnd, hP1, hD1, h90, hcl1⟩, hSX, hS1, hA, hEx, hL, hSt, fun h9 => nomatch h9⟩

theorem Go.alen {sc : Nat × (Nat → Int32)} {cl rd : Bool} {d bc bs : Nat} {y : MD} {pc : Nat} {ls st : List AV} {h : AH} {Q : GO → AH → Prop} {a i : Nat} {ty : FieldType} (hd : decode y.2.1 pc = .ok (.arraylength, 1)) (ha : 100 ≤ a) (hty : ma_ty a = some ty) (kk : Go sc cl rd d bc bs y (pc + 1) ls (vI (Int32.ofNat (h.2.2.2.1 a i)) :: st) h Q) : Go sc cl rd d bc bs y pc ls (vO a i :: st) h Q := by
  intro p l e R s m args below meth c H locs cells slots mc ms D aC A ad ad0 n0 L S hC hDy
  obtain ⟨hx, hb, hml, hr, hown, hts, hlocks, hnm, hex, hK, hKa, hNc, hfl, hmH⟩ := id hC
  obtain ⟨hRm, hHR, hSX, hS, hA, hEx, hL, hSt, hCl⟩ := id hDy
  obtain ⟨z2, S2, rfl, hv, hSt⟩ := hSt
  obtain ⟨hi, rfl⟩ := ma_ref (Or.inr (by omega)) hv
  obtain ⟨Ls, hm, hnd, hP, hD, h90, hcl⟩ := id hHR
  obtain ⟨q0, hq0⟩ := ma_pos hm hi
  have he := ma_ws_at (aC := aC) (ad := ad) (h := h) hq0
  rw [ma_E_arr (by omega)] at he
  have hKt : va_K D maCl [(aC a, ty)] s := ⟨hK.1, fun j q hq => by
    have hj : j < 1 := (List.getElem?_eq_some_iff.mp hq).1
    rw [show j = 0 by omega] at hq
    cases hq
    exact hKa _ _ hty⟩
  exact va_alen (D := D) hx hb hKt hP q0 0 he rfl rfl hd (kk p l e R s m args below meth c H locs cells slots mc ms D aC A ad ad0 n0 L (.int (Int32.ofNat (h.2.2.2.1 a i)) :: S2) hC ⟨hRm, hHR, hSX, hS, hA, hEx, hL, ⟨_, _, rfl, rfl, hSt⟩, hCl⟩)

theorem Go.sald {sc : Nat × (Nat → Int32)} {cl rd : Bool} {d bc bs : Nat} {y : MD} {pc : Nat} {ls st : List AV} {h : AH} {Q : GO → AH → Prop} {jn : Nat} {j : Int32} (hd : decode y.2.1 pc = .ok (.iaload, 1)) (hj : j = nI jn) (hlt : jn < sc.1) (hb31 : jn < 2 ^ 31) (kk : Go sc cl rd d bc bs y (pc + 1) ls (vI (sc.2 jn) :: st) h Q) : Go sc cl rd d bc bs y pc ls (vI j :: vO 99 0 :: st) h Q := by
  intro p l e R s m args below meth c H locs cells slots mc ms D aC A ad ad0 n0 L S hC hDy
  obtain ⟨hx, hb, hml, hr, hown, hts, hlocks, hnm, hex, hK, hKa, hNc, hfl, hmH⟩ := id hC
  obtain ⟨hRm, hHR, hSX, hS, hA, hEx, hL, hSt, hCl⟩ := id hDy
  obtain ⟨z1, S1, rfl, rfl, z2, S2, rfl, hv, hSt⟩ := hSt
  have hz2 : z2 = .ref (ad 99 0) := by
    rcases hv with ⟨h1, -⟩ | ⟨-, h1⟩ | ⟨-, h1⟩
    · cases h1
    · exact h1
    · exact h1
  subst hz2
  have hin : vp_in j sc.1 := by
    rw [hj, vp_in, nI_clamp hb31]
    rintro (q | q)
    · exact nI_pos hb31 q
    · omega
  have e9 : j.toNatClampNeg = jn := by rw [hj]; exact nI_clamp hb31
  have k9 := kk p l e R s m args below meth c H locs cells slots mc ms D aC A ad ad0 n0 L (.int (sc.2 jn) :: S2) hC ⟨hRm, hHR, hSX, hS, hA, hEx, hL, ⟨_, _, rfl, rfl, hSt⟩, hCl⟩
  rw [← e9] at k9
  exact va_sld hx hb hSX.1 hSX.2.2.1 hSX.2.1 hS hin hd k9

theorem Go.slen {sc : Nat × (Nat → Int32)} {cl rd : Bool} {d bc bs : Nat} {y : MD} {pc : Nat} {ls st : List AV} {h : AH} {Q : GO → AH → Prop} (hd : decode y.2.1 pc = .ok (.arraylength, 1)) (kk : Go sc cl rd d bc bs y (pc + 1) ls (vI (Int32.ofNat sc.1) :: st) h Q) : Go sc cl rd d bc bs y pc ls (vO 99 0 :: st) h Q := by
  intro p l e R s m args below meth c H locs cells slots mc ms D aC A ad ad0 n0 L S hC hDy
  obtain ⟨hx, hb, hml, hr, hown, hts, hlocks, hnm, hex, hK, hKa, hNc, hfl, hmH⟩ := id hC
  obtain ⟨hRm, hHR, hSX, hS, hA, hEx, hL, hSt, hCl⟩ := id hDy
  obtain ⟨z2, S2, rfl, hv, hSt⟩ := hSt
  have hz2 : z2 = .ref (ad 99 0) := by
    rcases hv with ⟨h1, -⟩ | ⟨-, h1⟩ | ⟨-, h1⟩
    · cases h1
    · exact h1
    · exact h1
  subst hz2
  exact va_slen hx hb hSX.1 hSX.2.2.1 hSX.2.1 hS hd (kk p l e R s m args below meth c H locs cells slots mc ms D aC A ad ad0 n0 L (.int (Int32.ofNat sc.1) :: S2) hC ⟨hRm, hHR, hSX, hS, hA, hEx, hL, ⟨_, _, rfl, rfl, hSt⟩, hCl⟩)

def ma_al (h : AH) (k : Nat) : AH := (h.1, h.2.1, h.2.2.1, h.2.2.2.1, va_up (ma_n h) k (ma_n h k + 1))
def ma_aa (h : AH) (a N : Nat) : AH := (h.1, h.2.1, h.2.2.1, ma_u2 h.2.2.2.1 a (ma_n h a) N, va_up (ma_n h) a (ma_n h a + 1))
def ma_NW (own : String) (k idx : Nat) : Prop := ∃ (C : String) (T : u_T), maCl[k]? = some (C, T, ma_nf k) ∧ (∀ w ∈ u_ws C T (ma_nf k), w ∈ maT) ∧ Cond.classLink own idx C ∈ maT ∧ Cond.instantiable C (ma_nf k) ∈ maT ∧ Cond.initialized C ∈ maT ∧ (∀ j, j < ma_nf k → parseFieldDescriptor (T j).2.2.1 = some (ma_ft k j)) ∧ (∀ j, j < ma_nf k → defaultValue (ma_ft k j) = if ma_fk k j = true then .null else .int 0)
theorem ma_Ex_new {ad : Nat → Nat → Nat} {n : Nat → Nat} {k q : Nat} (hk : k < 90 ∨ 100 ≤ k) : ma_Ex ad n (ma_u2 ad k (n k) q) (va_up n k (n k + 1)) := by
  refine ⟨fun a i hi => ⟨?_, ?_⟩, ?_⟩
  · unfold ma_u2
    rw [if_neg]
    rintro ⟨rfl, rfl⟩
    omega
  · unfold va_up
    split
    · rename_i h; subst h; omega
    · exact hi
  · unfold ma_u2
    rw [if_neg]
    rintro ⟨h1, -⟩
    omega
theorem ma_ws_new {aC : Nat → ClassId} {ad : Nat → Nat → Nat} {h h' : AH} {Ls : List (Nat × Nat)} {k q : Nat} (hm : ∀ x, x ∈ Ls ↔ x.2 < ma_n h x.1) (hcl : ma_cls h) (e1 : h'.1 = h.1) (e2 : h'.2.1 = h.2.1) (e3 : h'.2.2.1 = h.2.2.1) (e4 : ∀ a i, i < ma_n h a → h'.2.2.2.1 a i = h.2.2.2.1 a i) : ma_ws aC (ma_u2 ad k (ma_n h k) q) h' Ls = ma_ws aC ad h Ls := by
  unfold ma_ws
  refine List.map_congr_left (fun x hx => ?_)
  have hx2 := (hm x).mp hx
  have a0 : ∀ r : Nat × Nat, r.2 < ma_n h r.1 → ma_u2 ad k (ma_n h k) q r.1 r.2 = ad r.1 r.2 := by
    intro r hr
    unfold ma_u2
    rw [if_neg]
    rintro ⟨h1, h2⟩
    rw [h1] at hr
    omega
  have a1 : ∀ j, ma_rf (ma_u2 ad k (ma_n h k) q) (h.2.1 x.1 x.2 j) = ma_rf ad (h.2.1 x.1 x.2 j) := by
    intro j
    cases hr : h.2.1 x.1 x.2 j with
    | none => rfl
    | some r => simp only [ma_rf]; rw [a0 r (hcl.1 _ _ _ _ hx2 hr)]
  have a2 : (fun j => (h.2.1 x.1 x.2 j).map (fun z => ma_u2 ad k (ma_n h k) q z.1 z.2)) = (fun j => (h.2.1 x.1 x.2 j).map (fun z => ad z.1 z.2)) := by
    funext j
    cases hr : h.2.1 x.1 x.2 j with
    | none => rfl
    | some r => simp only [Option.map_some]; rw [a0 r (hcl.1 _ _ _ _ hx2 hr)]
  rw [a0 x hx2]
  simp only [ma_E, ma_fs, ma_ar, e1, e2, e3, e4 x.1 x.2 hx2, a1, a2]
theorem ma_HR_new {D : va_G} {aC : Nat → ClassId} {A : Nat → Prop} {ad : Nat → Nat → Nat} {h h' : AH} {H1 : Heap} {Ls : List (Nat × Nat)} {k q : Nat} {e : va_E} (hk : k < 90 ∨ 100 ≤ k) (hm : ∀ x, x ∈ Ls ↔ x.2 < ma_n h x.1) (hnd : Ls.Nodup) (h90 : ∀ k, 90 ≤ k → k < 100 → ma_n h k = 0) (hcl : ma_cls h) (e1 : h'.1 = h.1) (e2 : h'.2.1 = h.2.1) (e3 : h'.2.2.1 = h.2.2.1) (e4 : ∀ a i, i < ma_n h a → h'.2.2.2.1 a i = h.2.2.2.1 a i) (e5 : ma_n h' = va_up (ma_n h) k (ma_n h k + 1))
    (hE : ma_E aC (ma_u2 ad k (ma_n h k) q) h' (k, ma_n h k) = e) (hP : va_P D maCl (ma_ws aC ad h Ls ++ [(q, e)]) H1) (hD : va_D A (ma_ws aC ad h Ls ++ [(q, e)])) : ma_HR D aC A (ma_u2 ad k (ma_n h k) q) h' H1 := by
  have hw : ma_ws aC (ma_u2 ad k (ma_n h k) q) h' (Ls ++ [(k, ma_n h k)]) = ma_ws aC ad h Ls ++ [(q, e)] := by
    have q1 := ma_ws_new (aC := aC) (ad := ad) (k := k) (q := q) hm hcl e1 e2 e3 e4
    unfold ma_ws at q1 ⊢
    rw [List.map_append, q1, List.map_singleton, hE]
    have : ma_u2 ad k (ma_n h k) q k (ma_n h k) = q := by simp [ma_u2]
    rw [this]
  refine ⟨Ls ++ [(k, ma_n h k)], fun x => ?_, ?_, by rw [hw]; exact hP, by rw [hw]; exact hD, fun a ha hb => ?_, fun a i j r hi hr => ?_, fun a i j hi => ?_⟩
  · rw [e5, List.mem_append, hm x, List.mem_singleton]
    unfold va_up
    constructor
    · rintro (hx | rfl)
      · split
        · rename_i h9; rw [h9] at hx; omega
        · exact hx
      · simp
    · intro hx
      split at hx
      · rename_i h9
        by_cases h8 : x.2 = ma_n h k
        · exact Or.inr (Prod.ext h9 h8)
        · exact Or.inl (by rw [h9]; omega)
      · exact Or.inl hx
  · rw [List.nodup_append]
    refine ⟨hnd, by simp, fun x hx z hz => ?_⟩
    rw [List.mem_singleton] at hz
    subst hz
    rintro rfl
    have := (hm _).mp hx
    dsimp only at this
    omega
  · rw [e5]
    unfold va_up
    rw [if_neg (by omega)]
    exact h90 a ha hb
  · rw [e2] at hr
    rw [e5] at hi ⊢
    have hi2 : i < ma_n h a := by
      rcases Nat.lt_or_ge i (ma_n h a) with q9 | q9
      · exact q9
      · rw [(hcl.2 a i j q9).2.1] at hr; cases hr
    have := hcl.1 a i j r hi2 hr
    unfold va_up
    split
    · rename_i h9; rw [h9] at this; omega
    · exact this
  · rw [e1, e2, e3]
    refine hcl.2 a i j ?_
    rw [e5] at hi
    unfold va_up at hi
    split at hi
    · rename_i h9; rw [h9]; omega
    · exact hi

theorem Go.new {sc : Nat × (Nat → Int32)} {cl rd : Bool} {d bc bs : Nat} {y : MD} {pc : Nat} {ls st : List AV} {h : AH} {Q : GO → AH → Prop} {k idx : Nat} (hd : decode y.2.1 pc = .ok (.new idx, 3)) (hw : ma_NW y.1.cls k idx) (hk : k < 90) (kk : Go sc false rd d bc bs y (pc + 3) ls (vO k (ma_n h k) :: st) (ma_al h k) Q) : Go sc cl rd d (bc + 1) (bs + ma_nf k) y pc ls st h Q := by
  intro p l e R s m args below meth c H locs cells slots mc ms D aC A ad ad0 n0 L S hC hDy
  obtain ⟨hx, hb, hml, hr, hown, hts, hlocks, hnm, hex, hK, hKa, hNc, hfl, hmH⟩ := id hC
  obtain ⟨hRm, hHR, hSX, hS, hA, hEx, hL, hSt, hCl⟩ := id hDy
  obtain ⟨C, T, hc, hin, hlk, hins, hini, htys, hdf⟩ := hw
  obtain ⟨Ls, hm, hnd, hP, hD, h90, hcl⟩ := id hHR
  obtain ⟨r1, r2, r3, r4, r5, r6⟩ := hRm
  have hfs : ∀ j, j < ma_nf k → defaultValue (ma_ft k j) = vp_V (ma_fs ad h k (ma_n h k)) j := by
    intro j hj
    rw [hdf j hj]
    have hz := hcl.2 k (ma_n h k) j (Nat.le_refl _)
    cases hfk : ma_fk k j with
    | true => simp [vp_V, ma_fs_ref hj hfk, hz.2.1, ma_rf]
    | false => simp [vp_V, ma_fs_int hj hfk, hz.1]
  refine va_new (D := D) (C := C) (T := T) (fs := ma_fs ad h k (ma_n h k)) hx hb hts hin (ma_ft k) htys hown (hts _ hlk) (hts _ hins) (hts _ hini) hK hP hD hS hA hc hfs (by omega) (by omega) hd (fun q H1 hP1 hD1 hS1 => ?_)
  have hE9 : ma_E aC (ma_u2 ad k (ma_n h k) q) (ma_al h k) (k, ma_n h k) = .inr (k, ma_fs ad h k (ma_n h k)) := by
    rw [ma_E_obj hk]
    have hz : ∀ j, h.2.1 k (ma_n h k) j = none := fun j => (hcl.2 k (ma_n h k) j (Nat.le_refl _)).2.1
    simp [ma_fs, ma_al, hz, ma_rf]
  have hHR1 : ma_HR D aC A (ma_u2 ad k (ma_n h k) q) (ma_al h k) H1 := ma_HR_new (Or.inl hk) hm hnd h90 hcl rfl rfl rfl (fun _ _ _ => rfl) rfl hE9 hP1 hD1
  have hX9 : ma_Ex ad (ma_n h) (ma_u2 ad k (ma_n h k) q) (ma_n (ma_al h k)) := ma_Ex_new (Or.inl hk)
  have hSX9 : ma_SX sc A (ma_u2 ad k (ma_n h k) q) s := by unfold ma_SX; rw [hX9.2]; exact hSX
  exact kk p l e R s m args below meth c H1 locs (cells + 1) (slots + ma_nf k) mc ms D aC A (ma_u2 ad k (ma_n h k) q) ad0 n0 L (.ref q :: S) hC ⟨⟨r1, r2, by omega, by omega, r5, r6⟩, hHR1, hSX9, hS1, hA, ma_Ex_tr hEx hX9, ma_LR_ext hX9 hL, ⟨_, _, rfl, Or.inr (Or.inr ⟨by show ma_n h k < va_up (ma_n h) k (ma_n h k + 1) k; simp [va_up], by simp [ma_u2]⟩), ma_SR_ext hX9 hSt⟩, fun h9 => nomatch h9⟩

theorem Go.newi {sc : Nat × (Nat → Int32)} {cl rd : Bool} {d bc bs : Nat} {y : MD} {pc : Nat} {ls st : List AV} {h : AH} {Q : GO → AH → Prop} {N : Nat} {x : Int32} (hd : decode y.2.1 pc = .ok (.newarray .int, 2)) (hw : Cond.arrayClass .int ∈ maT) (hN : x = nI N) (hs : N < 65536) (kk : Go sc false rd d bc bs y (pc + 2) ls (vO 100 (ma_n h 100) :: st) (ma_aa h 100 N) Q) : Go sc cl rd d (bc + 1) (bs + N) y pc ls (vI x :: st) h Q := by
  intro p l e R s m args below meth c H locs cells slots mc ms D aC A ad ad0 n0 L S hC hDy
  obtain ⟨hx, hb, hml, hr, hown, hts, hlocks, hnm, hex, hK, hKa, hNc, hfl, hmH⟩ := id hC
  obtain ⟨hRm, hHR, hSX, hS, hA, hEx, hL, hSt, hCl⟩ := id hDy
  obtain ⟨z1, S1, rfl, rfl, hSt⟩ := hSt
  obtain ⟨Ls, hm, hnd, hP, hD, h90, hcl⟩ := id hHR
  obtain ⟨r1, r2, r3, r4, r5, r6⟩ := hRm
  subst hN
  have hc9 : (nI N).toNatClampNeg = N := nI_clamp (by omega)
  refine va_newa (D := D) (atype := .int) (ty := .int) (a0 := (N, .inl (fun _ => 0))) hx hb (hts _ hw) rfl hK hP hD hS hA (fun cA => by first | rfl | simp [vp_cell, defaultValue]) (nI_pos (by omega)) hc9 (by simp only [componentBytes]; omega) (by omega) (by omega) hd (fun q cA H1 hK1 hP1 hD1 hS1 => ?_)
  have hcA : cA = aC 100 := by
    have e1 : s.vm.findClass ("[" ++ (.int : FieldType).toString) = some cA := (hK1.2 0 (cA, .int) rfl).2
    have e2 : s.vm.findClass ("[" ++ (.int : FieldType).toString) = some (aC 100) := (hKa 100 .int rfl).2
    exact Option.some.inj (e1.symm.trans e2)
  subst hcA
  have hE9 : ma_E aC (ma_u2 ad 100 (ma_n h 100) q) (ma_aa h 100 N) (100, ma_n h 100) = .inl (aC 100, N, .inl (fun _ => 0)) := by
    rw [ma_E_arr (by omega)]
    have hz : h.1 100 (ma_n h 100) = fun _ => 0 := by funext j; exact (hcl.2 100 (ma_n h 100) j (Nat.le_refl _)).1
    simp [ma_ar, ma_aa, ma_u2, hz]
  have hHR1 : ma_HR D aC A (ma_u2 ad 100 (ma_n h 100) q) (ma_aa h 100 N) H1 := ma_HR_new (Or.inr (by omega)) hm hnd h90 hcl rfl rfl rfl (fun a i hi => by
    show ma_u2 _ _ _ _ a i = _
    unfold ma_u2
    rw [if_neg]
    rintro ⟨rfl, rfl⟩
    omega) rfl hE9 hP1 hD1
  have hX9 : ma_Ex ad (ma_n h) (ma_u2 ad 100 (ma_n h 100) q) (ma_n (ma_aa h 100 N)) := ma_Ex_new (Or.inr (by omega))
  have hSX9 : ma_SX sc A (ma_u2 ad 100 (ma_n h 100) q) s := by unfold ma_SX; rw [hX9.2]; exact hSX
  exact kk p l e R s m args below meth c H1 locs (cells + 1) (slots + N) mc ms D aC A (ma_u2 ad 100 (ma_n h 100) q) ad0 n0 L (.ref q :: S1) hC ⟨⟨r1, r2, by omega, by omega, r5, r6⟩, hHR1, hSX9, hS1, hA, ma_Ex_tr hEx hX9, ma_LR_ext hX9 hL, ⟨_, _, rfl, Or.inr (Or.inr ⟨by show ma_n h 100 < va_up (ma_n h) 100 (ma_n h 100 + 1) 100; simp [va_up], by simp [ma_u2]⟩), ma_SR_ext hX9 hSt⟩, fun h9 => nomatch h9⟩

theorem Go.newz {sc : Nat × (Nat → Int32)} {cl rd : Bool} {d bc bs : Nat} {y : MD} {pc : Nat} {ls st : List AV} {h : AH} {Q : GO → AH → Prop} {N : Nat} {x : Int32} (hd : decode y.2.1 pc = .ok (.newarray .boolean, 2)) (hw : Cond.arrayClass .boolean ∈ maT) (hN : x = nI N) (hs : N < 65536) (kk : Go sc false rd d bc bs y (pc + 2) ls (vO 102 (ma_n h 102) :: st) (ma_aa h 102 N) Q) : Go sc cl rd d (bc + 1) (bs + N) y pc ls (vI x :: st) h Q := by
  intro p l e R s m args below meth c H locs cells slots mc ms D aC A ad ad0 n0 L S hC hDy
  obtain ⟨hx, hb, hml, hr, hown, hts, hlocks, hnm, hex, hK, hKa, hNc, hfl, hmH⟩ := id hC
  obtain ⟨hRm, hHR, hSX, hS, hA, hEx, hL, hSt, hCl⟩ := id hDy
  obtain ⟨z1, S1, rfl, rfl, hSt⟩ := hSt
  obtain ⟨Ls, hm, hnd, hP, hD, h90, hcl⟩ := id hHR
  obtain ⟨r1, r2, r3, r4, r5, r6⟩ := hRm
  subst hN
  have hc9 : (nI N).toNatClampNeg = N := nI_clamp (by omega)
  refine va_newa (D := D) (atype := .boolean) (ty := .boolean) (a0 := (N, .inl (fun _ => 0))) hx hb (hts _ hw) rfl hK hP hD hS hA (fun cA => by first | rfl | simp [vp_cell, defaultValue]) (nI_pos (by omega)) hc9 (by simp only [componentBytes]; omega) (by omega) (by omega) hd (fun q cA H1 hK1 hP1 hD1 hS1 => ?_)
  have hcA : cA = aC 102 := by
    have e1 : s.vm.findClass ("[" ++ (.boolean : FieldType).toString) = some cA := (hK1.2 0 (cA, .boolean) rfl).2
    have e2 : s.vm.findClass ("[" ++ (.boolean : FieldType).toString) = some (aC 102) := (hKa 102 .boolean rfl).2
    exact Option.some.inj (e1.symm.trans e2)
  subst hcA
  have hE9 : ma_E aC (ma_u2 ad 102 (ma_n h 102) q) (ma_aa h 102 N) (102, ma_n h 102) = .inl (aC 102, N, .inl (fun _ => 0)) := by
    rw [ma_E_arr (by omega)]
    have hz : h.1 102 (ma_n h 102) = fun _ => 0 := by funext j; exact (hcl.2 102 (ma_n h 102) j (Nat.le_refl _)).1
    simp [ma_ar, ma_aa, ma_u2, hz]
  have hHR1 : ma_HR D aC A (ma_u2 ad 102 (ma_n h 102) q) (ma_aa h 102 N) H1 := ma_HR_new (Or.inr (by omega)) hm hnd h90 hcl rfl rfl rfl (fun a i hi => by
    show ma_u2 _ _ _ _ a i = _
    unfold ma_u2
    rw [if_neg]
    rintro ⟨rfl, rfl⟩
    omega) rfl hE9 hP1 hD1
  have hX9 : ma_Ex ad (ma_n h) (ma_u2 ad 102 (ma_n h 102) q) (ma_n (ma_aa h 102 N)) := ma_Ex_new (Or.inr (by omega))
  have hSX9 : ma_SX sc A (ma_u2 ad 102 (ma_n h 102) q) s := by unfold ma_SX; rw [hX9.2]; exact hSX
  exact kk p l e R s m args below meth c H1 locs (cells + 1) (slots + N) mc ms D aC A (ma_u2 ad 102 (ma_n h 102) q) ad0 n0 L (.ref q :: S1) hC ⟨⟨r1, r2, by omega, by omega, r5, r6⟩, hHR1, hSX9, hS1, hA, ma_Ex_tr hEx hX9, ma_LR_ext hX9 hL, ⟨_, _, rfl, Or.inr (Or.inr ⟨by show ma_n h 102 < va_up (ma_n h) 102 (ma_n h 102 + 1) 102; simp [va_up], by simp [ma_u2]⟩), ma_SR_ext hX9 hSt⟩, fun h9 => nomatch h9⟩

theorem Go.newl {sc : Nat × (Nat → Int32)} {cl rd : Bool} {d bc bs : Nat} {y : MD} {pc : Nat} {ls st : List AV} {h : AH} {Q : GO → AH → Prop} {N : Nat} {x : Int32} (hd : decode y.2.1 pc = .ok (.newarray .long, 2)) (hw : Cond.arrayClass .long ∈ maT) (hN : x = nI N) (hs : N < 65536) (kk : Go sc false rd d bc bs y (pc + 2) ls (vO 101 (ma_n h 101) :: st) (ma_aa h 101 N) Q) : Go sc cl rd d (bc + 1) (bs + N) y pc ls (vI x :: st) h Q := by
  intro p l e R s m args below meth c H locs cells slots mc ms D aC A ad ad0 n0 L S hC hDy
  obtain ⟨hx, hb, hml, hr, hown, hts, hlocks, hnm, hex, hK, hKa, hNc, hfl, hmH⟩ := id hC
  obtain ⟨hRm, hHR, hSX, hS, hA, hEx, hL, hSt, hCl⟩ := id hDy
  obtain ⟨z1, S1, rfl, rfl, hSt⟩ := hSt
  obtain ⟨Ls, hm, hnd, hP, hD, h90, hcl⟩ := id hHR
  obtain ⟨r1, r2, r3, r4, r5, r6⟩ := hRm
  subst hN
  have hc9 : (nI N).toNatClampNeg = N := nI_clamp (by omega)
  refine va_newa (D := D) (atype := .long) (ty := .long) (a0 := (N, .inr (.inl (fun _ => 0)))) hx hb (hts _ hw) rfl hK hP hD hS hA (fun cA => by first | rfl | simp [vp_cell, defaultValue]) (nI_pos (by omega)) hc9 (by simp only [componentBytes]; omega) (by omega) (by omega) hd (fun q cA H1 hK1 hP1 hD1 hS1 => ?_)
  have hcA : cA = aC 101 := by
    have e1 : s.vm.findClass ("[" ++ (.long : FieldType).toString) = some cA := (hK1.2 0 (cA, .long) rfl).2
    have e2 : s.vm.findClass ("[" ++ (.long : FieldType).toString) = some (aC 101) := (hKa 101 .long rfl).2
    exact Option.some.inj (e1.symm.trans e2)
  subst hcA
  have hE9 : ma_E aC (ma_u2 ad 101 (ma_n h 101) q) (ma_aa h 101 N) (101, ma_n h 101) = .inl (aC 101, N, .inr (.inl (fun _ => 0))) := by
    rw [ma_E_arr (by omega)]
    have hz : h.2.2.1 101 (ma_n h 101) = fun _ => 0 := by funext j; exact (hcl.2 101 (ma_n h 101) j (Nat.le_refl _)).2.2
    simp [ma_ar, ma_aa, ma_u2, hz]
  have hHR1 : ma_HR D aC A (ma_u2 ad 101 (ma_n h 101) q) (ma_aa h 101 N) H1 := ma_HR_new (Or.inr (by omega)) hm hnd h90 hcl rfl rfl rfl (fun a i hi => by
    show ma_u2 _ _ _ _ a i = _
    unfold ma_u2
    rw [if_neg]
    rintro ⟨rfl, rfl⟩
    omega) rfl hE9 hP1 hD1
  have hX9 : ma_Ex ad (ma_n h) (ma_u2 ad 101 (ma_n h 101) q) (ma_n (ma_aa h 101 N)) := ma_Ex_new (Or.inr (by omega))
  have hSX9 : ma_SX sc A (ma_u2 ad 101 (ma_n h 101) q) s := by unfold ma_SX; rw [hX9.2]; exact hSX
  exact kk p l e R s m args below meth c H1 locs (cells + 1) (slots + N) mc ms D aC A (ma_u2 ad 101 (ma_n h 101) q) ad0 n0 L (.ref q :: S1) hC ⟨⟨r1, r2, by omega, by omega, r5, r6⟩, hHR1, hSX9, hS1, hA, ma_Ex_tr hEx hX9, ma_LR_ext hX9 hL, ⟨_, _, rfl, Or.inr (Or.inr ⟨by show ma_n h 101 < va_up (ma_n h) 101 (ma_n h 101 + 1) 101; simp [va_up], by simp [ma_u2]⟩), ma_SR_ext hX9 hSt⟩, fun h9 => nomatch h9⟩

theorem Go.newq {sc : Nat × (Nat → Int32)} {cl rd : Bool} {d bc bs : Nat} {y : MD} {pc : Nat} {ls st : List AV} {h : AH} {Q : GO → AH → Prop} {a idx N : Nat} {C : String} {x : Int32} (hd : decode y.2.1 pc = .ok (.anewarray idx, 3)) (ha : 110 ≤ a) (hty : ma_ty a = some (.object C)) (hlk : Cond.classLink y.1.cls idx C ∈ maT) (hov : Cond.arrayOver (.object C) ∈ maT) (hN : x = nI N) (hs : N < 65536) (kk : Go sc false rd d bc bs y (pc + 3) ls (vO a (ma_n h a) :: st) (ma_aa h a N) Q) : Go sc cl rd d (bc + 1) (bs + N) y pc ls (vI x :: st) h Q := by
  intro p l e R s m args below meth c H locs cells slots mc ms D aC A ad ad0 n0 L S hC hDy
  obtain ⟨hx, hb, hml, hr, hown, hts, hlocks, hnm, hex, hK, hKa, hNc, hfl, hmH⟩ := id hC
  obtain ⟨hRm, hHR, hSX, hS, hA, hEx, hL, hSt, hCl⟩ := id hDy
  obtain ⟨z1, S1, rfl, rfl, hSt⟩ := hSt
  obtain ⟨Ls, hm, hnd, hP, hD, h90, hcl⟩ := id hHR
  obtain ⟨r1, r2, r3, r4, r5, r6⟩ := hRm
  subst hN
  have hc9 : (nI N).toNatClampNeg = N := nI_clamp (by omega)
  have n1 : ¬ a = 100 := by omega
  have n2 : ¬ a = 101 := by omega
  refine va_newq (D := D) (C := C) hx hb hown (hts _ hlk) (va_AO.of (hts _ hov)) hK hP hD hS hA (nI_pos (by omega)) hc9 (by omega) (by omega) (by omega) hd (fun q cA H1 hK1 hP1 hD1 hS1 => ?_)
  have hcA : cA = aC a := by
    obtain ⟨_, _, _, _, _, e1⟩ := (hK1.2 0 (cA, .object C) rfl).2
    obtain ⟨_, _, _, _, _, e2⟩ := (hKa a (.object C) hty).2
    exact Option.some.inj (e1.symm.trans e2)
  subst hcA
  have hE9 : ma_E aC (ma_u2 ad a (ma_n h a) q) (ma_aa h a N) (a, ma_n h a) = .inl (aC a, N, .inr (.inr (.inr (.inr (fun _ => none))))) := by
    rw [ma_E_arr (by omega)]
    have hz : ∀ j, h.2.1 a (ma_n h a) j = none := fun j => (hcl.2 a (ma_n h a) j (Nat.le_refl _)).2.1
    have n1 : ¬ a = 101 := by omega
    have n2 : ¬ a < 110 := by omega
    simp [ma_ar, ma_aa, ma_u2, hz, n1, n2]
  have hHR1 : ma_HR D aC A (ma_u2 ad a (ma_n h a) q) (ma_aa h a N) H1 := ma_HR_new (Or.inr (by omega)) hm hnd h90 hcl rfl rfl rfl (fun b i hi => by
    show ma_u2 _ _ _ _ b i = _
    unfold ma_u2
    rw [if_neg]
    rintro ⟨rfl, rfl⟩
    omega) rfl hE9 hP1 hD1
  have hX9 : ma_Ex ad (ma_n h) (ma_u2 ad a (ma_n h a) q) (ma_n (ma_aa h a N)) := ma_Ex_new (Or.inr (by omega))
  have hSX9 : ma_SX sc A (ma_u2 ad a (ma_n h a) q) s := by unfold ma_SX; rw [hX9.2]; exact hSX
  exact kk p l e R s m args below meth c H1 locs (cells + 1) (slots + N) mc ms D aC A (ma_u2 ad a (ma_n h a) q) ad0 n0 L (.ref q :: S1) hC ⟨⟨r1, r2, by omega, by omega, r5, r6⟩, hHR1, hSX9, hS1, hA, ma_Ex_tr hEx hX9, ma_LR_ext hX9 hL, ⟨_, _, rfl, Or.inr (Or.inr ⟨by show ma_n h a < va_up (ma_n h) a (ma_n h a + 1) a; simp [va_up], by simp [ma_u2]⟩), ma_SR_ext hX9 hSt⟩, fun h9 => nomatch h9⟩

theorem Go.iret {sc : Nat × (Nat → Int32)} {cl rd : Bool} {d bc bs : Nat} {y : MD} {pc : Nat} {ls : List AV} {h : AH} {Q : GO → AH → Prop} {v : Int32} {ty : FieldType} (hd : decode y.2.1 pc = .ok (.ireturn, 1)) (hty : y.2.2.2.1 = some ty) (hn : narrow ty (.int v) = .int v) (hrd : rd = true → cl = true) (hQ : Q (.inl (some (vI v))) h) : Go sc cl rd d bc bs y pc ls [vI v] h Q := by
  intro p l e R s m args below meth c H locs cells slots mc ms D aC A ad ad0 n0 L S hC hDy
  obtain ⟨hx, hb, hml, hr, hown, hts, hlocks, hnm, hex, hK, hKa, hNc, hfl, hmH⟩ := id hC
  obtain ⟨hRm, hHR, hSX, hS, hA, hEx, hL, hSt, hCl⟩ := id hDy
  obtain ⟨z1, S1, rfl, rfl, rfl⟩ := hSt
  obtain ⟨r1, r2, r3, r4, r5, r6⟩ := hRm
  refine ma_W_mono ?_ (W.zret hx hb (hr.trans hty) hn (Qc := fun _ _ o t => o = .returned (some (.int v)) ∧ t.heap = H) (free := fun q => ∃ z ∈ locs, z.base = q) (fun t ht _ => ⟨rfl, ht⟩) (fun q hq => ⟨q, hq, rfl⟩) hd)
  rintro t ⟨o, h1, h2, ⟨rfl, h3⟩, L9, ⟨-, h5, h6⟩, h7⟩
  exact ⟨_, h1, h2, h5, ⟨L9, h6.mono (by omega) (by omega), fun q hq => by obtain ⟨z, z1, z2⟩ := h7 q hq; rw [← z2]; exact hS.2.2 z z1, fun h9 => by
    cases L9 with
    | nil => rfl
    | cons q r =>
      obtain ⟨z, z1, -⟩ := h7 q List.mem_cons_self
      rw [(hCl (hrd h9)).1] at z1
      cases z1⟩, hS.F h3, .inl (some (vI v)), h, ad, hQ, ⟨_, rfl, rfl⟩, by rw [h3]; exact hHR, hEx⟩

theorem Go.vret {sc : Nat × (Nat → Int32)} {cl rd : Bool} {d bc bs : Nat} {y : MD} {pc : Nat} {ls : List AV} {h : AH} {Q : GO → AH → Prop} (hd : decode y.2.1 pc = .ok (.return_, 1)) (hty : y.2.2.2.1 = none) (hrd : rd = true → cl = true) (hQ : Q (.inl none) h) : Go sc cl rd d bc bs y pc ls [] h Q := by
  intro p l e R s m args below meth c H locs cells slots mc ms D aC A ad ad0 n0 L S hC hDy
  obtain ⟨hx, hb, hml, hr, hown, hts, hlocks, hnm, hex, hK, hKa, hNc, hfl, hmH⟩ := id hC
  obtain ⟨hRm, hHR, hSX, hS, hA, hEx, hL, hSt, hCl⟩ := id hDy
  cases hSt
  obtain ⟨r1, r2, r3, r4, r5, r6⟩ := hRm
  refine ma_W_mono ?_ (W.vret hx hb (hr.trans hty) (Qc := fun _ _ o t => o = .returned none ∧ t.heap = H) (free := fun q => ∃ z ∈ locs, z.base = q) (fun t ht _ => ⟨rfl, ht⟩) (fun q hq => ⟨q, hq, rfl⟩) hd)
  rintro t ⟨o, h1, h2, ⟨rfl, h3⟩, L9, ⟨-, h5, h6⟩, h7⟩
  exact ⟨_, h1, h2, h5, ⟨L9, h6.mono (by omega) (by omega), fun q hq => by obtain ⟨z, z1, z2⟩ := h7 q hq; rw [← z2]; exact hS.2.2 z z1, fun h9 => by
    cases L9 with
    | nil => rfl
    | cons q r =>
      obtain ⟨z, z1, -⟩ := h7 q List.mem_cons_self
      rw [(hCl (hrd h9)).1] at z1
      cases z1⟩, hS.F h3, .inl (none), h, ad, hQ, rfl, by rw [h3]; exact hHR, hEx⟩

theorem Go.aret {sc : Nat × (Nat → Int32)} {cl rd : Bool} {d bc bs : Nat} {y : MD} {pc : Nat} {ls : List AV} {h : AH} {Q : GO → AH → Prop} {k i : Nat} {C : String} (hd : decode y.2.1 pc = .ok (.areturn, 1)) (hty : y.2.2.2.1 = some (.object C)) (hrd : rd = true → cl = true) (hQ : Q (.inl (some (vO k i))) h) : Go sc cl rd d bc bs y pc ls [vO k i] h Q := by
  intro p l e R s m args below meth c H locs cells slots mc ms D aC A ad ad0 n0 L S hC hDy
  obtain ⟨hx, hb, hml, hr, hown, hts, hlocks, hnm, hex, hK, hKa, hNc, hfl, hmH⟩ := id hC
  obtain ⟨hRm, hHR, hSX, hS, hA, hEx, hL, hSt, hCl⟩ := id hDy
  obtain ⟨z1, S1, rfl, hv, rfl⟩ := hSt
  have hv' : ∃ a, z1 = .ref a := by
    rcases hv with ⟨-, a, rfl⟩ | ⟨-, rfl⟩ | ⟨-, rfl⟩ <;> exact ⟨_, rfl⟩
  obtain ⟨q, rfl⟩ := hv'
  obtain ⟨r1, r2, r3, r4, r5, r6⟩ := hRm
  refine ma_W_mono ?_ (W.aret (v := .ref q) hx hb (hr.trans hty) (Or.inl ⟨_, rfl⟩) (Or.inr ⟨_, rfl⟩) (Qc := fun _ _ o t => o = .returned (some (.ref q)) ∧ t.heap = H) (free := fun q => ∃ z ∈ locs, z.base = q) (fun t ht _ => ⟨rfl, ht⟩) (fun q hq => ⟨q, hq, rfl⟩) hd)
  rintro t ⟨o, h1, h2, ⟨rfl, h3⟩, L9, ⟨-, h5, h6⟩, h7⟩
  exact ⟨_, h1, h2, h5, ⟨L9, h6.mono (by omega) (by omega), fun q hq => by obtain ⟨z, z1, z2⟩ := h7 q hq; rw [← z2]; exact hS.2.2 z z1, fun h9 => by
    cases L9 with
    | nil => rfl
    | cons q r =>
      obtain ⟨z, z1, -⟩ := h7 q List.mem_cons_self
      rw [(hCl (hrd h9)).1] at z1
      cases z1⟩, hS.F h3, .inl (some (vO k i)), h, ad, hQ, ⟨_, rfl, hv⟩, by rw [h3]; exact hHR, hEx⟩
