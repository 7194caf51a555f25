/-! FROM THE LAW'S ENTRY INTO THE SMALL MACHINE -/
def ma_h0 : AH := (fun _ _ _ => 0, fun _ _ _ => none, fun _ _ _ => 0, fun _ _ => 0, fun _ => 0)
abbrev mLaw : MD := (x, code, 7, some .boolean, [])
theorem ma_arrP {args : Array Value} {s : State} {ty : FieldType} (h : (Cond.arrayClass ty).before args s = true) (hp : ∀ C, ty ≠ .object C) : ∃ cA, ArrOfT s cA ty ∧ va_RA s cA ty := by
  obtain ⟨cA, k, comp, h1, h2, h3⟩ := Cond.arrayClass_spec h
  refine ⟨cA, fun n z => ⟨fun j h9 => (by cases h9), k, h2, comp, h3⟩, ?_⟩
  cases ty with
  | object C => exact absurd rfl (hp C)
  | _ => exact h1
theorem ma_arrO {args : Array Value} {s : State} {C : String} (h : (Cond.arrayOver (.object C)).before args s = true) : ∃ cA, ArrOfT s cA (.object C) ∧ va_RA s cA (.object C) := by
  obtain ⟨comp, cA, k, h1, -, h2, h3, h4⟩ := Cond.arrayOver_spec h
  exact ⟨cA, fun n z => ⟨fun j h9 => (by cases h9), k, h2, comp, h3⟩, k, comp, h2, h3, h1, h4⟩
set_option maxHeartbeats 2000000 in
theorem ma_top {p : Program} {l : Launch} {e : Env} {s : State} {m : MethodId} {below : List Frame} {meth : Method} {c : Code} {b L : Nat} {xs : Nat → Int32} {d bc bs : Nat} (hx : p.tables.exec = Jvm.exec) (hb : c.code = code) (hr : meth.sig.returnType = ret) (hml : c.maxLocals = 7) (hown : s.vm.findClass "DockBookLaw" = some m.cls) (hts : ∀ w ∈ lw_tbl, w.before #[Value.ref b] s = true) (hX : va_X b L xs s s.heap) (hbl : b < s.heap.size) (hlocks : meth.locks = false) (hgv : (Jvm.Cond.and given_1 narrow_1).before #[Value.ref b] s = true) (hfl : l.flags = flags0) (hex : c.exceptionTable.toList = []) (hnm : meth.name = "law")
    (G : Go (L, xs) true false d bc bs mLaw 0 [vO 99 0, vU, vU, vU, vU, vU, vU] [] ma_h0 (fun g _ => g = .inl (some (vI 1)))) (hd : d ≤ 1300) (hbc : bc ≤ 601024) (hbs : bs ≤ 7293034) :
    W p l e room_1 s m #[Value.ref b] below meth c s.heap [] 0 0 (fun t => ∃ o, t.status = .running ∧ Ended t below o ∧ o = .returned (some (.int 1)) ∧ Framed s o t [] 601024 7293034) (entryFrame m ([Value.ref b] : List Value).toArray 7) := by
  have hs := flat_of_before _ hgv
  have htT : ∀ w ∈ maT, w.before #[Value.ref b] s = true := fun w hw => hts w (List.mem_filter.mp hw).1
  have hNc : ∀ j k, 1 ≤ j → j ≤ 4 → 1 ≤ k → k ≤ 4 → j ≠ k → va_Nc (ma_en j) (ma_en k) s := by
    intro j k h1 h2 h3 h4 h5
    rcases (show j = 1 ∨ j = 2 ∨ j = 3 ∨ j = 4 by omega) with rfl | rfl | rfl | rfl <;> rcases (show k = 1 ∨ k = 2 ∨ k = 3 ∨ k = 4 by omega) with rfl | rfl | rfl | rfl <;> first | exact absurd rfl h5 | exact va_Nc.of (hs _ (by decide +kernel))
  have hmH : ∀ w ∈ maH, w.before #[Value.ref b] s = true := by
    intro w hw
    simp only [maH, List.mem_cons, List.not_mem_nil, or_false] at hw
    rcases hw with rfl | rfl | rfl | rfl
    · exact hts _ (by decide +kernel)
    · exact hts _ (by decide +kernel)
    · exact hs _ (by decide +kernel)
    · exact hs _ (by decide +kernel)
  obtain ⟨c0, i0, k0⟩ := u_known (C := RDo) (T := TDo) (N := 8) (n := 8) hts inDo (hts (.instantiable RDo 8) (by decide +kernel))
  obtain ⟨c1, i1, k1⟩ := u_known (C := RCh) (T := TCh) (N := 5) (n := 5) hts inCh (hts (.instantiable RCh 5) (by decide +kernel))
  obtain ⟨c2, i2, k2⟩ := u_known (C := ROr) (T := TOr) (N := 3) (n := 3) hts inOr (hts (.instantiable ROr 3) (by decide +kernel))
  obtain ⟨c3, i3, k3⟩ := u_known (C := RTr) (T := TTr) (N := 14) (n := 14) hts inTr (hts (.instantiable RTr 14) (by decide +kernel))
  obtain ⟨c4, i4, k4⟩ := u_known (C := RBk) (T := TBk) (N := 9) (n := 9) hts inBk (hts (.instantiable RBk 9) (by decide +kernel))
  obtain ⟨c5, i5, k5⟩ := u_known (C := RMo) (T := TMo) (N := 30) (n := 30) hts inMo (hts (.instantiable RMo 30) (by decide +kernel))
  obtain ⟨D, hKD⟩ : ∃ D : va_G, ∀ (k : Nat) (q : vw_C), maCl[k]? = some q → u_Kn s q.1 q.2.1 q.2.2 (D.1 k) (D.2 k) := by
    refine ⟨(fun k => if k = 0 then c0 else if k = 1 then c1 else if k = 2 then c2 else if k = 3 then c3 else if k = 4 then c4 else c5, fun k => if k = 0 then i0 else if k = 1 then i1 else if k = 2 then i2 else if k = 3 then i3 else if k = 4 then i4 else i5), ?_⟩
    intro k q hq
    match k, hq with
    | 0, hq => cases hq; exact k0
    | 1, hq => cases hq; exact k1
    | 2, hq => cases hq; exact k2
    | 3, hq => cases hq; exact k3
    | 4, hq => cases hq; exact k4
    | 5, hq => cases hq; exact k5
    | k + 6, hq => simp [maCl] at hq
  obtain ⟨a0, ha0⟩ := ma_arrP (hts (.arrayClass .int) (by decide +kernel)) (fun C h9 => by cases h9)
  obtain ⟨a1, ha1⟩ := ma_arrP (hts (.arrayClass .long) (by decide +kernel)) (fun C h9 => by cases h9)
  obtain ⟨a2, ha2⟩ := ma_arrP (hts (.arrayClass .boolean) (by decide +kernel)) (fun C h9 => by cases h9)
  obtain ⟨a3, ha3⟩ := ma_arrO (hts (.arrayOver (.object "DockBook$Door")) (by decide +kernel))
  obtain ⟨a4, ha4⟩ := ma_arrO (hts (.arrayOver (.object "DockBook$DoorOrders")) (by decide +kernel))
  obtain ⟨a5, ha5⟩ := ma_arrO (hts (.arrayOver (.object "DockBook$Truck")) (by decide +kernel))
  obtain ⟨aC, hKa⟩ : ∃ aC : Nat → ClassId, ∀ k ty, ma_ty k = some ty → ArrOfT s (aC k) ty ∧ va_RA s (aC k) ty := by
    refine ⟨fun k => if k = 100 then a0 else if k = 101 then a1 else if k = 102 then a2 else if k = 110 then a3 else if k = 112 then a4 else a5, ?_⟩
    intro k ty hk
    unfold ma_ty at hk
    split at hk <;> first | (cases hk; first | exact ha0 | exact ha1 | exact ha2 | exact ha3 | exact ha4 | exact ha5) | cases hk
  have hC : ma_Cx mLaw p l s m #[Value.ref b] meth c D aC := ⟨hx, hb, hml, hr, hown, htT, hlocks, hnm, hex, ⟨hKD, fun k q hq => by simp at hq⟩, hKa, hNc, hfl, hmH⟩
  have hHR : ma_HR D aC (fun q => s.heap.size ≤ q) (fun _ _ => b) ma_h0 s.heap := by
    refine ⟨[], fun x => ?_, List.nodup_nil, fun k q hq => by simp [ma_ws] at hq, ⟨fun i j q z hq => by simp [ma_ws] at hq, fun k q hq => by simp [ma_ws] at hq⟩, fun _ _ _ => rfl, fun k i j r hi => absurd hi (Nat.not_lt_zero _), fun _ _ _ _ => ⟨rfl, rfl, rfl⟩⟩
    constructor
    · intro h9; cases h9
    · intro h9; exact absurd h9 (Nat.not_lt_zero _)
  have hAs : ma_SR (fun _ _ => b) (ma_n ma_h0) [vO 99 0] [Value.ref b] := ⟨_, _, rfl, Or.inr (Or.inl ⟨rfl, rfl⟩), rfl⟩
  have hLR := ma_LR_entry (N := 7) hAs (fun v hv => by rcases List.mem_singleton.mp hv with rfl; exact trivial) (by decide)
  have w := G p l e room_1 s m #[Value.ref b] below meth c s.heap [] 0 0 601024 7293034 D aC (fun q => s.heap.size ≤ q) (fun _ _ => b) (fun _ _ => b) (fun _ => 0) _ [] hC
    ⟨⟨by show d ≤ 2048; omega, by show 64 * d ≤ 84000; omega, by omega, by omega, Nat.le_refl _, Nat.le_refl _⟩, hHR, ⟨hX, Nat.not_le.mpr hbl, hbl, fun q cell hq hc => by
      have := (Array.getElem?_eq_some_iff.mp hc).1
      omega⟩, va_S.rf, fun _ h9 => h9, ⟨fun k i h9 => absurd h9 (Nat.not_lt_zero _), rfl⟩, hLR, rfl, fun _ => ⟨rfl, hHR⟩⟩
  rw [lg_entry_eq]
  refine ma_W_mono ?_ w
  rintro t ⟨o, h1, h2, h3, ⟨L9, h4, h5, -⟩, -, g, h', ad', h6, h7, -⟩
  subst h6
  obtain ⟨v, rfl, rfl⟩ := h7
  exact ⟨_, h1, h2, rfl, ⟨_, rfl⟩, h3, h4.weaken (fun z hz hlt => absurd hlt (Nat.not_lt.mpr (h5 z hz))) (Nat.le_refl _) (Nat.le_refl _)⟩
