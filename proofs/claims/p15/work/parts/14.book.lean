/-! THE BOOK: its shape, and its small methods. Arrays: (110, 0) the doors, (113, 0) the trucks, (113, 1) the waiting ones; object (4, 0) is the book, (1, 0) the choice, (0, i) and (3, i) door and truck i -/
def SB (h : AH) : Prop := h.2.1 4 0 0 = some (110, 0) ∧ h.2.1 4 0 1 = some (113, 0) ∧ h.2.1 4 0 2 = some (113, 1) ∧ h.2.1 4 0 3 = some (1, 0) ∧ h.2.2.2.1 110 0 = 4 ∧ h.2.2.2.1 113 0 = 12 ∧ h.2.2.2.1 113 1 = 12 ∧ (∀ i, i < 4 → h.2.1 110 0 i = some (0, i)) ∧ ∀ i, i < 12 → h.2.1 113 0 i = some (3, i)
theorem SB.doors {h : AH} (s : SB h) : h.2.1 4 0 0 = some (110, 0) := s.1
theorem SB.trucks {h : AH} (s : SB h) : h.2.1 4 0 1 = some (113, 0) := s.2.1
theorem SB.ldoors {h : AH} (s : SB h) : h.2.2.2.1 110 0 = 4 := s.2.2.2.2.1
theorem SB.ltrucks {h : AH} (s : SB h) : h.2.2.2.1 113 0 = 12 := s.2.2.2.2.2.1
theorem SB.door {h : AH} (s : SB h) {i : Nat} (hi : i < 4) : h.2.1 110 0 i = some (0, i) := s.2.2.2.2.2.2.2.1 i hi
theorem SB.truck {h : AH} (s : SB h) {i : Nat} (hi : i < 12) : h.2.1 113 0 i = some (3, i) := s.2.2.2.2.2.2.2.2 i hi
/-- the sum of the first n numbers -/
def sm (f : Nat → Int32) : Nat → Int32
  | 0 => 0
  | n + 1 => sm f n + f n
/-- the outcome of a test: it is passed, or an exception of the kind k comes -/
def rX (ok : Prop) (k : Nat) (h : AH) : GO → AH → Prop := fun g h' => h' = h ∧ ((ok ∧ g = .inl none) ∨ (¬ ok ∧ g = .inr k))
/-- an object by its number j below n, or an exception -/
def rJ (c k n : Nat) (x : Int32) (h : AH) : GO → AH → Prop := fun g h' => h' = h ∧ ((∃ j, j < n ∧ x = nI j ∧ g = .inl (some (vO c j))) ∨ ((x < 0 ∨ nI n ≤ x) ∧ g = .inr k))
set_option maxHeartbeats 1000000 in
theorem g_Bk_requireRange {sc : Nat × (Nat → Int32)} {d bc bs : Nat} {h : AH} (x lo hi : Int32) : Go sc true true (d + 8) (bc + 1) (bs + 6) mBk_requireRange 0 [vI x, vI lo, vI hi] [] h (rX (lo ≤ x ∧ x ≤ hi) 1 h) := by
  refine Go.iload_n dBk_requireRange_0 rfl ?_
  refine Go.iload_n dBk_requireRange_1 rfl ?_
  refine Go.icmp_lt (tgt := 10) dBk_requireRange_2 (by decide) (fun q1 => ?_) (fun q1 => ?_)
  · first
      | exact Go.thrown dBk_requireRange_10 dBk_requireRange_13 dBk_requireRange_14 dBk_requireRange_16 dBk_requireRange_19 twBk_requireRange_10 rfl (by omega) (Nat.le_of_ble_eq_true rfl) ⟨rfl, Or.inr ⟨fun q => q2 q.2, rfl⟩⟩
      | exact Go.thrown dBk_requireRange_10 dBk_requireRange_13 dBk_requireRange_14 dBk_requireRange_16 dBk_requireRange_19 twBk_requireRange_10 rfl (by omega) (Nat.le_of_ble_eq_true rfl) ⟨rfl, Or.inr ⟨fun q => (Int32.not_lt.mpr q.1) q1, rfl⟩⟩
  · refine Go.iload_n dBk_requireRange_5 rfl ?_
    refine Go.iload_n dBk_requireRange_6 rfl ?_
    refine Go.icmp_le (tgt := 20) dBk_requireRange_7 (by decide) (fun q2 => ?_) (fun q2 => ?_)
    · refine Go.vret dBk_requireRange_20 rfl (by decide) ?_
      exact ⟨rfl, Or.inl ⟨⟨Int32.not_lt.mp q1, q2⟩, rfl⟩⟩
    · first
        | exact Go.thrown dBk_requireRange_10 dBk_requireRange_13 dBk_requireRange_14 dBk_requireRange_16 dBk_requireRange_19 twBk_requireRange_10 rfl (by omega) (Nat.le_of_ble_eq_true rfl) ⟨rfl, Or.inr ⟨fun q => q2 q.2, rfl⟩⟩
        | exact Go.thrown dBk_requireRange_10 dBk_requireRange_13 dBk_requireRange_14 dBk_requireRange_16 dBk_requireRange_19 twBk_requireRange_10 rfl (by omega) (Nat.le_of_ble_eq_true rfl) ⟨rfl, Or.inr ⟨fun q => (Int32.not_lt.mpr q.1) q1, rfl⟩⟩
set_option maxHeartbeats 1000000 in
theorem g_Bk_requireState {sc : Nat × (Nat → Int32)} {d bc bs : Nat} {h : AH} (j : Nat) (x : Int32) : Go sc true true (d + 8) (bc + 1) (bs + 6) mBk_requireState 0 [vO 3 j, vI x] [] h (rX (h.1 3 j 5 = x) 4 h) := by
  refine Go.aload_n dBk_requireState_0 rfl (Nat.ne_of_beq_eq_false rfl) ?_
  refine Go.getI dBk_requireState_1 flBk_107 (Nat.le_of_ble_eq_true rfl) rfl ?_
  refine Go.iload_n dBk_requireState_4 rfl ?_
  refine Go.icmp_eq (tgt := 18) dBk_requireState_5 (by decide) (fun q1 => ?_) (fun q1 => ?_)
  · refine Go.vret dBk_requireState_18 rfl (by decide) ?_
    exact ⟨rfl, Or.inl ⟨q1, rfl⟩⟩
  · exact Go.thrown dBk_requireState_8 dBk_requireState_11 dBk_requireState_12 dBk_requireState_14 dBk_requireState_17 twBk_requireState_8 rfl (by omega) (Nat.le_of_ble_eq_true rfl) ⟨rfl, Or.inr ⟨q1, rfl⟩⟩
set_option maxHeartbeats 1000000 in
theorem g_Bk_truckNumbered {sc : Nat × (Nat → Int32)} {d bc bs : Nat} {h : AH} (s : SB h) {n : Nat} (hn : h.1 4 0 5 = nI n) (hle : n ≤ 12) (x : Int32) : Go sc true true (d + 8) (bc + 1) (bs + 6) mBk_truckNumbered 0 [vO 4 0, vI x] [] h (rJ 3 3 n x h) := by
  refine Go.iload_n dBk_truckNumbered_0 rfl ?_
  refine Go.if_lt (tgt := 12) dBk_truckNumbered_1 (by decide) (fun q1 => ?_) (fun q1 => ?_)
  · first
      | exact Go.thrown dBk_truckNumbered_12 dBk_truckNumbered_15 dBk_truckNumbered_16 dBk_truckNumbered_18 dBk_truckNumbered_21 twBk_truckNumbered_12 rfl (by omega) (Nat.le_of_ble_eq_true rfl) ⟨rfl, Or.inr ⟨Or.inr (by rw [← hn]; exact Int32.not_lt.mp q2), rfl⟩⟩
      | exact Go.thrown dBk_truckNumbered_12 dBk_truckNumbered_15 dBk_truckNumbered_16 dBk_truckNumbered_18 dBk_truckNumbered_21 twBk_truckNumbered_12 rfl (by omega) (Nat.le_of_ble_eq_true rfl) ⟨rfl, Or.inr ⟨Or.inl q1, rfl⟩⟩
  · refine Go.iload_n dBk_truckNumbered_4 rfl ?_
    refine Go.aload_n dBk_truckNumbered_5 rfl (Nat.ne_of_beq_eq_false rfl) ?_
    refine Go.getI dBk_truckNumbered_6 flBk_35 (Nat.le_of_ble_eq_true rfl) rfl ?_
    refine Go.icmp_lt (tgt := 22) dBk_truckNumbered_9 (by decide) (fun q2 => ?_) (fun q2 => ?_)
    · refine Go.aload_n dBk_truckNumbered_22 rfl (Nat.ne_of_beq_eq_false rfl) ?_
      refine Go.getR dBk_truckNumbered_23 flBk_17 (Nat.le_of_ble_eq_true rfl) rfl s.trucks ?_
      refine Go.iload_n dBk_truckNumbered_26 rfl ?_
      rw [hn] at q2
      obtain ⟨j, hj, hx⟩ : ∃ j : Nat, j < n ∧ x = nI j := by
        obtain ⟨j, hj, rfl⟩ := nI_of q1
        exact ⟨j, (nI_ltI hj (by omega)).mp q2, rfl⟩
      refine Go.aald dBk_truckNumbered_27 (by decide) rfl hx (by rw [s.ltrucks]; omega) (by omega) (s.truck (by omega)) ?_
      refine Go.aret dBk_truckNumbered_28 rfl (by decide) ?_
      exact ⟨rfl, Or.inl ⟨j, hj, hx, rfl⟩⟩
    · first
        | exact Go.thrown dBk_truckNumbered_12 dBk_truckNumbered_15 dBk_truckNumbered_16 dBk_truckNumbered_18 dBk_truckNumbered_21 twBk_truckNumbered_12 rfl (by omega) (Nat.le_of_ble_eq_true rfl) ⟨rfl, Or.inr ⟨Or.inr (by rw [← hn]; exact Int32.not_lt.mp q2), rfl⟩⟩
        | exact Go.thrown dBk_truckNumbered_12 dBk_truckNumbered_15 dBk_truckNumbered_16 dBk_truckNumbered_18 dBk_truckNumbered_21 twBk_truckNumbered_12 rfl (by omega) (Nat.le_of_ble_eq_true rfl) ⟨rfl, Or.inr ⟨Or.inl q1, rfl⟩⟩
set_option maxHeartbeats 1000000 in
theorem g_Bk_doorNumbered {sc : Nat × (Nat → Int32)} {d bc bs : Nat} {h : AH} (s : SB h) {n : Nat} (hn : h.1 4 0 4 = nI n) (hle : n ≤ 4) (x : Int32) : Go sc true true (d + 8) (bc + 1) (bs + 6) mBk_doorNumbered 0 [vO 4 0, vI x] [] h (rJ 0 3 n x h) := by
  refine Go.iload_n dBk_doorNumbered_0 rfl ?_
  refine Go.if_lt (tgt := 12) dBk_doorNumbered_1 (by decide) (fun q1 => ?_) (fun q1 => ?_)
  · first
      | exact Go.thrown dBk_doorNumbered_12 dBk_doorNumbered_15 dBk_doorNumbered_16 dBk_doorNumbered_18 dBk_doorNumbered_21 twBk_doorNumbered_12 rfl (by omega) (Nat.le_of_ble_eq_true rfl) ⟨rfl, Or.inr ⟨Or.inr (by rw [← hn]; exact Int32.not_lt.mp q2), rfl⟩⟩
      | exact Go.thrown dBk_doorNumbered_12 dBk_doorNumbered_15 dBk_doorNumbered_16 dBk_doorNumbered_18 dBk_doorNumbered_21 twBk_doorNumbered_12 rfl (by omega) (Nat.le_of_ble_eq_true rfl) ⟨rfl, Or.inr ⟨Or.inl q1, rfl⟩⟩
  · refine Go.iload_n dBk_doorNumbered_4 rfl ?_
    refine Go.aload_n dBk_doorNumbered_5 rfl (Nat.ne_of_beq_eq_false rfl) ?_
    refine Go.getI dBk_doorNumbered_6 flBk_31 (Nat.le_of_ble_eq_true rfl) rfl ?_
    refine Go.icmp_lt (tgt := 22) dBk_doorNumbered_9 (by decide) (fun q2 => ?_) (fun q2 => ?_)
    · refine Go.aload_n dBk_doorNumbered_22 rfl (Nat.ne_of_beq_eq_false rfl) ?_
      refine Go.getR dBk_doorNumbered_23 flBk_11 (Nat.le_of_ble_eq_true rfl) rfl s.doors ?_
      refine Go.iload_n dBk_doorNumbered_26 rfl ?_
      rw [hn] at q2
      obtain ⟨j, hj, hx⟩ : ∃ j : Nat, j < n ∧ x = nI j := by
        obtain ⟨j, hj, rfl⟩ := nI_of q1
        exact ⟨j, (nI_ltI hj (by omega)).mp q2, rfl⟩
      refine Go.aald dBk_doorNumbered_27 (by decide) rfl hx (by rw [s.ldoors]; omega) (by omega) (s.door (by omega)) ?_
      refine Go.aret dBk_doorNumbered_28 rfl (by decide) ?_
      exact ⟨rfl, Or.inl ⟨j, hj, hx, rfl⟩⟩
    · first
        | exact Go.thrown dBk_doorNumbered_12 dBk_doorNumbered_15 dBk_doorNumbered_16 dBk_doorNumbered_18 dBk_doorNumbered_21 twBk_doorNumbered_12 rfl (by omega) (Nat.le_of_ble_eq_true rfl) ⟨rfl, Or.inr ⟨Or.inr (by rw [← hn]; exact Int32.not_lt.mp q2), rfl⟩⟩
        | exact Go.thrown dBk_doorNumbered_12 dBk_doorNumbered_15 dBk_doorNumbered_16 dBk_doorNumbered_18 dBk_doorNumbered_21 twBk_doorNumbered_12 rfl (by omega) (Nat.le_of_ble_eq_true rfl) ⟨rfl, Or.inr ⟨Or.inl q1, rfl⟩⟩
set_option maxHeartbeats 1000000 in
theorem l_Bk_trucksThatAre {sc : Nat × (Nat → Int32)} {d bc bs : Nat} {h : AH} (s : SB h) {n : Nat} (hn : h.1 4 0 5 = nI n) (hle : n ≤ 12) (x : Int32) : ∀ k i, i + k = n → Go sc true true d bc bs mBk_trucksThatAre 4 [vO 4 0, vI x, vI (sm (fun j => if h.1 3 j 5 = x then 1 else 0) i), vI (nI i)] [] h (rV (sm (fun j => if h.1 3 j 5 = x then 1 else 0) n) h)
  | k, i, hik => by
    refine Go.iload_n dBk_trucksThatAre_4 rfl ?_
    refine Go.aload_n dBk_trucksThatAre_5 rfl (Nat.ne_of_beq_eq_false rfl) ?_
    refine Go.getI dBk_trucksThatAre_6 flBk_35 (Nat.le_of_ble_eq_true rfl) rfl ?_
    refine Go.icmp_ge (tgt := 39) dBk_trucksThatAre_9 (by decide) (fun q1 => ?_) (fun q1 => ?_)
    · refine Go.iload_n dBk_trucksThatAre_39 rfl ?_
      refine Go.iret dBk_trucksThatAre_40 rfl rfl (by decide) ?_
      rw [hn] at q1
      have hi : i = n := by
        have h9 : n ≤ i := (nI_leI (by omega) (by omega)).mp q1
        omega
      subst hi
      exact ⟨rfl, rfl⟩
    · refine Go.iload_n dBk_trucksThatAre_12 rfl ?_
      refine Go.aload_n dBk_trucksThatAre_13 rfl (Nat.ne_of_beq_eq_false rfl) ?_
      refine Go.getR dBk_trucksThatAre_14 flBk_17 (Nat.le_of_ble_eq_true rfl) rfl s.trucks ?_
      refine Go.iload_n dBk_trucksThatAre_17 rfl ?_
      have hi : i < n := by
        rw [hn] at q1
        exact Nat.not_le.mp (fun h9 => q1 (nI_le h9 (by omega)))
      refine Go.aald dBk_trucksThatAre_18 (by decide) rfl rfl (by rw [s.ltrucks]; omega) (by omega) (s.truck (by omega)) ?_
      refine Go.getI dBk_trucksThatAre_19 flBk_107 (Nat.le_of_ble_eq_true rfl) rfl ?_
      refine Go.iload_n dBk_trucksThatAre_22 rfl ?_
      refine Go.icmp_ne (tgt := 30) dBk_trucksThatAre_23 (by decide) (fun q2 => ?_) (fun q2 => ?_)
      · refine Go.iconst (v := 0) dBk_trucksThatAre_30 (by decide) ?_
        refine Go.iadd dBk_trucksThatAre_31 ?_
        refine Go.istore_n dBk_trucksThatAre_32 (by decide) rfl ?_
        refine Go.iinc dBk_trucksThatAre_33 (by decide) rfl rfl rfl ?_
        refine Go.goto (tgt := 4) dBk_trucksThatAre_36 (by decide) ?_
        have hi : i < n := by
          rw [hn] at q1
          exact Nat.not_le.mp (fun h9 => q1 (nI_le h9 (by omega)))
        obtain ⟨k, rfl⟩ : ∃ k0, k = k0 + 1 := ⟨k - 1, by omega⟩
        have h8 := l_Bk_trucksThatAre (sc := sc) (d := d) (bc := bc) (bs := bs) s hn hle x k (i + 1) (by omega)
        simp only [sm, q2, if_true, if_false, ite_true, ite_false, not_false_eq_true] at h8
        rw [nI_succ] at h8
        exact h8
      · refine Go.iconst (v := 1) dBk_trucksThatAre_26 (by decide) ?_
        refine Go.goto (tgt := 31) dBk_trucksThatAre_27 (by decide) ?_
        refine Go.iadd dBk_trucksThatAre_31 ?_
        refine Go.istore_n dBk_trucksThatAre_32 (by decide) rfl ?_
        refine Go.iinc dBk_trucksThatAre_33 (by decide) rfl rfl rfl ?_
        refine Go.goto (tgt := 4) dBk_trucksThatAre_36 (by decide) ?_
        have hi : i < n := by
          rw [hn] at q1
          exact Nat.not_le.mp (fun h9 => q1 (nI_le h9 (by omega)))
        obtain ⟨k, rfl⟩ : ∃ k0, k = k0 + 1 := ⟨k - 1, by omega⟩
        have h8 := l_Bk_trucksThatAre (sc := sc) (d := d) (bc := bc) (bs := bs) s hn hle x k (i + 1) (by omega)
        simp only [sm, q2, if_true, if_false, ite_true, ite_false, not_false_eq_true] at h8
        rw [nI_succ] at h8
        exact h8
theorem g_Bk_trucksThatAre {sc : Nat × (Nat → Int32)} {d bc bs : Nat} {h : AH} (s : SB h) {n : Nat} (hn : h.1 4 0 5 = nI n) (hle : n ≤ 12) (x : Int32) : Go sc true true d bc bs mBk_trucksThatAre 0 [vO 4 0, vI x, vU, vU] [] h (rV (sm (fun j => if h.1 3 j 5 = x then 1 else 0) n) h) := by
  refine Go.iconst (v := 0) dBk_trucksThatAre_0 (by decide) ?_
  refine Go.istore_n dBk_trucksThatAre_1 (by decide) rfl ?_
  refine Go.iconst (v := 0) dBk_trucksThatAre_2 (by decide) ?_
  refine Go.istore_n dBk_trucksThatAre_3 (by decide) rfl ?_
  exact l_Bk_trucksThatAre s hn hle x n 0 (by omega)
theorem g_Bk_exact {sc : Nat × (Nat → Int32)} {d bc bs : Nat} {h : AH} (hb : h.1 4 0 7 = 0 ∨ h.1 4 0 7 = 1) : Go sc true true d bc bs mBk_exact 0 [vO 4 0] [] h (rV (h.1 4 0 7) h) := by
  refine Go.aload_n dBk_exact_0 rfl (Nat.ne_of_beq_eq_false rfl) ?_
  refine Go.getI dBk_exact_1 flBk_41 (Nat.le_of_ble_eq_true rfl) rfl ?_
  refine Go.iret dBk_exact_4 rfl (by rcases hb with e | e <;> rw [e] <;> rfl) (by decide) ?_
  exact ⟨rfl, rfl⟩
theorem g_Bk_moved {sc : Nat × (Nat → Int32)} {d bc bs : Nat} {h : AH} (hb : h.1 4 0 7 = 0 ∨ h.1 4 0 7 = 1) : Go sc true true d bc bs mBk_moved 0 [vO 4 0] [] h (rV (h.1 4 0 8) h) := by
  refine Go.aload_n dBk_moved_0 rfl (Nat.ne_of_beq_eq_false rfl) ?_
  refine Go.getI dBk_moved_1 flBk_45 (Nat.le_of_ble_eq_true rfl) rfl ?_
  refine Go.iret dBk_moved_4 rfl rfl (by decide) ?_
  exact ⟨rfl, rfl⟩
