/-! THE BOOK'S NEXT METHODS -/
theorem sw5 (x : Int32) : (x.toInt < 0 ∨ 4 < x.toInt) ∨ x = 0 ∨ x = 1 ∨ x = 2 ∨ x = 3 ∨ x = 4 := by
  by_cases h : x.toInt < 0 ∨ 4 < x.toInt
  · exact Or.inl h
  · right
    have e : x.toInt = 0 ∨ x.toInt = 1 ∨ x.toInt = 2 ∨ x.toInt = 3 ∨ x.toInt = 4 := by omega
    rcases e with e | e | e | e | e
    · exact Or.inl (Int32.toInt_inj.mp e)
    · exact Or.inr (Or.inl (Int32.toInt_inj.mp e))
    · exact Or.inr (Or.inr (Or.inl (Int32.toInt_inj.mp e)))
    · exact Or.inr (Or.inr (Or.inr (Or.inl (Int32.toInt_inj.mp e))))
    · exact Or.inr (Or.inr (Or.inr (Or.inr ((Int32.toInt_inj.mp e)))))
theorem sw8 (x : Int32) : (x.toInt < 0 ∨ 7 < x.toInt) ∨ x = 0 ∨ x = 1 ∨ x = 2 ∨ x = 3 ∨ x = 4 ∨ x = 5 ∨ x = 6 ∨ x = 7 := by
  by_cases h : x.toInt < 0 ∨ 7 < x.toInt
  · exact Or.inl h
  · right
    have e : x.toInt = 0 ∨ x.toInt = 1 ∨ x.toInt = 2 ∨ x.toInt = 3 ∨ x.toInt = 4 ∨ x.toInt = 5 ∨ x.toInt = 6 ∨ x.toInt = 7 := by omega
    rcases e with e | e | e | e | e | e | e | e
    · exact Or.inl (Int32.toInt_inj.mp e)
    · exact Or.inr (Or.inl (Int32.toInt_inj.mp e))
    · exact Or.inr (Or.inr (Or.inl (Int32.toInt_inj.mp e)))
    · exact Or.inr (Or.inr (Or.inr (Or.inl (Int32.toInt_inj.mp e))))
    · exact Or.inr (Or.inr (Or.inr (Or.inr (Or.inl (Int32.toInt_inj.mp e)))))
    · exact Or.inr (Or.inr (Or.inr (Or.inr (Or.inr (Or.inl (Int32.toInt_inj.mp e))))))
    · exact Or.inr (Or.inr (Or.inr (Or.inr (Or.inr (Or.inr (Or.inl (Int32.toInt_inj.mp e)))))))
    · exact Or.inr (Or.inr (Or.inr (Or.inr (Or.inr (Or.inr (Or.inr ((Int32.toInt_inj.mp e))))))))
set_option maxHeartbeats 1000000 in
theorem l_Bk_planCost {sc : Nat × (Nat → Int32)} {d bc bs : Nat} {h : AH} (s : SB h) {n : Nat} (hn : h.1 4 0 5 = nI n) (hle : n ≤ 12) : ∀ k i, i + k = n → Go sc true true (d + 1) bc bs mBk_planCost 4 [vO 4 0, vI (sm (fun j => if h.1 3 j 5 = 0 then sp_cost h.1 j (h.1 3 j 7) else 0) i), vI (nI i)] [] h (rV (sm (fun j => if h.1 3 j 5 = 0 then sp_cost h.1 j (h.1 3 j 7) else 0) n) h)
  | k, i, hik => by
    refine Go.iload_n dBk_planCost_4 rfl ?_
    refine Go.aload_n dBk_planCost_5 rfl (Nat.ne_of_beq_eq_false rfl) ?_
    refine Go.getI dBk_planCost_6 flBk_35 (Nat.le_of_ble_eq_true rfl) rfl ?_
    refine Go.icmp_ge (tgt := 55) dBk_planCost_9 (by decide) (fun q1 => ?_) (fun q1 => ?_)
    · refine Go.iload_n dBk_planCost_55 rfl ?_
      refine Go.iret dBk_planCost_56 rfl rfl (by decide) ?_
      rw [hn] at q1
      have hi : i = n := by
        have h9 : n ≤ i := (nI_leI (by omega) (by omega)).mp q1
        omega
      subst hi
      exact ⟨rfl, rfl⟩
    · refine Go.iload_n dBk_planCost_12 rfl ?_
      refine Go.aload_n dBk_planCost_13 rfl (Nat.ne_of_beq_eq_false rfl) ?_
      refine Go.getR dBk_planCost_14 flBk_17 (Nat.le_of_ble_eq_true rfl) rfl s.trucks ?_
      refine Go.iload_n dBk_planCost_17 rfl ?_
      have hi : i < n := by
        rw [hn] at q1
        exact Nat.not_le.mp (fun h9 => q1 (nI_le h9 (by omega)))
      refine Go.aald dBk_planCost_18 (by decide) rfl rfl (by rw [s.ltrucks]; omega) (by omega) (s.truck (by omega)) ?_
      refine Go.getI dBk_planCost_19 flBk_107 (Nat.le_of_ble_eq_true rfl) rfl ?_
      refine Go.if_ne (tgt := 46) dBk_planCost_22 (by decide) (fun q2 => ?_) (fun q2 => ?_)
      · refine Go.iconst (v := 0) dBk_planCost_46 (by decide) ?_
        refine Go.iadd dBk_planCost_47 ?_
        refine Go.istore_n dBk_planCost_48 (by decide) rfl ?_
        refine Go.iinc dBk_planCost_49 (by decide) rfl rfl rfl ?_
        refine Go.goto (tgt := 4) dBk_planCost_52 (by decide) ?_
        obtain ⟨k, rfl⟩ : ∃ k0, k = k0 + 1 := ⟨k - 1, by omega⟩
        have h8 := l_Bk_planCost (sc := sc) (d := d) (bc := bc) (bs := bs) s hn hle k (i + 1) (by omega)
        simp only [sm] at h8
        rw [nI_succ] at h8
        first
          | (rw [if_pos q2] at h8; exact h8)
          | (rw [if_neg q2] at h8; exact h8)
      · refine Go.aload_n dBk_planCost_25 rfl (Nat.ne_of_beq_eq_false rfl) ?_
        refine Go.getR dBk_planCost_26 flBk_17 (Nat.le_of_ble_eq_true rfl) rfl s.trucks ?_
        refine Go.iload_n dBk_planCost_29 rfl ?_
        refine Go.aald dBk_planCost_30 (by decide) rfl rfl (by rw [s.ltrucks]; omega) (by omega) (s.truck (by omega)) ?_
        refine Go.aload_n dBk_planCost_31 rfl (Nat.ne_of_beq_eq_false rfl) ?_
        refine Go.getR dBk_planCost_32 flBk_17 (Nat.le_of_ble_eq_true rfl) rfl s.trucks ?_
        refine Go.iload_n dBk_planCost_35 rfl ?_
        refine Go.aald dBk_planCost_36 (by decide) rfl rfl (by rw [s.ltrucks]; omega) (by omega) (s.truck (by omega)) ?_
        refine Go.getI dBk_planCost_37 flBk_134 (Nat.le_of_ble_eq_true rfl) rfl ?_
        refine Go.callVr mTr_costAt [vI (h.1 3 i 7)] dBk_planCost_40 vwBk_210 (Nat.le_of_ble_eq_true rfl) rfl rfl (Nat.le_of_ble_eq_true rfl) rfl (Nat.le_of_ble_eq_true rfl) (g_Tr_costAt i (h.1 3 i 7)) ?_
        refine Go.goto (tgt := 47) dBk_planCost_43 (by decide) ?_
        refine Go.iadd dBk_planCost_47 ?_
        refine Go.istore_n dBk_planCost_48 (by decide) rfl ?_
        refine Go.iinc dBk_planCost_49 (by decide) rfl rfl rfl ?_
        refine Go.goto (tgt := 4) dBk_planCost_52 (by decide) ?_
        obtain ⟨k, rfl⟩ : ∃ k0, k = k0 + 1 := ⟨k - 1, by omega⟩
        have h8 := l_Bk_planCost (sc := sc) (d := d) (bc := bc) (bs := bs) s hn hle k (i + 1) (by omega)
        simp only [sm] at h8
        rw [nI_succ] at h8
        first
          | (rw [if_pos q2] at h8; exact h8)
          | (rw [if_neg q2] at h8; exact h8)
theorem g_Bk_planCost {sc : Nat × (Nat → Int32)} {d bc bs : Nat} {h : AH} (s : SB h) {n : Nat} (hn : h.1 4 0 5 = nI n) (hle : n ≤ 12) : Go sc true true (d + 1) bc bs mBk_planCost 0 [vO 4 0, vU, vU] [] h (rV (sm (fun j => if h.1 3 j 5 = 0 then sp_cost h.1 j (h.1 3 j 7) else 0) n) h) := by
  refine Go.iconst (v := 0) dBk_planCost_0 (by decide) ?_
  refine Go.istore_n dBk_planCost_1 (by decide) rfl ?_
  refine Go.iconst (v := 0) dBk_planCost_2 (by decide) ?_
  refine Go.istore_n dBk_planCost_3 (by decide) rfl ?_
  exact l_Bk_planCost s hn hle n 0 (by omega)
set_option maxHeartbeats 1000000 in
theorem l_Bk_plannedFor {sc : Nat × (Nat → Int32)} {d bc bs : Nat} {h : AH} (s : SB h) {n : Nat} (hn : h.1 4 0 5 = nI n) (hle : n ≤ 12) (x : Int32) : ∀ k i, i + k = n → Go sc true true (d + 1) bc bs mBk_plannedFor 4 [vO 4 0, vI x, vI (sm (fun j => if sp_planned h.1 j x = 0 then 0 else 1) i), vI (nI i)] [] h (rV (sm (fun j => if sp_planned h.1 j x = 0 then 0 else 1) n) h)
  | k, i, hik => by
    refine Go.iload_n dBk_plannedFor_4 rfl ?_
    refine Go.aload_n dBk_plannedFor_5 rfl (Nat.ne_of_beq_eq_false rfl) ?_
    refine Go.getI dBk_plannedFor_6 flBk_35 (Nat.le_of_ble_eq_true rfl) rfl ?_
    refine Go.icmp_ge (tgt := 39) dBk_plannedFor_9 (by decide) (fun q1 => ?_) (fun q1 => ?_)
    · refine Go.iload_n dBk_plannedFor_39 rfl ?_
      refine Go.iret dBk_plannedFor_40 rfl rfl (by decide) ?_
      rw [hn] at q1
      have hi : i = n := by
        have h9 : n ≤ i := (nI_leI (by omega) (by omega)).mp q1
        omega
      subst hi
      exact ⟨rfl, rfl⟩
    · refine Go.iload_n dBk_plannedFor_12 rfl ?_
      refine Go.aload_n dBk_plannedFor_13 rfl (Nat.ne_of_beq_eq_false rfl) ?_
      refine Go.getR dBk_plannedFor_14 flBk_17 (Nat.le_of_ble_eq_true rfl) rfl s.trucks ?_
      refine Go.iload_n dBk_plannedFor_17 rfl ?_
      have hi : i < n := by
        rw [hn] at q1
        exact Nat.not_le.mp (fun h9 => q1 (nI_le h9 (by omega)))
      refine Go.aald dBk_plannedFor_18 (by decide) rfl rfl (by rw [s.ltrucks]; omega) (by omega) (s.truck (by omega)) ?_
      refine Go.iload_n dBk_plannedFor_19 rfl ?_
      refine Go.callVr mTr_isPlannedFor [vI x] dBk_plannedFor_20 vwBk_174 (Nat.le_of_ble_eq_true rfl) rfl rfl (Nat.le_of_ble_eq_true rfl) rfl (Nat.le_of_ble_eq_true rfl) (g_Tr_isPlannedFor i x) ?_
      refine Go.if_eq (tgt := 30) dBk_plannedFor_23 (by decide) (fun q2 => ?_) (fun q2 => ?_)
      · refine Go.iconst (v := 0) dBk_plannedFor_30 (by decide) ?_
        refine Go.iadd dBk_plannedFor_31 ?_
        refine Go.istore_n dBk_plannedFor_32 (by decide) rfl ?_
        refine Go.iinc dBk_plannedFor_33 (by decide) rfl rfl rfl ?_
        refine Go.goto (tgt := 4) dBk_plannedFor_36 (by decide) ?_
        obtain ⟨k, rfl⟩ : ∃ k0, k = k0 + 1 := ⟨k - 1, by omega⟩
        have h8 := l_Bk_plannedFor (sc := sc) (d := d) (bc := bc) (bs := bs) s hn hle x k (i + 1) (by omega)
        simp only [sm] at h8
        rw [nI_succ] at h8
        first
          | (rw [if_pos q2] at h8; exact h8)
          | (rw [if_neg q2] at h8; exact h8)
      · refine Go.iconst (v := 1) dBk_plannedFor_26 (by decide) ?_
        refine Go.goto (tgt := 31) dBk_plannedFor_27 (by decide) ?_
        refine Go.iadd dBk_plannedFor_31 ?_
        refine Go.istore_n dBk_plannedFor_32 (by decide) rfl ?_
        refine Go.iinc dBk_plannedFor_33 (by decide) rfl rfl rfl ?_
        refine Go.goto (tgt := 4) dBk_plannedFor_36 (by decide) ?_
        obtain ⟨k, rfl⟩ : ∃ k0, k = k0 + 1 := ⟨k - 1, by omega⟩
        have h8 := l_Bk_plannedFor (sc := sc) (d := d) (bc := bc) (bs := bs) s hn hle x k (i + 1) (by omega)
        simp only [sm] at h8
        rw [nI_succ] at h8
        first
          | (rw [if_pos q2] at h8; exact h8)
          | (rw [if_neg q2] at h8; exact h8)
theorem g_Bk_plannedFor {sc : Nat × (Nat → Int32)} {d bc bs : Nat} {h : AH} (s : SB h) {n : Nat} (hn : h.1 4 0 5 = nI n) (hle : n ≤ 12) (x : Int32) : Go sc true true (d + 1) bc bs mBk_plannedFor 0 [vO 4 0, vI x, vU, vU] [] h (rV (sm (fun j => if sp_planned h.1 j x = 0 then 0 else 1) n) h) := by
  refine Go.iconst (v := 0) dBk_plannedFor_0 (by decide) ?_
  refine Go.istore_n dBk_plannedFor_1 (by decide) rfl ?_
  refine Go.iconst (v := 0) dBk_plannedFor_2 (by decide) ?_
  refine Go.istore_n dBk_plannedFor_3 (by decide) rfl ?_
  exact l_Bk_plannedFor s hn hle x n 0 (by omega)
set_option maxHeartbeats 1000000 in
theorem g_Bk_pass {sc : Nat × (Nat → Int32)} {d bc bs : Nat} {h : AH} (x : Int32) : Go sc true false (d + 9) (bc + 1) (bs + 6) mBk_pass 0 [vO 4 0, vI x] [] h (fun g h' => ((h.1 4 0 6 ≤ x ∧ x ≤ 2000) ∧ g = .inl none ∧ h' = (ma_up h.1 4 0 6 x, h.2)) ∨ (¬ (h.1 4 0 6 ≤ x ∧ x ≤ 2000) ∧ g = .inr 1 ∧ h' = h)) := by
  refine Go.iload_n dBk_pass_0 rfl ?_
  refine Go.aload_n dBk_pass_1 rfl (Nat.ne_of_beq_eq_false rfl) ?_
  refine Go.getI dBk_pass_2 flBk_38 (Nat.le_of_ble_eq_true rfl) rfl ?_
  refine Go.sipush (v := 2000) dBk_pass_5 (by decide) ?_
  refine Go.callSx mBk_requireRange [vI x, vI (h.1 4 0 6), vI 2000] dBk_pass_8 vwBk_52 rfl rfl (Nat.le_of_ble_eq_true rfl) rfl (Nat.le_of_ble_eq_true rfl) rfl (by decide) (g_Bk_requireRange x (h.1 4 0 6) 2000) (fun ok => ?_) (fun ok => Or.inr ⟨ok, rfl, rfl⟩)
  refine Go.aload_n dBk_pass_11 rfl (Nat.ne_of_beq_eq_false rfl) ?_
  refine Go.iload_n dBk_pass_12 rfl ?_
  refine Go.putI dBk_pass_13 fwBk_pass_38 (Nat.le_of_ble_eq_true rfl) rfl ⟨rfl, rfl⟩ ?_
  refine Go.vret dBk_pass_16 rfl (by decide) ?_
  exact Or.inl ⟨ok, rfl, rfl⟩
def sp_count (m : Nat → Nat → Nat → Int32) (n : Nat) (x : Int32) : Int32 := if x = 0 then m 4 0 4 else if x = 1 then m 4 0 5 else if x = 2 then sm (fun j => if m 3 j 5 = 0 then 1 else 0) n else if x = 3 then sm (fun j => if m 3 j 5 = 1 then 1 else 0) n else if x = 4 then sm (fun j => if m 3 j 5 = 2 then 1 else 0) n else if x = 5 then sm (fun j => if m 3 j 5 = 3 then 1 else 0) n else if x = 6 then m 4 0 6 else if x = 7 then sm (fun j => if m 3 j 5 = 0 then sp_cost m j (m 3 j 7) else 0) n else -1
set_option maxHeartbeats 1000000 in
theorem g_Bk_count {sc : Nat × (Nat → Int32)} {d bc bs : Nat} {h : AH} (s : SB h) {n : Nat} (hn : h.1 4 0 5 = nI n) (hle : n ≤ 12) (x : Int32) : Go sc true true (d + 2) bc bs mBk_count 0 [vO 4 0, vI x] [] h (rV (sp_count h.1 n x) h) := by
  refine Go.iload_n dBk_count_0 rfl ?_
  rcases sw8 x with qs | rfl | rfl | rfl | rfl | rfl | rfl | rfl | rfl
  · refine Go.tabOut (tgt := 92) dBk_count_1 qs (by decide) ?_
    refine Go.iconst (v := (-1)) dBk_count_92 (by decide) ?_
    refine Go.iret dBk_count_93 rfl rfl (by decide) ?_
    refine ⟨?_, rfl⟩
    first
      | rfl
      | (have e0 : ∀ j : Int32, 0 ≤ j.toInt → j.toInt ≤ 7 → x ≠ j := fun j h1 h2 h3 => by subst h3; omega
         simp [sp_count, e0 0 (by decide) (by decide), e0 1 (by decide) (by decide), e0 2 (by decide) (by decide), e0 3 (by decide) (by decide), e0 4 (by decide) (by decide), e0 5 (by decide) (by decide), e0 6 (by decide) (by decide), e0 7 (by decide) (by decide)])
  · refine Go.tabIn (off := 47) (tgt := 48) dBk_count_1 (by decide) (by decide) rfl (by decide) ?_
    refine Go.aload_n dBk_count_48 rfl (Nat.ne_of_beq_eq_false rfl) ?_
    refine Go.getI dBk_count_49 flBk_31 (Nat.le_of_ble_eq_true rfl) rfl ?_
    refine Go.iret dBk_count_52 rfl rfl (by decide) ?_
    refine ⟨?_, rfl⟩
    first
      | rfl
      | (have e0 : ∀ j : Int32, 0 ≤ j.toInt → j.toInt ≤ 7 → x ≠ j := fun j h1 h2 h3 => by subst h3; omega
         simp [sp_count, e0 0 (by decide) (by decide), e0 1 (by decide) (by decide), e0 2 (by decide) (by decide), e0 3 (by decide) (by decide), e0 4 (by decide) (by decide), e0 5 (by decide) (by decide), e0 6 (by decide) (by decide), e0 7 (by decide) (by decide)])
  · refine Go.tabIn (off := 52) (tgt := 53) dBk_count_1 (by decide) (by decide) rfl (by decide) ?_
    refine Go.aload_n dBk_count_53 rfl (Nat.ne_of_beq_eq_false rfl) ?_
    refine Go.getI dBk_count_54 flBk_35 (Nat.le_of_ble_eq_true rfl) rfl ?_
    refine Go.iret dBk_count_57 rfl rfl (by decide) ?_
    refine ⟨?_, rfl⟩
    first
      | rfl
      | (have e0 : ∀ j : Int32, 0 ≤ j.toInt → j.toInt ≤ 7 → x ≠ j := fun j h1 h2 h3 => by subst h3; omega
         simp [sp_count, e0 0 (by decide) (by decide), e0 1 (by decide) (by decide), e0 2 (by decide) (by decide), e0 3 (by decide) (by decide), e0 4 (by decide) (by decide), e0 5 (by decide) (by decide), e0 6 (by decide) (by decide), e0 7 (by decide) (by decide)])
  · refine Go.tabIn (off := 57) (tgt := 58) dBk_count_1 (by decide) (by decide) rfl (by decide) ?_
    refine Go.aload_n dBk_count_58 rfl (Nat.ne_of_beq_eq_false rfl) ?_
    refine Go.iconst (v := 0) dBk_count_59 (by decide) ?_
    refine Go.callVr mBk_trucksThatAre [vI 0] dBk_count_60 vwBk_196 (Nat.le_of_ble_eq_true rfl) rfl rfl (Nat.le_of_ble_eq_true rfl) rfl (Nat.le_of_ble_eq_true rfl) (g_Bk_trucksThatAre s hn hle 0) ?_
    refine Go.iret dBk_count_63 rfl rfl (by decide) ?_
    refine ⟨?_, rfl⟩
    first
      | rfl
      | (have e0 : ∀ j : Int32, 0 ≤ j.toInt → j.toInt ≤ 7 → x ≠ j := fun j h1 h2 h3 => by subst h3; omega
         simp [sp_count, e0 0 (by decide) (by decide), e0 1 (by decide) (by decide), e0 2 (by decide) (by decide), e0 3 (by decide) (by decide), e0 4 (by decide) (by decide), e0 5 (by decide) (by decide), e0 6 (by decide) (by decide), e0 7 (by decide) (by decide)])
  · refine Go.tabIn (off := 63) (tgt := 64) dBk_count_1 (by decide) (by decide) rfl (by decide) ?_
    refine Go.aload_n dBk_count_64 rfl (Nat.ne_of_beq_eq_false rfl) ?_
    refine Go.iconst (v := 1) dBk_count_65 (by decide) ?_
    refine Go.callVr mBk_trucksThatAre [vI 1] dBk_count_66 vwBk_196 (Nat.le_of_ble_eq_true rfl) rfl rfl (Nat.le_of_ble_eq_true rfl) rfl (Nat.le_of_ble_eq_true rfl) (g_Bk_trucksThatAre s hn hle 1) ?_
    refine Go.iret dBk_count_69 rfl rfl (by decide) ?_
    refine ⟨?_, rfl⟩
    first
      | rfl
      | (have e0 : ∀ j : Int32, 0 ≤ j.toInt → j.toInt ≤ 7 → x ≠ j := fun j h1 h2 h3 => by subst h3; omega
         simp [sp_count, e0 0 (by decide) (by decide), e0 1 (by decide) (by decide), e0 2 (by decide) (by decide), e0 3 (by decide) (by decide), e0 4 (by decide) (by decide), e0 5 (by decide) (by decide), e0 6 (by decide) (by decide), e0 7 (by decide) (by decide)])
  · refine Go.tabIn (off := 69) (tgt := 70) dBk_count_1 (by decide) (by decide) rfl (by decide) ?_
    refine Go.aload_n dBk_count_70 rfl (Nat.ne_of_beq_eq_false rfl) ?_
    refine Go.iconst (v := 2) dBk_count_71 (by decide) ?_
    refine Go.callVr mBk_trucksThatAre [vI 2] dBk_count_72 vwBk_196 (Nat.le_of_ble_eq_true rfl) rfl rfl (Nat.le_of_ble_eq_true rfl) rfl (Nat.le_of_ble_eq_true rfl) (g_Bk_trucksThatAre s hn hle 2) ?_
    refine Go.iret dBk_count_75 rfl rfl (by decide) ?_
    refine ⟨?_, rfl⟩
    first
      | rfl
      | (have e0 : ∀ j : Int32, 0 ≤ j.toInt → j.toInt ≤ 7 → x ≠ j := fun j h1 h2 h3 => by subst h3; omega
         simp [sp_count, e0 0 (by decide) (by decide), e0 1 (by decide) (by decide), e0 2 (by decide) (by decide), e0 3 (by decide) (by decide), e0 4 (by decide) (by decide), e0 5 (by decide) (by decide), e0 6 (by decide) (by decide), e0 7 (by decide) (by decide)])
  · refine Go.tabIn (off := 75) (tgt := 76) dBk_count_1 (by decide) (by decide) rfl (by decide) ?_
    refine Go.aload_n dBk_count_76 rfl (Nat.ne_of_beq_eq_false rfl) ?_
    refine Go.iconst (v := 3) dBk_count_77 (by decide) ?_
    refine Go.callVr mBk_trucksThatAre [vI 3] dBk_count_78 vwBk_196 (Nat.le_of_ble_eq_true rfl) rfl rfl (Nat.le_of_ble_eq_true rfl) rfl (Nat.le_of_ble_eq_true rfl) (g_Bk_trucksThatAre s hn hle 3) ?_
    refine Go.iret dBk_count_81 rfl rfl (by decide) ?_
    refine ⟨?_, rfl⟩
    first
      | rfl
      | (have e0 : ∀ j : Int32, 0 ≤ j.toInt → j.toInt ≤ 7 → x ≠ j := fun j h1 h2 h3 => by subst h3; omega
         simp [sp_count, e0 0 (by decide) (by decide), e0 1 (by decide) (by decide), e0 2 (by decide) (by decide), e0 3 (by decide) (by decide), e0 4 (by decide) (by decide), e0 5 (by decide) (by decide), e0 6 (by decide) (by decide), e0 7 (by decide) (by decide)])
  · refine Go.tabIn (off := 81) (tgt := 82) dBk_count_1 (by decide) (by decide) rfl (by decide) ?_
    refine Go.aload_n dBk_count_82 rfl (Nat.ne_of_beq_eq_false rfl) ?_
    refine Go.getI dBk_count_83 flBk_38 (Nat.le_of_ble_eq_true rfl) rfl ?_
    refine Go.iret dBk_count_86 rfl rfl (by decide) ?_
    refine ⟨?_, rfl⟩
    first
      | rfl
      | (have e0 : ∀ j : Int32, 0 ≤ j.toInt → j.toInt ≤ 7 → x ≠ j := fun j h1 h2 h3 => by subst h3; omega
         simp [sp_count, e0 0 (by decide) (by decide), e0 1 (by decide) (by decide), e0 2 (by decide) (by decide), e0 3 (by decide) (by decide), e0 4 (by decide) (by decide), e0 5 (by decide) (by decide), e0 6 (by decide) (by decide), e0 7 (by decide) (by decide)])
  · refine Go.tabIn (off := 86) (tgt := 87) dBk_count_1 (by decide) (by decide) rfl (by decide) ?_
    refine Go.aload_n dBk_count_87 rfl (Nat.ne_of_beq_eq_false rfl) ?_
    refine Go.callVr mBk_planCost [] dBk_count_88 vwBk_104 (Nat.le_of_ble_eq_true rfl) rfl rfl (Nat.le_of_ble_eq_true rfl) rfl (Nat.le_of_ble_eq_true rfl) (g_Bk_planCost s hn hle) ?_
    refine Go.iret dBk_count_91 rfl rfl (by decide) ?_
    refine ⟨?_, rfl⟩
    first
      | rfl
      | (have e0 : ∀ j : Int32, 0 ≤ j.toInt → j.toInt ≤ 7 → x ≠ j := fun j h1 h2 h3 => by subst h3; omega
         simp [sp_count, e0 0 (by decide) (by decide), e0 1 (by decide) (by decide), e0 2 (by decide) (by decide), e0 3 (by decide) (by decide), e0 4 (by decide) (by decide), e0 5 (by decide) (by decide), e0 6 (by decide) (by decide), e0 7 (by decide) (by decide)])
