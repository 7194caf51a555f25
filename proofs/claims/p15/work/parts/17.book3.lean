/-! THE BOOK'S WRITES -/
def ok_truck (a b c e : Int32) : Prop := (0 ≤ a ∧ a ≤ 7) ∧ (0 ≤ b ∧ b ≤ 2000) ∧ (1 ≤ c ∧ c ≤ 300) ∧ (1 ≤ e ∧ e ≤ 9)
def up_truck (m : Nat → Nat → Nat → Int32) (n : Nat) (a b c e : Int32) : Nat → Nat → Nat → Int32 := ma_up (ma_up (ma_up (ma_up (ma_up m 3 n 1 a) 3 n 2 b) 3 n 3 c) 3 n 4 e) 4 0 5 (nI (n + 1))
def ok_door (a b c : Int32) : Prop := (1 ≤ a ∧ a ≤ 255) ∧ (0 ≤ b ∧ b ≤ 2000) ∧ (b + 1 ≤ c ∧ c ≤ 2000)
def up_door (m : Nat → Nat → Nat → Int32) (n : Nat) (a b c : Int32) : Nat → Nat → Nat → Int32 := ma_up (ma_up (ma_up (ma_up m 0 n 0 a) 0 n 1 b) 0 n 2 c) 4 0 4 (nI (n + 1))
def rMake (ok : Prop) (n mx : Nat) (m' : Nat → Nat → Nat → Int32) (h : AH) : GO → AH → Prop := fun g h' => (ok ∧ n < mx ∧ g = .inl (some (vI (nI n))) ∧ h' = (m', h.2)) ∨ (ok ∧ n = mx ∧ g = .inr 2 ∧ h' = h) ∨ (¬ ok ∧ g = .inr 1 ∧ h' = h)
set_option maxHeartbeats 2000000 in
theorem g_Bk_truck {sc : Nat × (Nat → Int32)} {d bc bs : Nat} {h : AH} (s : SB h) {n : Nat} (hn : h.1 4 0 5 = nI n) (hle : n ≤ 12) (a b c e : Int32) : Go sc true false (d + 9) (bc + 5) (bs + 30) mBk_truck 0 [vO 4 0, vI a, vI b, vI c, vI e, vU] [] h (rMake (ok_truck a b c e) n 12 (up_truck h.1 n a b c e) h) := by
  refine Go.iload_n dBk_truck_0 rfl ?_
  refine Go.iconst (v := 0) dBk_truck_1 (by decide) ?_
  refine Go.bipush (v := 7) dBk_truck_2 (by decide) ?_
  refine Go.callSx mBk_requireRange [vI a, vI 0, vI 7] dBk_truck_4 vwBk_52 rfl rfl (Nat.le_of_ble_eq_true rfl) rfl (Nat.le_of_ble_eq_true rfl) rfl (by decide) (g_Bk_requireRange a 0 7) (fun ok1 => ?_) (fun ok1 => Or.inr (Or.inr ⟨fun z => ok1 z.1, rfl, rfl⟩))
  refine Go.iload_n dBk_truck_7 rfl ?_
  refine Go.iconst (v := 0) dBk_truck_8 (by decide) ?_
  refine Go.sipush (v := 2000) dBk_truck_9 (by decide) ?_
  refine Go.callSx mBk_requireRange [vI b, vI 0, vI 2000] dBk_truck_12 vwBk_52 rfl rfl (Nat.le_of_ble_eq_true rfl) rfl (Nat.le_of_ble_eq_true rfl) rfl (by decide) (g_Bk_requireRange b 0 2000) (fun ok2 => ?_) (fun ok2 => Or.inr (Or.inr ⟨fun z => ok2 z.2.1, rfl, rfl⟩))
  refine Go.iload_n dBk_truck_15 rfl ?_
  refine Go.iconst (v := 1) dBk_truck_16 (by decide) ?_
  refine Go.sipush (v := 300) dBk_truck_17 (by decide) ?_
  refine Go.callSx mBk_requireRange [vI c, vI 1, vI 300] dBk_truck_20 vwBk_52 rfl rfl (Nat.le_of_ble_eq_true rfl) rfl (Nat.le_of_ble_eq_true rfl) rfl (by decide) (g_Bk_requireRange c 1 300) (fun ok3 => ?_) (fun ok3 => Or.inr (Or.inr ⟨fun z => ok3 z.2.2.1, rfl, rfl⟩))
  refine Go.iload dBk_truck_23 rfl ?_
  refine Go.iconst (v := 1) dBk_truck_25 (by decide) ?_
  refine Go.bipush (v := 9) dBk_truck_26 (by decide) ?_
  refine Go.callSx mBk_requireRange [vI e, vI 1, vI 9] dBk_truck_28 vwBk_52 rfl rfl (Nat.le_of_ble_eq_true rfl) rfl (Nat.le_of_ble_eq_true rfl) rfl (by decide) (g_Bk_requireRange e 1 9) (fun ok4 => ?_) (fun ok4 => Or.inr (Or.inr ⟨fun z => ok4 z.2.2.2, rfl, rfl⟩))
  refine Go.aload_n dBk_truck_31 rfl (Nat.ne_of_beq_eq_false rfl) ?_
  refine Go.getI dBk_truck_32 flBk_35 (Nat.le_of_ble_eq_true rfl) rfl ?_
  refine Go.bipush (v := 12) dBk_truck_35 (by decide) ?_
  refine Go.icmp_lt (tgt := 50) dBk_truck_37 (by decide) (fun q1 => ?_) (fun q1 => ?_)
  · refine Go.aload_n dBk_truck_50 rfl (Nat.ne_of_beq_eq_false rfl) ?_
    refine Go.getR dBk_truck_51 flBk_17 (Nat.le_of_ble_eq_true rfl) rfl s.trucks ?_
    refine Go.aload_n dBk_truck_54 rfl (Nat.ne_of_beq_eq_false rfl) ?_
    refine Go.getI dBk_truck_55 flBk_35 (Nat.le_of_ble_eq_true rfl) rfl ?_
    have hlt : n < 12 := by
      rw [hn] at q1
      exact (nI_ltI (b := 12) (by omega) (by decide)).mp q1
    refine Go.aald dBk_truck_58 (by decide) rfl hn (by rw [s.ltrucks]; omega) (by omega) (s.truck (by omega)) ?_
    refine Go.astore dBk_truck_59 (by decide) rfl ?_
    refine Go.aload dBk_truck_61 rfl (Nat.ne_of_beq_eq_false rfl) ?_
    refine Go.iload_n dBk_truck_63 rfl ?_
    refine Go.putI dBk_truck_64 fwBk_truck_74 (Nat.le_of_ble_eq_true rfl) rfl ⟨rfl, rfl⟩ ?_
    refine Go.aload dBk_truck_67 rfl (Nat.ne_of_beq_eq_false rfl) ?_
    refine Go.iload_n dBk_truck_69 rfl ?_
    refine Go.putI dBk_truck_70 fwBk_truck_77 (Nat.le_of_ble_eq_true rfl) rfl ⟨rfl, rfl⟩ ?_
    refine Go.aload dBk_truck_73 rfl (Nat.ne_of_beq_eq_false rfl) ?_
    refine Go.iload_n dBk_truck_75 rfl ?_
    refine Go.putI dBk_truck_76 fwBk_truck_80 (Nat.le_of_ble_eq_true rfl) rfl ⟨rfl, rfl⟩ ?_
    refine Go.aload dBk_truck_79 rfl (Nat.ne_of_beq_eq_false rfl) ?_
    refine Go.iload dBk_truck_81 rfl ?_
    refine Go.putI dBk_truck_83 fwBk_truck_83 (Nat.le_of_ble_eq_true rfl) rfl ⟨rfl, rfl⟩ ?_
    refine Go.aload_n dBk_truck_86 rfl (Nat.ne_of_beq_eq_false rfl) ?_
    refine Go.dup trivial dBk_truck_87 ?_
    refine Go.getI dBk_truck_88 flBk_35 (Nat.le_of_ble_eq_true rfl) rfl ?_
    refine Go.iconst (v := 1) dBk_truck_91 (by decide) ?_
    refine Go.iadd dBk_truck_92 ?_
    refine Go.putI dBk_truck_93 fwBk_truck_35 (Nat.le_of_ble_eq_true rfl) rfl ⟨rfl, rfl⟩ ?_
    refine Go.aload_n dBk_truck_96 rfl (Nat.ne_of_beq_eq_false rfl) ?_
    refine Go.getI dBk_truck_97 flBk_35 (Nat.le_of_ble_eq_true rfl) rfl ?_
    refine Go.iconst (v := 1) dBk_truck_100 (by decide) ?_
    refine Go.isub dBk_truck_101 ?_
    refine Go.iret dBk_truck_102 rfl rfl (by decide) ?_
    refine Or.inl ⟨⟨ok1, ok2, ok3, ok4⟩, hlt, ?_, ?_⟩
    · simp only [ma_up]
      simp [hn, nI_1, nI_pred, vI]
      try rw [nI_1, nI_pred]
    · simp only [up_truck]
      simp [ma_up, hn, nI_1]
  · have hnn : n = 12 := by
      rw [hn] at q1
      have h9 : ¬ n < 12 := fun h9 => q1 (nI_lt h9 (by decide))
      omega
    exact Go.thrown dBk_truck_40 dBk_truck_43 dBk_truck_44 dBk_truck_46 dBk_truck_49 twBk_truck_40 rfl (by omega) (Nat.le_of_ble_eq_true rfl) (Or.inr (Or.inl ⟨⟨ok1, ok2, ok3, ok4⟩, hnn, rfl, rfl⟩))
set_option maxHeartbeats 2000000 in
theorem g_Bk_door {sc : Nat × (Nat → Int32)} {d bc bs : Nat} {h : AH} (s : SB h) {n : Nat} (hn : h.1 4 0 4 = nI n) (hle : n ≤ 4) (a b c : Int32) : Go sc true false (d + 9) (bc + 4) (bs + 24) mBk_door 0 [vO 4 0, vI a, vI b, vI c, vU] [] h (rMake (ok_door a b c) n 4 (up_door h.1 n a b c) h) := by
  refine Go.iload_n dBk_door_0 rfl ?_
  refine Go.iconst (v := 1) dBk_door_1 (by decide) ?_
  refine Go.sipush (v := 255) dBk_door_2 (by decide) ?_
  refine Go.callSx mBk_requireRange [vI a, vI 1, vI 255] dBk_door_5 vwBk_52 rfl rfl (Nat.le_of_ble_eq_true rfl) rfl (Nat.le_of_ble_eq_true rfl) rfl (by decide) (g_Bk_requireRange a 1 255) (fun ok1 => ?_) (fun ok1 => Or.inr (Or.inr ⟨fun z => ok1 z.1, rfl, rfl⟩))
  refine Go.iload_n dBk_door_8 rfl ?_
  refine Go.iconst (v := 0) dBk_door_9 (by decide) ?_
  refine Go.sipush (v := 2000) dBk_door_10 (by decide) ?_
  refine Go.callSx mBk_requireRange [vI b, vI 0, vI 2000] dBk_door_13 vwBk_52 rfl rfl (Nat.le_of_ble_eq_true rfl) rfl (Nat.le_of_ble_eq_true rfl) rfl (by decide) (g_Bk_requireRange b 0 2000) (fun ok2 => ?_) (fun ok2 => Or.inr (Or.inr ⟨fun z => ok2 z.2.1, rfl, rfl⟩))
  refine Go.iload_n dBk_door_16 rfl ?_
  refine Go.iload_n dBk_door_17 rfl ?_
  refine Go.iconst (v := 1) dBk_door_18 (by decide) ?_
  refine Go.iadd dBk_door_19 ?_
  refine Go.sipush (v := 2000) dBk_door_20 (by decide) ?_
  refine Go.callSx mBk_requireRange [vI c, vI (b + 1), vI 2000] dBk_door_23 vwBk_52 rfl rfl (Nat.le_of_ble_eq_true rfl) rfl (Nat.le_of_ble_eq_true rfl) rfl (by decide) (g_Bk_requireRange c (b + 1) 2000) (fun ok3 => ?_) (fun ok3 => Or.inr (Or.inr ⟨fun z => ok3 z.2.2, rfl, rfl⟩))
  refine Go.aload_n dBk_door_26 rfl (Nat.ne_of_beq_eq_false rfl) ?_
  refine Go.getI dBk_door_27 flBk_31 (Nat.le_of_ble_eq_true rfl) rfl ?_
  refine Go.iconst (v := 4) dBk_door_30 (by decide) ?_
  refine Go.icmp_lt (tgt := 44) dBk_door_31 (by decide) (fun q1 => ?_) (fun q1 => ?_)
  · refine Go.aload_n dBk_door_44 rfl (Nat.ne_of_beq_eq_false rfl) ?_
    refine Go.getR dBk_door_45 flBk_11 (Nat.le_of_ble_eq_true rfl) rfl s.doors ?_
    refine Go.aload_n dBk_door_48 rfl (Nat.ne_of_beq_eq_false rfl) ?_
    refine Go.getI dBk_door_49 flBk_31 (Nat.le_of_ble_eq_true rfl) rfl ?_
    have hlt : n < 4 := by
      rw [hn] at q1
      exact (nI_ltI (b := 4) (by omega) (by decide)).mp q1
    refine Go.aald dBk_door_52 (by decide) rfl hn (by rw [s.ldoors]; omega) (by omega) (s.door (by omega)) ?_
    refine Go.astore dBk_door_53 (by decide) rfl ?_
    refine Go.aload dBk_door_55 rfl (Nat.ne_of_beq_eq_false rfl) ?_
    refine Go.iload_n dBk_door_57 rfl ?_
    refine Go.putI dBk_door_58 fwBk_door_63 (Nat.le_of_ble_eq_true rfl) rfl ⟨rfl, rfl⟩ ?_
    refine Go.aload dBk_door_61 rfl (Nat.ne_of_beq_eq_false rfl) ?_
    refine Go.iload_n dBk_door_63 rfl ?_
    refine Go.putI dBk_door_64 fwBk_door_66 (Nat.le_of_ble_eq_true rfl) rfl ⟨rfl, rfl⟩ ?_
    refine Go.aload dBk_door_67 rfl (Nat.ne_of_beq_eq_false rfl) ?_
    refine Go.iload_n dBk_door_69 rfl ?_
    refine Go.putI dBk_door_70 fwBk_door_69 (Nat.le_of_ble_eq_true rfl) rfl ⟨rfl, rfl⟩ ?_
    refine Go.aload_n dBk_door_73 rfl (Nat.ne_of_beq_eq_false rfl) ?_
    refine Go.dup trivial dBk_door_74 ?_
    refine Go.getI dBk_door_75 flBk_31 (Nat.le_of_ble_eq_true rfl) rfl ?_
    refine Go.iconst (v := 1) dBk_door_78 (by decide) ?_
    refine Go.iadd dBk_door_79 ?_
    refine Go.putI dBk_door_80 fwBk_door_31 (Nat.le_of_ble_eq_true rfl) rfl ⟨rfl, rfl⟩ ?_
    refine Go.aload_n dBk_door_83 rfl (Nat.ne_of_beq_eq_false rfl) ?_
    refine Go.getI dBk_door_84 flBk_31 (Nat.le_of_ble_eq_true rfl) rfl ?_
    refine Go.iconst (v := 1) dBk_door_87 (by decide) ?_
    refine Go.isub dBk_door_88 ?_
    refine Go.iret dBk_door_89 rfl rfl (by decide) ?_
    refine Or.inl ⟨⟨ok1, ok2, ok3⟩, hlt, ?_, ?_⟩
    · simp only [ma_up]
      simp [hn, nI_1, nI_pred, vI]
      try rw [nI_1, nI_pred]
    · simp only [up_door]
      simp [ma_up, hn, nI_1]
  · have hnn : n = 4 := by
      rw [hn] at q1
      have h9 : ¬ n < 4 := fun h9 => q1 (nI_lt h9 (by decide))
      omega
    exact Go.thrown dBk_door_34 dBk_door_37 dBk_door_38 dBk_door_40 dBk_door_43 twBk_door_34 rfl (by omega) (Nat.le_of_ble_eq_true rfl) (Or.inr (Or.inl ⟨⟨ok1, ok2, ok3⟩, hnn, rfl, rfl⟩))
def rAct (n : Nat) (x : Int32) (h : AH) (P : Nat → GO → AH → Prop) : GO → AH → Prop := fun g h' => (∃ j, j < n ∧ x = nI j ∧ P j g h') ∨ ((x < 0 ∨ nI n ≤ x) ∧ g = .inr 3 ∧ h' = h)
set_option maxHeartbeats 2000000 in
theorem g_Bk_cancel {sc : Nat × (Nat → Int32)} {d bc bs : Nat} {h : AH} (s : SB h) {n : Nat} (hn : h.1 4 0 5 = nI n) (hle : n ≤ 12) (x : Int32) : Go sc true false (d + 9) (bc + 2) (bs + 12) mBk_cancel 0 [vO 4 0, vI x, vU] [] h (rAct n x h (fun j g h' => (h.1 3 j 5 = 0 ∧ g = .inl none ∧ h' = (ma_up (ma_up (ma_up h.1 3 j 5 3) 3 j 6 (-1)) 3 j 7 (-1), h.2)) ∨ (¬ h.1 3 j 5 = 0 ∧ g = .inr 4 ∧ h' = h))) := by
  refine Go.aload_n dBk_cancel_0 rfl (Nat.ne_of_beq_eq_false rfl) ?_
  refine Go.iload_n dBk_cancel_1 rfl ?_
  refine Go.callVj mBk_truckNumbered [vI x] dBk_cancel_2 vwBk_114 (Nat.le_of_ble_eq_true rfl) rfl rfl (Nat.le_of_ble_eq_true rfl) rfl (Nat.le_of_ble_eq_true rfl) rfl (by decide) (g_Bk_truckNumbered s hn hle x) (fun j hj hx => ?_) (fun q => Or.inr ⟨q, rfl, rfl⟩)
  refine Go.astore_n dBk_cancel_5 (by decide) rfl ?_
  refine Go.aload_n dBk_cancel_6 rfl (Nat.ne_of_beq_eq_false rfl) ?_
  refine Go.iconst (v := 0) dBk_cancel_7 (by decide) ?_
  refine Go.callSx mBk_requireState [vO 3 j, vI 0] dBk_cancel_8 vwBk_149 rfl rfl (Nat.le_of_ble_eq_true rfl) rfl (Nat.le_of_ble_eq_true rfl) rfl (by decide) (g_Bk_requireState j 0) (fun ok => ?_) (fun ok => Or.inl ⟨j, hj, hx, Or.inr ⟨ok, rfl, rfl⟩⟩)
  refine Go.aload_n dBk_cancel_11 rfl (Nat.ne_of_beq_eq_false rfl) ?_
  refine Go.iconst (v := 3) dBk_cancel_12 (by decide) ?_
  refine Go.putI dBk_cancel_13 fwBk_cancel_107 (Nat.le_of_ble_eq_true rfl) rfl ⟨rfl, rfl⟩ ?_
  refine Go.aload_n dBk_cancel_16 rfl (Nat.ne_of_beq_eq_false rfl) ?_
  refine Go.iconst (v := (-1)) dBk_cancel_17 (by decide) ?_
  refine Go.iconst (v := (-1)) dBk_cancel_18 (by decide) ?_
  refine Go.callVn mTr_setPlan [vI (-1), vI (-1)] dBk_cancel_19 vwBk_165 (Nat.le_of_ble_eq_true rfl) rfl rfl (Nat.le_of_ble_eq_true rfl) rfl (Nat.le_of_ble_eq_true rfl) (g_Tr_setPlan j (-1) (-1)) ?_
  refine Go.vret dBk_cancel_22 rfl (by decide) ?_
  exact Or.inl ⟨j, hj, hx, Or.inl ⟨ok, rfl, rfl⟩⟩
def sp_told (m : Nat → Nat → Nat → Int32) (j : Nat) (w : Int32) : Int32 := if w = 0 then m 3 j 5 else if w = 1 then m 3 j 6 else if w = 2 then m 3 j 7 else if w = 3 then m 3 j 2 else if w = 4 then m 3 j 3 else if w = 5 then m 3 j 4 else if w = 6 then m 3 j 1 else if m 3 j 13 = -1 then -1 else m 3 j 13 - m 3 j 2
set_option maxHeartbeats 2000000 in
theorem g_Bk_told {sc : Nat × (Nat → Int32)} {d bc bs : Nat} {h : AH} (s : SB h) {n : Nat} (hn : h.1 4 0 5 = nI n) (hle : n ≤ 12) (x v : Int32) : Go sc true true (d + 9) (bc + 2) (bs + 12) mBk_told 0 [vO 4 0, vI x, vI v, vU] [] h (rAct n x h (fun j g h' => h' = h ∧ (((0 ≤ v.toInt ∧ v.toInt ≤ 7) ∧ g = .inl (some (vI (sp_told h.1 j v)))) ∨ (¬ (0 ≤ v.toInt ∧ v.toInt ≤ 7) ∧ g = .inr 1)))) := by
  refine Go.aload_n dBk_told_0 rfl (Nat.ne_of_beq_eq_false rfl) ?_
  refine Go.iload_n dBk_told_1 rfl ?_
  refine Go.callVj mBk_truckNumbered [vI x] dBk_told_2 vwBk_114 (Nat.le_of_ble_eq_true rfl) rfl rfl (Nat.le_of_ble_eq_true rfl) rfl (Nat.le_of_ble_eq_true rfl) rfl (by decide) (g_Bk_truckNumbered s hn hle x) (fun j hj hx => ?_) (fun q => Or.inr ⟨q, rfl, rfl⟩)
  refine Go.astore_n dBk_told_5 (by decide) rfl ?_
  refine Go.iload_n dBk_told_6 rfl ?_
  rcases sw8 v with qs | rfl | rfl | rfl | rfl | rfl | rfl | rfl | rfl
  · refine Go.tabOut (tgt := 109) dBk_told_7 qs (by decide) ?_
    exact Go.thrown dBk_told_109 dBk_told_112 dBk_told_113 dBk_told_115 dBk_told_118 twBk_told_109 rfl (by omega) (Nat.le_of_ble_eq_true rfl) (Or.inl ⟨j, hj, hx, rfl, Or.inr ⟨by omega, rfl⟩⟩)
  · refine Go.tabIn (off := 45) (tgt := 52) dBk_told_7 (by decide) (by decide) rfl (by decide) ?_
    refine Go.aload_n dBk_told_52 rfl (Nat.ne_of_beq_eq_false rfl) ?_
    refine Go.getI dBk_told_53 flBk_107 (Nat.le_of_ble_eq_true rfl) rfl ?_
    refine Go.iret dBk_told_56 rfl rfl (by decide) ?_
    refine Or.inl ⟨j, hj, hx, rfl, Or.inl ⟨by decide, ?_⟩⟩
    first
      | rfl
      | (simp [sp_told, q1]; done)
      | (unfold sp_told; simp_all)
  · refine Go.tabIn (off := 50) (tgt := 57) dBk_told_7 (by decide) (by decide) rfl (by decide) ?_
    refine Go.aload_n dBk_told_57 rfl (Nat.ne_of_beq_eq_false rfl) ?_
    refine Go.getI dBk_told_58 flBk_127 (Nat.le_of_ble_eq_true rfl) rfl ?_
    refine Go.iret dBk_told_61 rfl rfl (by decide) ?_
    refine Or.inl ⟨j, hj, hx, rfl, Or.inl ⟨by decide, ?_⟩⟩
    first
      | rfl
      | (simp [sp_told, q1]; done)
      | (unfold sp_told; simp_all)
  · refine Go.tabIn (off := 55) (tgt := 62) dBk_told_7 (by decide) (by decide) rfl (by decide) ?_
    refine Go.aload_n dBk_told_62 rfl (Nat.ne_of_beq_eq_false rfl) ?_
    refine Go.getI dBk_told_63 flBk_134 (Nat.le_of_ble_eq_true rfl) rfl ?_
    refine Go.iret dBk_told_66 rfl rfl (by decide) ?_
    refine Or.inl ⟨j, hj, hx, rfl, Or.inl ⟨by decide, ?_⟩⟩
    first
      | rfl
      | (simp [sp_told, q1]; done)
      | (unfold sp_told; simp_all)
  · refine Go.tabIn (off := 60) (tgt := 67) dBk_told_7 (by decide) (by decide) rfl (by decide) ?_
    refine Go.aload_n dBk_told_67 rfl (Nat.ne_of_beq_eq_false rfl) ?_
    refine Go.getI dBk_told_68 flBk_77 (Nat.le_of_ble_eq_true rfl) rfl ?_
    refine Go.iret dBk_told_71 rfl rfl (by decide) ?_
    refine Or.inl ⟨j, hj, hx, rfl, Or.inl ⟨by decide, ?_⟩⟩
    first
      | rfl
      | (simp [sp_told, q1]; done)
      | (unfold sp_told; simp_all)
  · refine Go.tabIn (off := 65) (tgt := 72) dBk_told_7 (by decide) (by decide) rfl (by decide) ?_
    refine Go.aload_n dBk_told_72 rfl (Nat.ne_of_beq_eq_false rfl) ?_
    refine Go.getI dBk_told_73 flBk_80 (Nat.le_of_ble_eq_true rfl) rfl ?_
    refine Go.iret dBk_told_76 rfl rfl (by decide) ?_
    refine Or.inl ⟨j, hj, hx, rfl, Or.inl ⟨by decide, ?_⟩⟩
    first
      | rfl
      | (simp [sp_told, q1]; done)
      | (unfold sp_told; simp_all)
  · refine Go.tabIn (off := 70) (tgt := 77) dBk_told_7 (by decide) (by decide) rfl (by decide) ?_
    refine Go.aload_n dBk_told_77 rfl (Nat.ne_of_beq_eq_false rfl) ?_
    refine Go.getI dBk_told_78 flBk_83 (Nat.le_of_ble_eq_true rfl) rfl ?_
    refine Go.iret dBk_told_81 rfl rfl (by decide) ?_
    refine Or.inl ⟨j, hj, hx, rfl, Or.inl ⟨by decide, ?_⟩⟩
    first
      | rfl
      | (simp [sp_told, q1]; done)
      | (unfold sp_told; simp_all)
  · refine Go.tabIn (off := 75) (tgt := 82) dBk_told_7 (by decide) (by decide) rfl (by decide) ?_
    refine Go.aload_n dBk_told_82 rfl (Nat.ne_of_beq_eq_false rfl) ?_
    refine Go.getI dBk_told_83 flBk_74 (Nat.le_of_ble_eq_true rfl) rfl ?_
    refine Go.iret dBk_told_86 rfl rfl (by decide) ?_
    refine Or.inl ⟨j, hj, hx, rfl, Or.inl ⟨by decide, ?_⟩⟩
    first
      | rfl
      | (simp [sp_told, q1]; done)
      | (unfold sp_told; simp_all)
  · refine Go.tabIn (off := 80) (tgt := 87) dBk_told_7 (by decide) (by decide) rfl (by decide) ?_
    refine Go.aload_n dBk_told_87 rfl (Nat.ne_of_beq_eq_false rfl) ?_
    refine Go.getI dBk_told_88 flBk_159 (Nat.le_of_ble_eq_true rfl) rfl ?_
    refine Go.iconst (v := (-1)) dBk_told_91 (by decide) ?_
    refine Go.icmp_ne (tgt := 99) dBk_told_92 (by decide) (fun q1 => ?_) (fun q1 => ?_)
    · refine Go.aload_n dBk_told_99 rfl (Nat.ne_of_beq_eq_false rfl) ?_
      refine Go.getI dBk_told_100 flBk_159 (Nat.le_of_ble_eq_true rfl) rfl ?_
      refine Go.aload_n dBk_told_103 rfl (Nat.ne_of_beq_eq_false rfl) ?_
      refine Go.getI dBk_told_104 flBk_77 (Nat.le_of_ble_eq_true rfl) rfl ?_
      refine Go.isub dBk_told_107 ?_
      refine Go.iret dBk_told_108 rfl rfl (by decide) ?_
      refine Or.inl ⟨j, hj, hx, rfl, Or.inl ⟨by decide, ?_⟩⟩
      first
        | rfl
        | (simp [sp_told, q1]; done)
        | (unfold sp_told; simp_all)
    · refine Go.iconst (v := (-1)) dBk_told_95 (by decide) ?_
      refine Go.goto (tgt := 108) dBk_told_96 (by decide) ?_
      refine Go.iret dBk_told_108 rfl rfl (by decide) ?_
      refine Or.inl ⟨j, hj, hx, rfl, Or.inl ⟨by decide, ?_⟩⟩
      first
        | rfl
        | (simp [sp_told, q1]; done)
        | (unfold sp_told; simp_all)
