/-! THE BOOK, 8: the rest of its calls -/
set_option maxHeartbeats 2000000 in
theorem lp_Bk_plannedBefore_4 {sc : Nat × (Nat → Int32)} {d bc bs : Nat} {nd nt : Nat} {nw : Int32} {h0 : AH} {h : AH} {Q : GO → AH → Prop} (j : Nat) (K : KB ((nd, nt), nw) h0 h) (kont0 : ∀ (n : Int32) (z3 z4 z5 : AV), Go sc true true (d + 1) bc bs mBk_plannedBefore 94 [vO 4 (0), vO 3 (j), vI n, z3, z4, z5] [] h Q) : ∀ (k0 : Nat) (t : Nat) (n : Int32) (z4 z5 : AV), (t ≤ nt) → nt - t ≤ k0 → Go sc true true (d + 1) bc bs mBk_plannedBefore 4 [vO 4 (0), vO 3 (j), vI n, vI (nI (t)), z4, z5] [] h Q := by
  intro k0
  induction k0 using Nat.strongRecOn with
  | _ k0 ih =>
    intro t n z4 z5 ht hk0
    have b_nd : nd ≤ 4 := K.doors_le
    have b_nt : nt ≤ 12 := K.trucks_le
    refine Go.iload_n dBk_plannedBefore_4 rfl ?_
    refine Go.aload_n dBk_plannedBefore_5 rfl (Nat.ne_of_beq_eq_false rfl) ?_
    refine Go.getIv (v := nI (nt)) dBk_plannedBefore_6 flBk_35 (Nat.le_of_ble_eq_true rfl) rfl K.trucks ?_
    refine Go.icmp_ge (tgt := 94) dBk_plannedBefore_9 (by decide) (fun q1 => ?_) (fun q1 => ?_)
    · replace q1 := tle q1 (by omega) (by omega)
      exact (kont0  _ _ _ _ )
    · replace q1 := tnle q1 (by omega) (by omega)
      refine Go.aload_n dBk_plannedBefore_12 rfl (Nat.ne_of_beq_eq_false rfl) ?_
      refine Go.getR dBk_plannedBefore_13 flBk_17 (Nat.le_of_ble_eq_true rfl) rfl K.sb.trucks ?_
      refine Go.iload_n dBk_plannedBefore_16 rfl ?_
      refine Go.aald (jn := t) dBk_plannedBefore_17 (by decide) rfl rfl (Nat.lt_of_lt_of_eq (by omega) (K.sb.ltrucks).symm) (by omega) (K.sb.truck (by omega)) ?_
      refine Go.astore dBk_plannedBefore_18 (by decide) rfl ?_
      have J3 : ∀ x4 : Int32, Go sc true true (d + 1) bc bs mBk_plannedBefore 61 [vO 4 (0), vO 3 (j), vI n, vI (nI (t)), vO 3 (t), z5] [vI x4] h (Q) := by
        intro x4
        refine Go.istore dBk_plannedBefore_61 (by decide) rfl ?_
        refine Go.iload_n dBk_plannedBefore_63 rfl ?_
        refine Go.aload dBk_plannedBefore_64 rfl (Nat.ne_of_beq_eq_false rfl) ?_
        refine Go.aload_n dBk_plannedBefore_66 rfl (Nat.ne_of_beq_eq_false rfl) ?_
        refine Go.getI dBk_plannedBefore_67 flBk_127 (Nat.le_of_ble_eq_true rfl) rfl ?_
        refine Go.cVv mTr_isPlannedFor [vI _] dBk_plannedBefore_70 vwBk_174 (Nat.le_of_ble_eq_true rfl) rfl rfl (Nat.le_of_ble_eq_true rfl) rfl (Nat.le_of_ble_eq_true rfl) (g_Tr_isPlannedFor (t) _) (fun v5 _ => ?_)
        refine Go.if_eq (tgt := 85) dBk_plannedBefore_73 (by decide) (fun q6 => ?_) (fun q6 => ?_)
        · refine Go.iconst (v := nI 0) dBk_plannedBefore_85 (by decide) ?_
          refine Go.iadd dBk_plannedBefore_86 ?_
          refine Go.istore_n dBk_plannedBefore_87 (by decide) rfl ?_
          refine Go.iinc (v := nI (t + 1)) dBk_plannedBefore_88 (by decide) rfl (nI_inc _) rfl ?_
          refine Go.goto (tgt := 4) dBk_plannedBefore_91 (by decide) ?_
          exact (ih (nt - ((t + 1))) (by omega) ((t + 1)) _ _ _ (by omega) (Nat.le_refl _))
        · refine Go.iload dBk_plannedBefore_76 rfl ?_
          refine Go.if_eq (tgt := 85) dBk_plannedBefore_78 (by decide) (fun q7 => ?_) (fun q7 => ?_)
          · refine Go.iconst (v := nI 0) dBk_plannedBefore_85 (by decide) ?_
            refine Go.iadd dBk_plannedBefore_86 ?_
            refine Go.istore_n dBk_plannedBefore_87 (by decide) rfl ?_
            refine Go.iinc (v := nI (t + 1)) dBk_plannedBefore_88 (by decide) rfl (nI_inc _) rfl ?_
            refine Go.goto (tgt := 4) dBk_plannedBefore_91 (by decide) ?_
            exact (ih (nt - ((t + 1))) (by omega) ((t + 1)) _ _ _ (by omega) (Nat.le_refl _))
          · refine Go.iconst (v := nI 1) dBk_plannedBefore_81 (by decide) ?_
            refine Go.goto (tgt := 86) dBk_plannedBefore_82 (by decide) ?_
            refine Go.iadd dBk_plannedBefore_86 ?_
            refine Go.istore_n dBk_plannedBefore_87 (by decide) rfl ?_
            refine Go.iinc (v := nI (t + 1)) dBk_plannedBefore_88 (by decide) rfl (nI_inc _) rfl ?_
            refine Go.goto (tgt := 4) dBk_plannedBefore_91 (by decide) ?_
            exact (ih (nt - ((t + 1))) (by omega) ((t + 1)) _ _ _ (by omega) (Nat.le_refl _))
      refine Go.aload dBk_plannedBefore_20 rfl (Nat.ne_of_beq_eq_false rfl) ?_
      refine Go.getI dBk_plannedBefore_22 flBk_134 (Nat.le_of_ble_eq_true rfl) rfl ?_
      refine Go.aload_n dBk_plannedBefore_25 rfl (Nat.ne_of_beq_eq_false rfl) ?_
      refine Go.getI dBk_plannedBefore_26 flBk_134 (Nat.le_of_ble_eq_true rfl) rfl ?_
      refine Go.icmp_lt (tgt := 56) dBk_plannedBefore_29 (by decide) (fun q8 => ?_) (fun q8 => ?_)
      · refine Go.iconst (v := nI 1) dBk_plannedBefore_56 (by decide) ?_
        refine Go.goto (tgt := 61) dBk_plannedBefore_57 (by decide) ?_
        exact (J3 _)
      · refine Go.aload dBk_plannedBefore_32 rfl (Nat.ne_of_beq_eq_false rfl) ?_
        refine Go.getI dBk_plannedBefore_34 flBk_134 (Nat.le_of_ble_eq_true rfl) rfl ?_
        refine Go.aload_n dBk_plannedBefore_37 rfl (Nat.ne_of_beq_eq_false rfl) ?_
        refine Go.getI dBk_plannedBefore_38 flBk_134 (Nat.le_of_ble_eq_true rfl) rfl ?_
        refine Go.icmp_ne (tgt := 60) dBk_plannedBefore_41 (by decide) (fun q9 => ?_) (fun q9 => ?_)
        · refine Go.iconst (v := nI 0) dBk_plannedBefore_60 (by decide) ?_
          exact (J3 _)
        · refine Go.aload dBk_plannedBefore_44 rfl (Nat.ne_of_beq_eq_false rfl) ?_
          refine Go.getI dBk_plannedBefore_46 flBk_207 (Nat.le_of_ble_eq_true rfl) rfl ?_
          refine Go.aload_n dBk_plannedBefore_49 rfl (Nat.ne_of_beq_eq_false rfl) ?_
          refine Go.getI dBk_plannedBefore_50 flBk_207 (Nat.le_of_ble_eq_true rfl) rfl ?_
          refine Go.icmp_ge (tgt := 60) dBk_plannedBefore_53 (by decide) (fun q10 => ?_) (fun q10 => ?_)
          · refine Go.iconst (v := nI 0) dBk_plannedBefore_60 (by decide) ?_
            exact (J3 _)
          · refine Go.iconst (v := nI 1) dBk_plannedBefore_56 (by decide) ?_
            refine Go.goto (tgt := 61) dBk_plannedBefore_57 (by decide) ?_
            exact (J3 _)
set_option maxHeartbeats 2000000 in
theorem g_Bk_plannedBefore {sc : Nat × (Nat → Int32)} {d bc bs : Nat} {nd nt : Nat} {nw : Int32} {h0 : AH} {h : AH} (K : KB ((nd, nt), nw) h0 h) (j : Nat) : Go sc true true (d + 1) bc bs mBk_plannedBefore 0 [vO 4 (0), vO 3 (j), vU, vU, vU, vU] [] h (rP (fun _ => True) h) := by
  have b_nd : nd ≤ 4 := K.doors_le
  have b_nt : nt ≤ 12 := K.trucks_le
  refine Go.iconst (v := nI 0) dBk_plannedBefore_0 (by decide) ?_
  refine Go.istore_n dBk_plannedBefore_1 (by decide) rfl ?_
  refine Go.iconst (v := nI 0) dBk_plannedBefore_2 (by decide) ?_
  refine Go.istore_n dBk_plannedBefore_3 (by decide) rfl ?_
  refine (lp_Bk_plannedBefore_4 _ K (fun n11 z311 z411 z511 => ?_) _ (0) _ _ _ (by omega) (Nat.le_refl _))
  refine Go.iload_n dBk_plannedBefore_94 rfl ?_
  refine Go.iret dBk_plannedBefore_95 rfl rfl (by decide) ?_
  exact ⟨_, rfl, trivial, rfl⟩
set_option maxHeartbeats 2000000 in
theorem lp_Bk_order_8 {sc : Nat × (Nat → Int32)} {d bc bs : Nat} {nd nt : Nat} {nw : Int32} {h0 : AH} {h : AH} {Q : GO → AH → Prop} (x y : Int32) (hret : ∀ v : Int32, Q (.inl (some (vI v))) h) (K : KB ((nd, nt), nw) h0 h) (kont0 : ∀ (z : AV), Go sc true true (d + 8) bc bs mBk_order 51 [vO 4 (0), vI x, vI y, z] [] h Q) : ∀ (k0 : Nat) (t : Nat), (t ≤ nt) → nt - t ≤ k0 → Go sc true true (d + 8) bc bs mBk_order 8 [vO 4 (0), vI x, vI y, vI (nI (t))] [] h Q := by
  intro k0
  induction k0 using Nat.strongRecOn with
  | _ k0 ih =>
    intro t ht hk0
    have b_nd : nd ≤ 4 := K.doors_le
    have b_nt : nt ≤ 12 := K.trucks_le
    refine Go.iload_n dBk_order_8 rfl ?_
    refine Go.aload_n dBk_order_9 rfl (Nat.ne_of_beq_eq_false rfl) ?_
    refine Go.getIv (v := nI (nt)) dBk_order_10 flBk_35 (Nat.le_of_ble_eq_true rfl) rfl K.trucks ?_
    refine Go.icmp_ge (tgt := 51) dBk_order_13 (by decide) (fun q12 => ?_) (fun q12 => ?_)
    · replace q12 := tle q12 (by omega) (by omega)
      exact (kont0  _ )
    · replace q12 := tnle q12 (by omega) (by omega)
      refine Go.aload_n dBk_order_16 rfl (Nat.ne_of_beq_eq_false rfl) ?_
      refine Go.getR dBk_order_17 flBk_17 (Nat.le_of_ble_eq_true rfl) rfl K.sb.trucks ?_
      refine Go.iload_n dBk_order_20 rfl ?_
      refine Go.aald (jn := t) dBk_order_21 (by decide) rfl rfl (Nat.lt_of_lt_of_eq (by omega) (K.sb.ltrucks).symm) (by omega) (K.sb.truck (by omega)) ?_
      refine Go.iload_n dBk_order_22 rfl ?_
      refine Go.cVv mTr_isPlannedFor [vI x] dBk_order_23 vwBk_174 (Nat.le_of_ble_eq_true rfl) rfl rfl (Nat.le_of_ble_eq_true rfl) rfl (Nat.le_of_ble_eq_true rfl) (g_Tr_isPlannedFor (t) _) (fun v14 _ => ?_)
      refine Go.if_eq (tgt := 45) dBk_order_26 (by decide) (fun q15 => ?_) (fun q15 => ?_)
      · refine Go.iinc (v := nI (t + 1)) dBk_order_45 (by decide) rfl (nI_inc _) rfl ?_
        refine Go.goto (tgt := 8) dBk_order_48 (by decide) ?_
        exact (ih (nt - ((t + 1))) (by omega) ((t + 1))  (by omega) (Nat.le_refl _))
      · refine Go.aload_n dBk_order_29 rfl (Nat.ne_of_beq_eq_false rfl) ?_
        refine Go.aload_n dBk_order_30 rfl (Nat.ne_of_beq_eq_false rfl) ?_
        refine Go.getR dBk_order_31 flBk_17 (Nat.le_of_ble_eq_true rfl) rfl K.sb.trucks ?_
        refine Go.iload_n dBk_order_34 rfl ?_
        refine Go.aald (jn := t) dBk_order_35 (by decide) rfl rfl (Nat.lt_of_lt_of_eq (by omega) (K.sb.ltrucks).symm) (by omega) (K.sb.truck (by omega)) ?_
        refine Go.cVo mBk_plannedBefore [vO 3 (t)] dBk_order_36 vwBk_178 (Nat.le_of_ble_eq_true rfl) rfl rfl (Nat.le_of_ble_eq_true rfl) rfl (Nat.le_of_ble_eq_true rfl) (g_Bk_plannedBefore K (t)) (fun v17 _ => ?_)
        refine Go.iload_n dBk_order_39 rfl ?_
        refine Go.icmp_ne (tgt := 45) dBk_order_40 (by decide) (fun q18 => ?_) (fun q18 => ?_)
        · refine Go.iinc (v := nI (t + 1)) dBk_order_45 (by decide) rfl (nI_inc _) rfl ?_
          refine Go.goto (tgt := 8) dBk_order_48 (by decide) ?_
          exact (ih (nt - ((t + 1))) (by omega) ((t + 1))  (by omega) (Nat.le_refl _))
        · refine Go.iload_n dBk_order_43 rfl ?_
          refine Go.iret dBk_order_44 rfl rfl (by decide) ?_
          exact hret _
set_option maxHeartbeats 2000000 in
theorem g_Bk_order {sc : Nat × (Nat → Int32)} {d bc bs : Nat} {nd nt : Nat} {nw : Int32} {h0 : AH} {h : AH} (K : KB ((nd, nt), nw) h0 h) (x y : Int32) : Go sc true true (d + 9) (bc + 2) (bs + 12) mBk_order 0 [vO 4 (0), vI x, vI y, vU] [] h (OB (KB ((nd, nt), nw) h0) h [3]) := by
  have b_nd : nd ≤ 4 := K.doors_le
  have b_nt : nt ≤ 12 := K.trucks_le
  refine Go.aload_n dBk_order_0 rfl (Nat.ne_of_beq_eq_false rfl) ?_
  refine Go.iload_n dBk_order_1 rfl ?_
  refine Go.callVj mBk_doorNumbered [vI x] dBk_order_2 vwBk_130 (Nat.le_of_ble_eq_true rfl) rfl rfl (Nat.le_of_ble_eq_true rfl) rfl (Nat.le_of_ble_eq_true rfl) rfl (by decide) (g_Bk_doorNumbered K.sb K.doors K.doors_le _) (fun j hj hxj => ?_) (fun _ => Or.inr ⟨3, by simp, rfl, rfl⟩)
  refine Go.pop trivial dBk_order_5 ?_
  refine Go.iconst (v := nI 0) dBk_order_6 (by decide) ?_
  refine Go.istore_n dBk_order_7 (by decide) rfl ?_
  refine (lp_Bk_order_8 _ _ (fun _ => Or.inl ⟨_, rfl, K⟩) K (fun z19 => ?_) _ (0)  (by omega) (Nat.le_refl _))
  exact Go.thrown dBk_order_51 dBk_order_54 dBk_order_55 dBk_order_57 dBk_order_60 twBk_order_51 rfl (by omega) (Nat.le_of_ble_eq_true rfl) (Or.inr ⟨3, by simp, rfl, rfl⟩)
set_option maxHeartbeats 2000000 in
theorem g_Bk_known {sc : Nat × (Nat → Int32)} {d bc bs : Nat} {nd nt : Nat} {nw : Int32} {h0 : AH} {h : AH} (K : KB ((nd, nt), nw) h0 h) (x y : Int32) : Go sc true true (d + 9) (bc + 2) (bs + 12) mBk_known 0 [vO 4 (0), vI x, vI y, vU] [] h (OB (KB ((nd, nt), nw) h0) h [3, 1]) := by
  have b_nd : nd ≤ 4 := K.doors_le
  have b_nt : nt ≤ 12 := K.trucks_le
  refine Go.aload_n dBk_known_0 rfl (Nat.ne_of_beq_eq_false rfl) ?_
  refine Go.iload_n dBk_known_1 rfl ?_
  refine Go.callVj mBk_doorNumbered [vI x] dBk_known_2 vwBk_130 (Nat.le_of_ble_eq_true rfl) rfl rfl (Nat.le_of_ble_eq_true rfl) rfl (Nat.le_of_ble_eq_true rfl) rfl (by decide) (g_Bk_doorNumbered K.sb K.doors K.doors_le _) (fun j hj hxj => ?_) (fun _ => Or.inr ⟨3, by simp, rfl, rfl⟩)
  refine Go.astore_n dBk_known_5 (by decide) rfl ?_
  refine Go.iload_n dBk_known_6 rfl ?_
  rcases sw5 (y) with qs | qs | qs | qs | qs | qs
  · refine Go.tabOut (tgt := 74) dBk_known_7 qs (by decide) ?_
    exact Go.thrown dBk_known_74 dBk_known_77 dBk_known_78 dBk_known_80 dBk_known_83 twBk_known_74 rfl (by omega) (Nat.le_of_ble_eq_true rfl) (Or.inr ⟨1, by simp, rfl, rfl⟩)
  · rw [qs]
    refine Go.tabIn (off := 33) (tgt := 40) dBk_known_7 (by decide) (by decide) rfl (by decide) ?_
    refine Go.aload_n dBk_known_40 rfl (Nat.ne_of_beq_eq_false rfl) ?_
    refine Go.getI dBk_known_41 flBk_137 (Nat.le_of_ble_eq_true rfl) rfl ?_
    refine Go.iret dBk_known_44 rfl rfl (by decide) ?_
    exact Or.inl ⟨_, rfl, K⟩
  · rw [qs]
    refine Go.tabIn (off := 38) (tgt := 45) dBk_known_7 (by decide) (by decide) rfl (by decide) ?_
    refine Go.aload_n dBk_known_45 rfl (Nat.ne_of_beq_eq_false rfl) ?_
    refine Go.getI dBk_known_46 flBk_169 (Nat.le_of_ble_eq_true rfl) rfl ?_
    refine Go.if_eq (tgt := 56) dBk_known_49 (by decide) (fun q20 => ?_) (fun q20 => ?_)
    · refine Go.iconst (v := nI 0) dBk_known_56 (by decide) ?_
      refine Go.iret dBk_known_57 rfl rfl (by decide) ?_
      exact Or.inl ⟨_, rfl, K⟩
    · refine Go.iconst (v := nI 1) dBk_known_52 (by decide) ?_
      refine Go.goto (tgt := 57) dBk_known_53 (by decide) ?_
      refine Go.iret dBk_known_57 rfl rfl (by decide) ?_
      exact Or.inl ⟨_, rfl, K⟩
  · rw [qs]
    refine Go.tabIn (off := 51) (tgt := 58) dBk_known_7 (by decide) (by decide) rfl (by decide) ?_
    refine Go.aload_n dBk_known_58 rfl (Nat.ne_of_beq_eq_false rfl) ?_
    refine Go.iload_n dBk_known_59 rfl ?_
    refine Go.cVv mBk_plannedFor [vI x] dBk_known_60 vwBk_191 (Nat.le_of_ble_eq_true rfl) rfl rfl (Nat.le_of_ble_eq_true rfl) rfl (Nat.le_of_ble_eq_true rfl) (g_Bk_plannedFor K.sb K.trucks K.trucks_le _) (fun v21 _ => ?_)
    refine Go.iret dBk_known_63 rfl rfl (by decide) ?_
    exact Or.inl ⟨_, rfl, K⟩
  · rw [qs]
    refine Go.tabIn (off := 57) (tgt := 64) dBk_known_7 (by decide) (by decide) rfl (by decide) ?_
    refine Go.aload_n dBk_known_64 rfl (Nat.ne_of_beq_eq_false rfl) ?_
    refine Go.getI dBk_known_65 flBk_63 (Nat.le_of_ble_eq_true rfl) rfl ?_
    refine Go.iret dBk_known_68 rfl rfl (by decide) ?_
    exact Or.inl ⟨_, rfl, K⟩
  · rw [qs]
    refine Go.tabIn (off := 62) (tgt := 69) dBk_known_7 (by decide) (by decide) rfl (by decide) ?_
    refine Go.aload_n dBk_known_69 rfl (Nat.ne_of_beq_eq_false rfl) ?_
    refine Go.getI dBk_known_70 flBk_162 (Nat.le_of_ble_eq_true rfl) rfl ?_
    refine Go.iret dBk_known_73 rfl rfl (by decide) ?_
    exact Or.inl ⟨_, rfl, K⟩
set_option maxHeartbeats 2000000 in
theorem g_Bk_mayBeCalled {sc : Nat × (Nat → Int32)} {d bc bs : Nat} {nd nt : Nat} {nw : Int32} {h0 : AH} {h : AH} (K : KB ((nd, nt), nw) h0 h) (j : Nat) : Go sc true true (d + 9) (bc + 1) (bs + 6) mBk_mayBeCalled 0 [vO 4 (0), vO 3 (j), vU] [] h (rPT (fun _ => True) 3 h) := by
  have b_nd : nd ≤ 4 := K.doors_le
  have b_nt : nt ≤ 12 := K.trucks_le
  refine Go.aload_n dBk_mayBeCalled_0 rfl (Nat.ne_of_beq_eq_false rfl) ?_
  refine Go.getI dBk_mayBeCalled_1 flBk_107 (Nat.le_of_ble_eq_true rfl) rfl ?_
  refine Go.if_ne (tgt := 26) dBk_mayBeCalled_4 (by decide) (fun q22 => ?_) (fun q22 => ?_)
  · refine Go.iconst (v := nI 0) dBk_mayBeCalled_26 (by decide) ?_
    refine Go.iret dBk_mayBeCalled_27 rfl rfl (by decide) ?_
    exact ⟨rfl, Or.inl ⟨_, trivial, rfl⟩⟩
  · refine Go.aload_n dBk_mayBeCalled_7 rfl (Nat.ne_of_beq_eq_false rfl) ?_
    refine Go.getI dBk_mayBeCalled_8 flBk_127 (Nat.le_of_ble_eq_true rfl) rfl ?_
    refine Go.iconst (v := -1) dBk_mayBeCalled_11 (by decide) ?_
    refine Go.icmp_eq (tgt := 26) dBk_mayBeCalled_12 (by decide) (fun q23 => ?_) (fun q23 => ?_)
    · refine Go.iconst (v := nI 0) dBk_mayBeCalled_26 (by decide) ?_
      refine Go.iret dBk_mayBeCalled_27 rfl rfl (by decide) ?_
      exact ⟨rfl, Or.inl ⟨_, trivial, rfl⟩⟩
    · refine Go.aload_n dBk_mayBeCalled_15 rfl (Nat.ne_of_beq_eq_false rfl) ?_
      refine Go.getI dBk_mayBeCalled_16 flBk_134 (Nat.le_of_ble_eq_true rfl) rfl ?_
      refine Go.aload_n dBk_mayBeCalled_19 rfl (Nat.ne_of_beq_eq_false rfl) ?_
      refine Go.getIv (v := (nw)) dBk_mayBeCalled_20 flBk_38 (Nat.le_of_ble_eq_true rfl) rfl K.now ?_
      refine Go.icmp_le (tgt := 28) dBk_mayBeCalled_23 (by decide) (fun q24 => ?_) (fun q24 => ?_)
      · refine Go.aload_n dBk_mayBeCalled_28 rfl (Nat.ne_of_beq_eq_false rfl) ?_
        refine Go.aload_n dBk_mayBeCalled_29 rfl (Nat.ne_of_beq_eq_false rfl) ?_
        refine Go.getI dBk_mayBeCalled_30 flBk_127 (Nat.le_of_ble_eq_true rfl) rfl ?_
        refine Go.callVj mBk_doorNumbered [vI _] dBk_mayBeCalled_33 vwBk_130 (Nat.le_of_ble_eq_true rfl) rfl rfl (Nat.le_of_ble_eq_true rfl) rfl (Nat.le_of_ble_eq_true rfl) rfl (by decide) (g_Bk_doorNumbered K.sb K.doors K.doors_le _) (fun i hi hxi => ?_) (fun _ => ⟨rfl, Or.inr rfl⟩)
        refine Go.astore_n dBk_mayBeCalled_36 (by decide) rfl ?_
        refine Go.aload_n dBk_mayBeCalled_37 rfl (Nat.ne_of_beq_eq_false rfl) ?_
        refine Go.getI dBk_mayBeCalled_38 flBk_169 (Nat.le_of_ble_eq_true rfl) rfl ?_
        refine Go.if_ne (tgt := 72) dBk_mayBeCalled_41 (by decide) (fun q25 => ?_) (fun q25 => ?_)
        · refine Go.iconst (v := nI 0) dBk_mayBeCalled_72 (by decide) ?_
          refine Go.iret dBk_mayBeCalled_73 rfl rfl (by decide) ?_
          exact ⟨rfl, Or.inl ⟨_, trivial, rfl⟩⟩
        · refine Go.aload_n dBk_mayBeCalled_44 rfl (Nat.ne_of_beq_eq_false rfl) ?_
          refine Go.getI dBk_mayBeCalled_45 flBk_137 (Nat.le_of_ble_eq_true rfl) rfl ?_
          refine Go.iconst (v := -1) dBk_mayBeCalled_48 (by decide) ?_
          refine Go.icmp_ne (tgt := 72) dBk_mayBeCalled_49 (by decide) (fun q26 => ?_) (fun q26 => ?_)
          · refine Go.iconst (v := nI 0) dBk_mayBeCalled_72 (by decide) ?_
            refine Go.iret dBk_mayBeCalled_73 rfl rfl (by decide) ?_
            exact ⟨rfl, Or.inl ⟨_, trivial, rfl⟩⟩
          · refine Go.aload_n dBk_mayBeCalled_52 rfl (Nat.ne_of_beq_eq_false rfl) ?_
            refine Go.getIv (v := (nw)) dBk_mayBeCalled_53 flBk_38 (Nat.le_of_ble_eq_true rfl) rfl K.now ?_
            refine Go.aload_n dBk_mayBeCalled_56 rfl (Nat.ne_of_beq_eq_false rfl) ?_
            refine Go.getI dBk_mayBeCalled_57 flBk_80 (Nat.le_of_ble_eq_true rfl) rfl ?_
            refine Go.iadd dBk_mayBeCalled_60 ?_
            refine Go.aload_n dBk_mayBeCalled_61 rfl (Nat.ne_of_beq_eq_false rfl) ?_
            refine Go.getI dBk_mayBeCalled_62 flBk_69 (Nat.le_of_ble_eq_true rfl) rfl ?_
            refine Go.icmp_gt (tgt := 72) dBk_mayBeCalled_65 (by decide) (fun q27 => ?_) (fun q27 => ?_)
            · refine Go.iconst (v := nI 0) dBk_mayBeCalled_72 (by decide) ?_
              refine Go.iret dBk_mayBeCalled_73 rfl rfl (by decide) ?_
              exact ⟨rfl, Or.inl ⟨_, trivial, rfl⟩⟩
            · refine Go.iconst (v := nI 1) dBk_mayBeCalled_68 (by decide) ?_
              refine Go.goto (tgt := 73) dBk_mayBeCalled_69 (by decide) ?_
              refine Go.iret dBk_mayBeCalled_73 rfl rfl (by decide) ?_
              exact ⟨rfl, Or.inl ⟨_, trivial, rfl⟩⟩
      · refine Go.iconst (v := nI 0) dBk_mayBeCalled_26 (by decide) ?_
        refine Go.iret dBk_mayBeCalled_27 rfl rfl (by decide) ?_
        exact ⟨rfl, Or.inl ⟨_, trivial, rfl⟩⟩
set_option maxHeartbeats 2000000 in
theorem g_Bk_call {sc : Nat × (Nat → Int32)} {d bc bs : Nat} {nd nt : Nat} {nw : Int32} {h0 : AH} {h : AH} (K : KB ((nd, nt), nw) h0 h) (x : Int32) : Go sc true false (d + 10) (bc + 4) (bs + 24) mBk_call 0 [vO 4 (0), vI x, vU, vU] [] h (ON (KB ((nd, nt), nw) h0) h [3, 4]) := by
  have b_nd : nd ≤ 4 := K.doors_le
  have b_nt : nt ≤ 12 := K.trucks_le
  refine Go.aload_n dBk_call_0 rfl (Nat.ne_of_beq_eq_false rfl) ?_
  refine Go.iload_n dBk_call_1 rfl ?_
  refine Go.callVj mBk_truckNumbered [vI x] dBk_call_2 vwBk_114 (Nat.le_of_ble_eq_true rfl) rfl rfl (Nat.le_of_ble_eq_true rfl) rfl (Nat.le_of_ble_eq_true rfl) rfl (by decide) (g_Bk_truckNumbered K.sb K.trucks K.trucks_le _) (fun j hj hx => ?_) (fun _ => Or.inr ⟨3, by simp, rfl, rfl⟩)
  refine Go.astore_n dBk_call_5 (by decide) rfl ?_
  refine Go.aload_n dBk_call_6 rfl (Nat.ne_of_beq_eq_false rfl) ?_
  refine Go.aload_n dBk_call_7 rfl (Nat.ne_of_beq_eq_false rfl) ?_
  refine Go.cVt mBk_mayBeCalled [vO 3 (j)] dBk_call_8 vwBk_118 (Nat.le_of_ble_eq_true rfl) rfl rfl (Nat.le_of_ble_eq_true rfl) rfl (Nat.le_of_ble_eq_true rfl) rfl (by decide) (g_Bk_mayBeCalled K j) (fun v28 _ => ?_) (Or.inr ⟨3, by simp, rfl, rfl⟩)
  refine Go.if_ne (tgt := 24) dBk_call_11 (by decide) (fun q29 => ?_) (fun q29 => ?_)
  · refine Go.aload_n dBk_call_24 rfl (Nat.ne_of_beq_eq_false rfl) ?_
    refine Go.aload_n dBk_call_25 rfl (Nat.ne_of_beq_eq_false rfl) ?_
    refine Go.getI dBk_call_26 flBk_127 (Nat.le_of_ble_eq_true rfl) rfl ?_
    refine Go.callVj mBk_doorNumbered [vI _] dBk_call_29 vwBk_130 (Nat.le_of_ble_eq_true rfl) rfl rfl (Nat.le_of_ble_eq_true rfl) rfl (Nat.le_of_ble_eq_true rfl) rfl (by decide) (g_Bk_doorNumbered K.sb K.doors K.doors_le _) (fun i hi hxi => ?_) (fun _ => Or.inr ⟨3, by simp, rfl, rfl⟩)
    refine Go.astore_n dBk_call_32 (by decide) rfl ?_
    refine Go.aload_n dBk_call_33 rfl (Nat.ne_of_beq_eq_false rfl) ?_
    refine Go.iconst (v := nI 1) dBk_call_34 (by decide) ?_
    refine Go.putI dBk_call_35 fwBk_call_107 (Nat.le_of_ble_eq_true rfl) rfl ⟨rfl, rfl⟩ ?_
    refine Go.hav (Kp := KB ((nd, nt), nw) h0) (K.up (by omega)) (fun hh1 K => ?_)
    refine Go.aload_n dBk_call_38 rfl (Nat.ne_of_beq_eq_false rfl) ?_
    refine Go.aload_n dBk_call_39 rfl (Nat.ne_of_beq_eq_false rfl) ?_
    refine Go.getIv (v := (nw)) dBk_call_40 flBk_38 (Nat.le_of_ble_eq_true rfl) rfl K.now ?_
    refine Go.putI dBk_call_43 fwBk_call_134 (Nat.le_of_ble_eq_true rfl) rfl ⟨rfl, rfl⟩ ?_
    refine Go.hav (Kp := KB ((nd, nt), nw) h0) (K.up (by omega)) (fun hh2 K => ?_)
    refine Go.aload_n dBk_call_46 rfl (Nat.ne_of_beq_eq_false rfl) ?_
    refine Go.iload_n dBk_call_47 rfl ?_
    refine Go.putI dBk_call_48 fwBk_call_137 (Nat.le_of_ble_eq_true rfl) rfl ⟨rfl, rfl⟩ ?_
    refine Go.hav (Kp := KB ((nd, nt), nw) h0) (K.up (by omega)) (fun hh3 K => ?_)
    refine Go.aload_n dBk_call_51 rfl (Nat.ne_of_beq_eq_false rfl) ?_
    refine Go.aload_n dBk_call_52 rfl (Nat.ne_of_beq_eq_false rfl) ?_
    refine Go.getIv (v := (nw)) dBk_call_53 flBk_38 (Nat.le_of_ble_eq_true rfl) rfl K.now ?_
    refine Go.aload_n dBk_call_56 rfl (Nat.ne_of_beq_eq_false rfl) ?_
    refine Go.getI dBk_call_57 flBk_80 (Nat.le_of_ble_eq_true rfl) rfl ?_
    refine Go.iadd dBk_call_60 ?_
    refine Go.putI dBk_call_61 fwBk_call_140 (Nat.le_of_ble_eq_true rfl) rfl ⟨rfl, rfl⟩ ?_
    refine Go.hav (Kp := KB ((nd, nt), nw) h0) (K.up (by omega)) (fun hh4 K => ?_)
    refine Go.vret dBk_call_64 rfl (by decide) ?_
    exact Or.inl ⟨rfl, K⟩
  · exact Go.thrown dBk_call_14 dBk_call_17 dBk_call_18 dBk_call_20 dBk_call_23 twBk_call_14 rfl (by omega) (Nat.le_of_ble_eq_true rfl) (Or.inr ⟨4, by simp, rfl, rfl⟩)
set_option maxHeartbeats 2000000 in
theorem g_Bk_depart {sc : Nat × (Nat → Int32)} {d bc bs : Nat} {nd nt : Nat} {nw : Int32} {h0 : AH} {h : AH} (K : KB ((nd, nt), nw) h0 h) (x : Int32) : Go sc true false (d + 9) (bc + 3) (bs + 18) mBk_depart 0 [vO 4 (0), vI x, vU, vU] [] h (OB (KB ((nd, nt), nw) h0) h [3, 4]) := by
  have b_nd : nd ≤ 4 := K.doors_le
  have b_nt : nt ≤ 12 := K.trucks_le
  refine Go.aload_n dBk_depart_0 rfl (Nat.ne_of_beq_eq_false rfl) ?_
  refine Go.iload_n dBk_depart_1 rfl ?_
  refine Go.callVj mBk_truckNumbered [vI x] dBk_depart_2 vwBk_114 (Nat.le_of_ble_eq_true rfl) rfl rfl (Nat.le_of_ble_eq_true rfl) rfl (Nat.le_of_ble_eq_true rfl) rfl (by decide) (g_Bk_truckNumbered K.sb K.trucks K.trucks_le _) (fun j hj hx => ?_) (fun _ => Or.inr ⟨3, by simp, rfl, rfl⟩)
  refine Go.astore_n dBk_depart_5 (by decide) rfl ?_
  refine Go.aload_n dBk_depart_6 rfl (Nat.ne_of_beq_eq_false rfl) ?_
  refine Go.iconst (v := nI 1) dBk_depart_7 (by decide) ?_
  refine Go.callSx mBk_requireState [vO 3 (j), vI (nI (1))] dBk_depart_8 vwBk_149 rfl rfl (Nat.le_of_ble_eq_true rfl) rfl (Nat.le_of_ble_eq_true rfl) rfl (by decide) (g_Bk_requireState j _) (fun ok => ?_) (fun ok => Or.inr ⟨4, by simp, rfl, rfl⟩)
  refine Go.aload_n dBk_depart_11 rfl (Nat.ne_of_beq_eq_false rfl) ?_
  refine Go.getI dBk_depart_12 flBk_156 (Nat.le_of_ble_eq_true rfl) rfl ?_
  refine Go.if_ne (tgt := 20) dBk_depart_15 (by decide) (fun q30 => ?_) (fun q30 => ?_)
  · refine Go.aload_n dBk_depart_20 rfl (Nat.ne_of_beq_eq_false rfl) ?_
    refine Go.getI dBk_depart_21 flBk_153 (Nat.le_of_ble_eq_true rfl) rfl ?_
    refine Go.if_ne (tgt := 29) dBk_depart_24 (by decide) (fun q31 => ?_) (fun q31 => ?_)
    · refine Go.aload_n dBk_depart_29 rfl (Nat.ne_of_beq_eq_false rfl) ?_
      refine Go.getI dBk_depart_30 flBk_134 (Nat.le_of_ble_eq_true rfl) rfl ?_
      refine Go.aload_n dBk_depart_33 rfl (Nat.ne_of_beq_eq_false rfl) ?_
      refine Go.getI dBk_depart_34 flBk_80 (Nat.le_of_ble_eq_true rfl) rfl ?_
      refine Go.iadd dBk_depart_37 ?_
      refine Go.aload_n dBk_depart_38 rfl (Nat.ne_of_beq_eq_false rfl) ?_
      refine Go.getIv (v := (nw)) dBk_depart_39 flBk_38 (Nat.le_of_ble_eq_true rfl) rfl K.now ?_
      refine Go.icmp_le (tgt := 47) dBk_depart_42 (by decide) (fun q32 => ?_) (fun q32 => ?_)
      · refine Go.aload_n dBk_depart_47 rfl (Nat.ne_of_beq_eq_false rfl) ?_
        refine Go.aload_n dBk_depart_48 rfl (Nat.ne_of_beq_eq_false rfl) ?_
        refine Go.getI dBk_depart_49 flBk_127 (Nat.le_of_ble_eq_true rfl) rfl ?_
        refine Go.callVj mBk_doorNumbered [vI _] dBk_depart_52 vwBk_130 (Nat.le_of_ble_eq_true rfl) rfl rfl (Nat.le_of_ble_eq_true rfl) rfl (Nat.le_of_ble_eq_true rfl) rfl (by decide) (g_Bk_doorNumbered K.sb K.doors K.doors_le _) (fun i hi hxi => ?_) (fun _ => Or.inr ⟨3, by simp, rfl, rfl⟩)
        refine Go.astore_n dBk_depart_55 (by decide) rfl ?_
        refine Go.aload_n dBk_depart_56 rfl (Nat.ne_of_beq_eq_false rfl) ?_
        refine Go.iconst (v := nI 2) dBk_depart_57 (by decide) ?_
        refine Go.putI dBk_depart_58 fwBk_depart_107 (Nat.le_of_ble_eq_true rfl) rfl ⟨rfl, rfl⟩ ?_
        refine Go.hav (Kp := KB ((nd, nt), nw) h0) (K.up (by omega)) (fun hh5 K => ?_)
        refine Go.aload_n dBk_depart_61 rfl (Nat.ne_of_beq_eq_false rfl) ?_
        refine Go.aload_n dBk_depart_62 rfl (Nat.ne_of_beq_eq_false rfl) ?_
        refine Go.getIv (v := (nw)) dBk_depart_63 flBk_38 (Nat.le_of_ble_eq_true rfl) rfl K.now ?_
        refine Go.putI dBk_depart_66 fwBk_depart_159 (Nat.le_of_ble_eq_true rfl) rfl ⟨rfl, rfl⟩ ?_
        refine Go.hav (Kp := KB ((nd, nt), nw) h0) (K.up (by omega)) (fun hh6 K => ?_)
        refine Go.aload_n dBk_depart_69 rfl (Nat.ne_of_beq_eq_false rfl) ?_
        refine Go.iconst (v := -1) dBk_depart_70 (by decide) ?_
        refine Go.putI dBk_depart_71 fwBk_depart_137 (Nat.le_of_ble_eq_true rfl) rfl ⟨rfl, rfl⟩ ?_
        refine Go.hav (Kp := KB ((nd, nt), nw) h0) (K.up (by omega)) (fun hh7 K => ?_)
        refine Go.aload_n dBk_depart_74 rfl (Nat.ne_of_beq_eq_false rfl) ?_
        refine Go.iconst (v := nI 0) dBk_depart_75 (by decide) ?_
        refine Go.putI dBk_depart_76 fwBk_depart_140 (Nat.le_of_ble_eq_true rfl) rfl ⟨rfl, rfl⟩ ?_
        refine Go.hav (Kp := KB ((nd, nt), nw) h0) (K.up (by omega)) (fun hh8 K => ?_)
        refine Go.aload_n dBk_depart_79 rfl (Nat.ne_of_beq_eq_false rfl) ?_
        refine Go.dup trivial dBk_depart_80 ?_
        refine Go.getI dBk_depart_81 flBk_162 (Nat.le_of_ble_eq_true rfl) rfl ?_
        refine Go.iconst (v := nI 1) dBk_depart_84 (by decide) ?_
        refine Go.iadd dBk_depart_85 ?_
        refine Go.putI dBk_depart_86 fwBk_depart_162 (Nat.le_of_ble_eq_true rfl) rfl ⟨rfl, rfl⟩ ?_
        refine Go.hav (Kp := KB ((nd, nt), nw) h0) (K.up (by omega)) (fun hh9 K => ?_)
        refine Go.iconst (v := nI 1) dBk_depart_89 (by decide) ?_
        refine Go.iret dBk_depart_90 rfl rfl (by decide) ?_
        exact Or.inl ⟨_, rfl, K⟩
      · refine Go.iconst (v := nI 4) dBk_depart_45 (by decide) ?_
        refine Go.iret dBk_depart_46 rfl rfl (by decide) ?_
        exact Or.inl ⟨_, rfl, K⟩
    · refine Go.iconst (v := nI 3) dBk_depart_27 (by decide) ?_
      refine Go.iret dBk_depart_28 rfl rfl (by decide) ?_
      exact Or.inl ⟨_, rfl, K⟩
  · refine Go.iconst (v := nI 2) dBk_depart_18 (by decide) ?_
    refine Go.iret dBk_depart_19 rfl rfl (by decide) ?_
    exact Or.inl ⟨_, rfl, K⟩
set_option maxHeartbeats 2000000 in
theorem lp_Bk_out_35 {sc : Nat × (Nat → Int32)} {d bc bs : Nat} {nd nt : Nat} {nw : Int32} {h0 : AH} {Q : GO → AH → Prop} (x y : Int32) (j : Nat) (kont0 : ∀ (n : Int32) (z : AV) (h1 : AH), (KB ((nd, nt), nw) h0 h1) → Go sc false false (d + 9) bc bs mBk_out 79 [vO 4 (0), vI x, vI y, vO 0 (j), vI n, z] [] h1 Q) : ∀ (k0 : Nat) (t : Nat) (n : Int32) (h : AH), KB ((nd, nt), nw) h0 h → (t ≤ nt) → nt - t ≤ k0 → Go sc false false (d + 9) bc bs mBk_out 35 [vO 4 (0), vI x, vI y, vO 0 (j), vI n, vI (nI (t))] [] h Q := by
  intro k0
  induction k0 using Nat.strongRecOn with
  | _ k0 ih =>
    intro t n h K ht hk0
    have b_nd : nd ≤ 4 := K.doors_le
    have b_nt : nt ≤ 12 := K.trucks_le
    refine Go.iload dBk_out_35 rfl ?_
    refine Go.aload_n dBk_out_37 rfl (Nat.ne_of_beq_eq_false rfl) ?_
    refine Go.getIv (v := nI (nt)) dBk_out_38 flBk_35 (Nat.le_of_ble_eq_true rfl) rfl K.trucks ?_
    refine Go.icmp_ge (tgt := 79) dBk_out_41 (by decide) (fun q33 => ?_) (fun q33 => ?_)
    · replace q33 := tle q33 (by omega) (by omega)
      exact Go.weak (kont0  _ _ _ K )
    · replace q33 := tnle q33 (by omega) (by omega)
      refine Go.aload_n dBk_out_44 rfl (Nat.ne_of_beq_eq_false rfl) ?_
      refine Go.getR dBk_out_45 flBk_17 (Nat.le_of_ble_eq_true rfl) rfl K.sb.trucks ?_
      refine Go.iload dBk_out_48 rfl ?_
      refine Go.aald (jn := t) dBk_out_50 (by decide) rfl rfl (Nat.lt_of_lt_of_eq (by omega) (K.sb.ltrucks).symm) (by omega) (K.sb.truck (by omega)) ?_
      refine Go.iload_n dBk_out_51 rfl ?_
      refine Go.cVv mTr_isPlannedFor [vI x] dBk_out_52 vwBk_174 (Nat.le_of_ble_eq_true rfl) rfl rfl (Nat.le_of_ble_eq_true rfl) rfl (Nat.le_of_ble_eq_true rfl) (g_Tr_isPlannedFor (t) _) (fun v35 _ => ?_)
      refine Go.if_eq (tgt := 73) dBk_out_55 (by decide) (fun q36 => ?_) (fun q36 => ?_)
      · refine Go.iinc (v := nI (t + 1)) dBk_out_73 (by decide) rfl (nI_inc _) rfl ?_
        refine Go.goto (tgt := 35) dBk_out_76 (by decide) ?_
        exact Go.weak (ih (nt - ((t + 1))) (by omega) ((t + 1)) _ _ K (by omega) (Nat.le_refl _))
      · refine Go.aload_n dBk_out_58 rfl (Nat.ne_of_beq_eq_false rfl) ?_
        refine Go.getR dBk_out_59 flBk_17 (Nat.le_of_ble_eq_true rfl) rfl K.sb.trucks ?_
        refine Go.iload dBk_out_62 rfl ?_
        refine Go.aald (jn := t) dBk_out_64 (by decide) rfl rfl (Nat.lt_of_lt_of_eq (by omega) (K.sb.ltrucks).symm) (by omega) (K.sb.truck (by omega)) ?_
        refine Go.iconst (v := -1) dBk_out_65 (by decide) ?_
        refine Go.iconst (v := -1) dBk_out_66 (by decide) ?_
        refine Go.cVf mTr_setPlan [vI (-1), vI (-1)] dBk_out_67 vwBk_165 (Nat.le_of_ble_eq_true rfl) rfl rfl (Nat.le_of_ble_eq_true rfl) rfl (Nat.le_of_ble_eq_true rfl) (g_Tr_setPlan (t) _ _) ?_
        refine Go.hav (Kp := KB ((nd, nt), nw) h0) ((K.up (by omega)).up (by omega)) (fun hh10 K => ?_)
        refine Go.iinc dBk_out_70 (by decide) rfl rfl rfl ?_
        refine Go.iinc (v := nI (t + 1)) dBk_out_73 (by decide) rfl (nI_inc _) rfl ?_
        refine Go.goto (tgt := 35) dBk_out_76 (by decide) ?_
        exact Go.weak (ih (nt - ((t + 1))) (by omega) ((t + 1)) _ _ K (by omega) (Nat.le_refl _))
set_option maxHeartbeats 2000000 in
theorem g_Bk_out {sc : Nat × (Nat → Int32)} {d bc bs : Nat} {nd nt : Nat} {nw : Int32} {h0 : AH} {h : AH} (K : KB ((nd, nt), nw) h0 h) (x y : Int32) (hy : y = 0 ∨ y = 1) : Go sc true false (d + 9) (bc + 2) (bs + 12) mBk_out 0 [vO 4 (0), vI x, vI y, vU, vU, vU] [] h (OB (KB ((nd, nt), nw) h0) h [3, 4]) := by
  have b_nd : nd ≤ 4 := K.doors_le
  have b_nt : nt ≤ 12 := K.trucks_le
  refine Go.aload_n dBk_out_0 rfl (Nat.ne_of_beq_eq_false rfl) ?_
  refine Go.iload_n dBk_out_1 rfl ?_
  refine Go.callVj mBk_doorNumbered [vI x] dBk_out_2 vwBk_130 (Nat.le_of_ble_eq_true rfl) rfl rfl (Nat.le_of_ble_eq_true rfl) rfl (Nat.le_of_ble_eq_true rfl) rfl (by decide) (g_Bk_doorNumbered K.sb K.doors K.doors_le _) (fun j hj hxj => ?_) (fun _ => Or.inr ⟨3, by simp, rfl, rfl⟩)
  refine Go.astore_n dBk_out_5 (by decide) rfl ?_
  refine Go.aload_n dBk_out_6 rfl (Nat.ne_of_beq_eq_false rfl) ?_
  refine Go.getI dBk_out_7 flBk_169 (Nat.le_of_ble_eq_true rfl) rfl ?_
  refine Go.iload_n dBk_out_10 rfl ?_
  refine Go.icmp_ne (tgt := 24) dBk_out_11 (by decide) (fun q38 => ?_) (fun q38 => ?_)
  · refine Go.aload_n dBk_out_24 rfl (Nat.ne_of_beq_eq_false rfl) ?_
    refine Go.iload_n dBk_out_25 rfl ?_
    refine Go.putI dBk_out_26 fwBk_out_169 (Nat.le_of_ble_eq_true rfl) rfl (by rcases hy with z | z <;> rw [z] <;> exact ⟨rfl, rfl⟩) ?_
    refine Go.hav (Kp := KB ((nd, nt), nw) h0) (K.up (by omega)) (fun hh11 K => ?_)
    refine Go.iconst (v := nI 0) dBk_out_29 (by decide) ?_
    refine Go.istore dBk_out_30 (by decide) rfl ?_
    refine Go.iconst (v := nI 0) dBk_out_32 (by decide) ?_
    refine Go.istore dBk_out_33 (by decide) rfl ?_
    refine Go.weak (lp_Bk_out_35 _ _ j (fun n39 z39 h39 K => ?_) _ (0) _ _ K (by omega) (Nat.le_refl _))
    refine Go.iload dBk_out_79 rfl ?_
    refine Go.iret dBk_out_81 rfl rfl (by decide) ?_
    exact Or.inl ⟨_, rfl, K⟩
  · exact Go.thrown dBk_out_14 dBk_out_17 dBk_out_18 dBk_out_20 dBk_out_23 twBk_out_14 rfl (by omega) (Nat.le_of_ble_eq_true rfl) (Or.inr ⟨4, by simp, rfl, rfl⟩)
