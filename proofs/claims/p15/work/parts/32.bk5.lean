/-! THE BOOK, 7: the exact plan; by rule; assign -/
set_option maxHeartbeats 2000000 in
theorem lp_Ch_planExactly_3 {sc : Nat × (Nat → Int32)} {d bc bs : Nat} {nd nt : Nat} {nw : Int32} {h0 : AH} {Q : GO → AH → Prop} (n : Nat) (x : Int32) (hn : n ≤ 5) (kont0 : ∀ (z6 z7 : AV) (h1 : AH), (KB ((nd, nt), nw) h0 h1) → Go sc false false (d + 15) bc bs mCh_planExactly 49 [vO 1 (0), vO 110 0, vI (nI (nd)), vO 113 1, vI (nI (n)), vI x, z6, z7] [] h1 Q) : ∀ (k0 : Nat) (t : Nat) (z7 : AV) (h : AH), KB ((nd, nt), nw) h0 h → (t ≤ nd) → nd - t ≤ k0 → Go sc false false (d + 15) bc bs mCh_planExactly 3 [vO 1 (0), vO 110 0, vI (nI (nd)), vO 113 1, vI (nI (n)), vI x, vI (nI (t)), z7] [] h Q := by
  intro k0
  induction k0 using Nat.strongRecOn with
  | _ k0 ih =>
    intro t z7 h K ht hk0
    have b_nd : nd ≤ 4 := K.doors_le
    have b_nt : nt ≤ 12 := K.trucks_le
    refine Go.iload dCh_planExactly_3 rfl ?_
    refine Go.iload_n dCh_planExactly_5 rfl ?_
    refine Go.icmp_ge (tgt := 49) dCh_planExactly_6 (by decide) (fun q1 => ?_) (fun q1 => ?_)
    · replace q1 := tle q1 (by omega) (by omega)
      exact Go.weak (kont0  _ _ _ K )
    · replace q1 := tnle q1 (by omega) (by omega)
      refine Go.aload_n dCh_planExactly_9 rfl (Nat.ne_of_beq_eq_false rfl) ?_
      refine Go.getR dCh_planExactly_10 flCh_11 (Nat.le_of_ble_eq_true rfl) rfl K.sc.orders ?_
      refine Go.iload dCh_planExactly_13 rfl ?_
      refine Go.aald (jn := t) dCh_planExactly_15 (by decide) rfl rfl (Nat.lt_of_lt_of_eq (by omega) (K.sc.lorders).symm) (by omega) (K.sc.order (t) (by omega)) ?_
      refine Go.aload_n dCh_planExactly_16 rfl (Nat.ne_of_beq_eq_false rfl) ?_
      refine Go.iload dCh_planExactly_17 rfl ?_
      refine Go.aald (jn := t) dCh_planExactly_19 (by decide) rfl rfl (Nat.lt_of_lt_of_eq (by omega) (K.sb.ldoors).symm) (by omega) (K.sb.door (by omega)) ?_
      refine Go.aload_n dCh_planExactly_20 rfl (Nat.ne_of_beq_eq_false rfl) ?_
      refine Go.iload dCh_planExactly_21 rfl ?_
      refine Go.aload_n dCh_planExactly_23 rfl (Nat.ne_of_beq_eq_false rfl) ?_
      refine Go.iload dCh_planExactly_24 rfl ?_
      refine Go.aald (jn := t) dCh_planExactly_26 (by decide) rfl rfl (Nat.lt_of_lt_of_eq (by omega) (K.sb.ldoors).symm) (by omega) (K.sb.door (by omega)) ?_
      refine Go.iload dCh_planExactly_27 rfl ?_
      refine Go.cVv mDo_readyAt [vI x] dCh_planExactly_29 vwCh_33 (Nat.le_of_ble_eq_true rfl) rfl rfl (Nat.le_of_ble_eq_true rfl) rfl (Nat.le_of_ble_eq_true rfl) (g_Do_readyAt (t) _) (fun v5 _ => ?_)
      refine Go.cVn mOr_findAll [vO 0 (t), vO 113 1, vI (nI (n)), vI v5] dCh_planExactly_32 vwCh_39 (Nat.le_of_ble_eq_true rfl) rfl rfl (Nat.le_of_ble_eq_true rfl) rfl (Nat.le_of_ble_eq_true rfl) (g_Or_findAll K (t) (t) (n) _ (by omega) (by omega) (by omega)) (fun hh1 K => ?_)
      refine Go.aload_n dCh_planExactly_35 rfl (Nat.ne_of_beq_eq_false rfl) ?_
      refine Go.getR dCh_planExactly_36 flCh_17 (Nat.le_of_ble_eq_true rfl) rfl K.sc.setAt ?_
      refine Go.iload dCh_planExactly_39 rfl ?_
      refine Go.iconst (v := nI 0) dCh_planExactly_41 (by decide) ?_
      refine Go.iast (jn := t) dCh_planExactly_42 rfl (Nat.lt_of_lt_of_eq (by omega) (K.sc.lsetAt).symm) (by omega) ?_
      refine Go.hav (Kp := KB ((nd, nt), nw) h0) (K.upSetAt ⟨0, by omega, rfl⟩) (fun hh2 K => ?_)
      refine Go.iinc (v := nI (t + 1)) dCh_planExactly_43 (by decide) rfl (nI_inc _) rfl ?_
      refine Go.goto (tgt := 3) dCh_planExactly_46 (by decide) ?_
      exact Go.weak (ih (nd - ((t + 1))) (by omega) ((t + 1)) _ _ K (by omega) (Nat.le_refl _))
set_option maxHeartbeats 2000000 in
theorem lp_Ch_planExactly_67 {sc : Nat × (Nat → Int32)} {d bc bs : Nat} {nd nt : Nat} {nw : Int32} {h0 : AH} {Q : GO → AH → Prop} (n : Nat) (x : Int32) (hn : n ≤ 5) (kont0 : ∀ (z6 z7 : AV) (h1 : AH), (KB ((nd, nt), nw) h0 h1) → Go sc false false (d + 15) bc bs mCh_planExactly 128 [vO 1 (0), vO 110 0, vI (nI (nd)), vO 113 1, vI (nI (n)), vI x, z6, z7] [] h1 Q) : ∀ (k0 : Nat) (t : Nat) (z7 : AV) (h : AH), KB ((nd, nt), nw) h0 h → (t ≤ n) → n - t ≤ k0 → Go sc false false (d + 15) bc bs mCh_planExactly 67 [vO 1 (0), vO 110 0, vI (nI (nd)), vO 113 1, vI (nI (n)), vI x, vI (nI (t)), z7] [] h Q := by
  intro k0
  induction k0 using Nat.strongRecOn with
  | _ k0 ih =>
    intro t z7 h K ht hk0
    have b_nd : nd ≤ 4 := K.doors_le
    have b_nt : nt ≤ 12 := K.trucks_le
    refine Go.iload dCh_planExactly_67 rfl ?_
    refine Go.iload dCh_planExactly_69 rfl ?_
    refine Go.icmp_ge (tgt := 128) dCh_planExactly_71 (by decide) (fun q6 => ?_) (fun q6 => ?_)
    · replace q6 := tle q6 (by omega) (by omega)
      exact Go.weak (kont0  _ _ _ K )
    · replace q6 := tnle q6 (by omega) (by omega)
      rcases K.bd t (by omega) with en | ⟨j, hj, en⟩
      · skip
        refine Go.aload_n dCh_planExactly_74 rfl (Nat.ne_of_beq_eq_false rfl) ?_
        refine Go.getR dCh_planExactly_75 flCh_24 (Nat.le_of_ble_eq_true rfl) rfl K.sc.best ?_
        refine Go.iload dCh_planExactly_78 rfl ?_
        refine Go.ialdv (v := (-1)) (jn := t) dCh_planExactly_80 rfl (Nat.lt_of_lt_of_eq (by omega) (K.sc.lbest).symm) (by omega) en ?_
        refine Go.istore dCh_planExactly_81 (by decide) rfl ?_
        refine Go.aload_n dCh_planExactly_83 rfl (Nat.ne_of_beq_eq_false rfl) ?_
        refine Go.iload dCh_planExactly_84 rfl ?_
        obtain ⟨j8, hj8, ej8⟩ := K.wait (t) (by omega)
        refine Go.aald (jn := t) dCh_planExactly_86 (by decide) rfl rfl (Nat.lt_of_lt_of_eq (by omega) (K.sb.lwait).symm) (by omega) ej8 ?_
        refine Go.iload dCh_planExactly_87 rfl ?_
        refine Go.iload dCh_planExactly_89 rfl ?_
        refine Go.iconst (v := -1) dCh_planExactly_91 (by decide) ?_
        refine Go.icmp_ne (tgt := 99) dCh_planExactly_92 (by decide) (fun q9 => ?_) (fun q9 => ?_)
        · exact absurd rfl q9
        · refine Go.iconst (v := -1) dCh_planExactly_95 (by decide) ?_
          refine Go.goto (tgt := 119) dCh_planExactly_96 (by decide) ?_
          refine Go.cVf mTr_setPlan [vI (-1), vI (-1)] dCh_planExactly_119 vwCh_54 (Nat.le_of_ble_eq_true rfl) rfl rfl (Nat.le_of_ble_eq_true rfl) rfl (Nat.le_of_ble_eq_true rfl) (g_Tr_setPlan (j8) _ _) ?_
          refine Go.hav (Kp := KB ((nd, nt), nw) h0) ((K.up (by omega)).up (by omega)) (fun hh3 K => ?_)
          refine Go.iinc (v := nI (t + 1)) dCh_planExactly_122 (by decide) rfl (nI_inc _) rfl ?_
          refine Go.goto (tgt := 67) dCh_planExactly_125 (by decide) ?_
          exact Go.weak (ih (n - ((t + 1))) (by omega) ((t + 1)) _ _ K (by omega) (Nat.le_refl _))
      · skip
        refine Go.aload_n dCh_planExactly_74 rfl (Nat.ne_of_beq_eq_false rfl) ?_
        refine Go.getR dCh_planExactly_75 flCh_24 (Nat.le_of_ble_eq_true rfl) rfl K.sc.best ?_
        refine Go.iload dCh_planExactly_78 rfl ?_
        refine Go.ialdv (v := nI (j)) (jn := t) dCh_planExactly_80 rfl (Nat.lt_of_lt_of_eq (by omega) (K.sc.lbest).symm) (by omega) en ?_
        refine Go.istore dCh_planExactly_81 (by decide) rfl ?_
        refine Go.aload_n dCh_planExactly_83 rfl (Nat.ne_of_beq_eq_false rfl) ?_
        refine Go.iload dCh_planExactly_84 rfl ?_
        obtain ⟨j11, hj11, ej11⟩ := K.wait (t) (by omega)
        refine Go.aald (jn := t) dCh_planExactly_86 (by decide) rfl rfl (Nat.lt_of_lt_of_eq (by omega) (K.sb.lwait).symm) (by omega) ej11 ?_
        refine Go.iload dCh_planExactly_87 rfl ?_
        refine Go.iload dCh_planExactly_89 rfl ?_
        refine Go.iconst (v := -1) dCh_planExactly_91 (by decide) ?_
        refine Go.icmp_ne (tgt := 99) dCh_planExactly_92 (by decide) (fun q12 => ?_) (fun q12 => ?_)
        · refine Go.aload_n dCh_planExactly_99 rfl (Nat.ne_of_beq_eq_false rfl) ?_
          refine Go.getR dCh_planExactly_100 flCh_11 (Nat.le_of_ble_eq_true rfl) rfl K.sc.orders ?_
          refine Go.iload dCh_planExactly_103 rfl ?_
          refine Go.aald (jn := j) dCh_planExactly_105 (by decide) rfl rfl (Nat.lt_of_lt_of_eq (by omega) (K.sc.lorders).symm) (by omega) (K.sc.order (j) (by omega)) ?_
          refine Go.aload_n dCh_planExactly_106 rfl (Nat.ne_of_beq_eq_false rfl) ?_
          refine Go.iload dCh_planExactly_107 rfl ?_
          refine Go.iload dCh_planExactly_109 rfl ?_
          refine Go.cVr mCh_bestSetAt [vI (nI (j)), vI (nI (n))] dCh_planExactly_111 vwCh_47 (Nat.le_of_ble_eq_true rfl) rfl rfl (Nat.le_of_ble_eq_true rfl) rfl (Nat.le_of_ble_eq_true rfl) (g_Ch_bestSetAt K _ (n) (by omega)) ?_
          rintro v14 ⟨s14, hs14, rfl⟩
          refine Go.iload dCh_planExactly_114 rfl ?_
          refine Go.cVr mOr_startIn [vI (nI (s14)), vI (nI (t))] dCh_planExactly_116 vwCh_51 (Nat.le_of_ble_eq_true rfl) rfl rfl (Nat.le_of_ble_eq_true rfl) rfl (Nat.le_of_ble_eq_true rfl) (g_Or_startIn K (j) (s14) (t) (by omega) (by omega) (by omega)) (fun v15 _ => ?_)
          refine Go.cVf mTr_setPlan [vI (nI (j)), vI v15] dCh_planExactly_119 vwCh_54 (Nat.le_of_ble_eq_true rfl) rfl rfl (Nat.le_of_ble_eq_true rfl) rfl (Nat.le_of_ble_eq_true rfl) (g_Tr_setPlan (j11) _ _) ?_
          refine Go.hav (Kp := KB ((nd, nt), nw) h0) ((K.up (by omega)).up (by omega)) (fun hh4 K => ?_)
          refine Go.iinc (v := nI (t + 1)) dCh_planExactly_122 (by decide) rfl (nI_inc _) rfl ?_
          refine Go.goto (tgt := 67) dCh_planExactly_125 (by decide) ?_
          exact Go.weak (ih (n - ((t + 1))) (by omega) ((t + 1)) _ _ K (by omega) (Nat.le_refl _))
        · refine Go.iconst (v := -1) dCh_planExactly_95 (by decide) ?_
          refine Go.goto (tgt := 119) dCh_planExactly_96 (by decide) ?_
          refine Go.cVf mTr_setPlan [vI (nI (j)), vI (-1)] dCh_planExactly_119 vwCh_54 (Nat.le_of_ble_eq_true rfl) rfl rfl (Nat.le_of_ble_eq_true rfl) rfl (Nat.le_of_ble_eq_true rfl) (g_Tr_setPlan (j11) _ _) ?_
          refine Go.hav (Kp := KB ((nd, nt), nw) h0) ((K.up (by omega)).up (by omega)) (fun hh5 K => ?_)
          refine Go.iinc (v := nI (t + 1)) dCh_planExactly_122 (by decide) rfl (nI_inc _) rfl ?_
          refine Go.goto (tgt := 67) dCh_planExactly_125 (by decide) ?_
          exact Go.weak (ih (n - ((t + 1))) (by omega) ((t + 1)) _ _ K (by omega) (Nat.le_refl _))
set_option maxHeartbeats 2000000 in
theorem g_Ch_planExactly {sc : Nat × (Nat → Int32)} {d bc bs : Nat} {nd nt : Nat} {nw : Int32} {h0 : AH} {h : AH} (K : KB ((nd, nt), nw) h0 h) (n : Nat) (x : Int32) (hn : n ≤ 5) : Go sc true false (d + 15) bc bs mCh_planExactly 0 [vO 1 (0), vO 110 0, vI (nI (nd)), vO 113 1, vI (nI (n)), vI x, vU, vU] [] h (PN (KB ((nd, nt), nw) h0)) := by
  have b_nd : nd ≤ 4 := K.doors_le
  have b_nt : nt ≤ 12 := K.trucks_le
  refine Go.iconst (v := nI 0) dCh_planExactly_0 (by decide) ?_
  refine Go.istore dCh_planExactly_1 (by decide) rfl ?_
  refine Go.weak (lp_Ch_planExactly_3 _ _ hn (fun z616 z716 h16 K => ?_) _ (0) _ _ K (by omega) (Nat.le_refl _))
  refine Go.aload_n dCh_planExactly_49 rfl (Nat.ne_of_beq_eq_false rfl) ?_
  refine Go.ldci dCh_planExactly_50 lcCh_27 ?_
  refine Go.putI dCh_planExactly_52 fwCh_planExactly_28 (Nat.le_of_ble_eq_true rfl) rfl ⟨rfl, rfl⟩ ?_
  refine Go.hav (Kp := KB ((nd, nt), nw) h0) (K.up (by omega)) (fun hh6 K => ?_)
  refine Go.aload_n dCh_planExactly_55 rfl (Nat.ne_of_beq_eq_false rfl) ?_
  refine Go.iload_n dCh_planExactly_56 rfl ?_
  refine Go.iload dCh_planExactly_57 rfl ?_
  refine Go.iconst (v := nI 0) dCh_planExactly_59 (by decide) ?_
  refine Go.iconst (v := nI 0) dCh_planExactly_60 (by decide) ?_
  refine Go.cVn mCh_choose [vI (nI (nd)), vI (nI (n)), vI (nI (0)), vI (nI (0))] dCh_planExactly_61 vwCh_43 (Nat.le_of_ble_eq_true rfl) rfl rfl (Nat.le_of_ble_eq_true rfl) rfl (Nat.le_of_ble_eq_true rfl) (g_Ch_choose nd n (by omega) hn n (d + 11) 0 _ _ K (by omega) (by omega)) (fun hh7 K => ?_)
  refine Go.iconst (v := nI 0) dCh_planExactly_64 (by decide) ?_
  refine Go.istore dCh_planExactly_65 (by decide) rfl ?_
  refine Go.weak (lp_Ch_planExactly_67 _ _ hn (fun z617 z717 h17 K => ?_) _ (0) _ _ K (by omega) (Nat.le_refl _))
  refine Go.vret dCh_planExactly_128 rfl (by decide) ?_
  exact ⟨rfl, K⟩
set_option maxHeartbeats 2000000 in
theorem lp_Bk_gatherWaiting_4 {sc : Nat × (Nat → Int32)} {d bc bs : Nat} {nd nt : Nat} {nw : Int32} {h0 : AH} {Q : GO → AH → Prop}  (kont0 : ∀ (c : Nat) (z : AV) (h1 : AH), (KB ((nd, nt), nw) h0 h1) → (c ≤ nt) → Go sc false false (d + 0) bc bs mBk_gatherWaiting 45 [vO 4 (0), vI (nI (c)), z] [] h1 Q) : ∀ (k0 : Nat) (c t : Nat) (h : AH), KB ((nd, nt), nw) h0 h → (c ≤ t) → (t ≤ nt) → nt - t ≤ k0 → Go sc false false (d + 0) bc bs mBk_gatherWaiting 4 [vO 4 (0), vI (nI (c)), vI (nI (t))] [] h Q := by
  intro k0
  induction k0 using Nat.strongRecOn with
  | _ k0 ih =>
    intro c t h K hc ht hk0
    have b_nd : nd ≤ 4 := K.doors_le
    have b_nt : nt ≤ 12 := K.trucks_le
    refine Go.iload_n dBk_gatherWaiting_4 rfl ?_
    refine Go.aload_n dBk_gatherWaiting_5 rfl (Nat.ne_of_beq_eq_false rfl) ?_
    refine Go.getIv (v := nI (nt)) dBk_gatherWaiting_6 flBk_35 (Nat.le_of_ble_eq_true rfl) rfl K.trucks ?_
    refine Go.icmp_ge (tgt := 45) dBk_gatherWaiting_9 (by decide) (fun q18 => ?_) (fun q18 => ?_)
    · replace q18 := tle q18 (by omega) (by omega)
      exact Go.weak (kont0 (c) _ _ K (by omega))
    · replace q18 := tnle q18 (by omega) (by omega)
      refine Go.aload_n dBk_gatherWaiting_12 rfl (Nat.ne_of_beq_eq_false rfl) ?_
      refine Go.getR dBk_gatherWaiting_13 flBk_17 (Nat.le_of_ble_eq_true rfl) rfl K.sb.trucks ?_
      refine Go.iload_n dBk_gatherWaiting_16 rfl ?_
      refine Go.aald (jn := t) dBk_gatherWaiting_17 (by decide) rfl rfl (Nat.lt_of_lt_of_eq (by omega) (K.sb.ltrucks).symm) (by omega) (K.sb.truck (by omega)) ?_
      refine Go.getI dBk_gatherWaiting_18 flBk_107 (Nat.le_of_ble_eq_true rfl) rfl ?_
      refine Go.if_ne (tgt := 39) dBk_gatherWaiting_21 (by decide) (fun q20 => ?_) (fun q20 => ?_)
      · refine Go.iinc (v := nI (t + 1)) dBk_gatherWaiting_39 (by decide) rfl (nI_inc _) rfl ?_
        refine Go.goto (tgt := 4) dBk_gatherWaiting_42 (by decide) ?_
        exact Go.weak (ih (nt - ((t + 1))) (by omega) (c) ((t + 1))  _ K (by omega) (by omega) (Nat.le_refl _))
      · refine Go.aload_n dBk_gatherWaiting_24 rfl (Nat.ne_of_beq_eq_false rfl) ?_
        refine Go.getR dBk_gatherWaiting_25 flBk_21 (Nat.le_of_ble_eq_true rfl) rfl K.sb.wait ?_
        refine Go.iload_n dBk_gatherWaiting_28 rfl ?_
        refine Go.aload_n dBk_gatherWaiting_29 rfl (Nat.ne_of_beq_eq_false rfl) ?_
        refine Go.getR dBk_gatherWaiting_30 flBk_17 (Nat.le_of_ble_eq_true rfl) rfl K.sb.trucks ?_
        refine Go.iload_n dBk_gatherWaiting_33 rfl ?_
        refine Go.aald (jn := t) dBk_gatherWaiting_34 (by decide) rfl rfl (Nat.lt_of_lt_of_eq (by omega) (K.sb.ltrucks).symm) (by omega) (K.sb.truck (by omega)) ?_
        refine Go.aast (jn := c) dBk_gatherWaiting_35 (by decide) (Nat.le_of_ble_eq_true rfl) rfl rfl rfl (Nat.lt_of_lt_of_eq (by omega) (K.sb.lwait).symm) (by omega) ?_
        refine Go.hav (Kp := KB ((nd, nt), nw) h0) (K.upWait (by omega)) (fun hh8 K => ?_)
        refine Go.iinc (v := nI (c + 1)) dBk_gatherWaiting_36 (by decide) rfl (nI_inc _) rfl ?_
        refine Go.iinc (v := nI (t + 1)) dBk_gatherWaiting_39 (by decide) rfl (nI_inc _) rfl ?_
        refine Go.goto (tgt := 4) dBk_gatherWaiting_42 (by decide) ?_
        exact Go.weak (ih (nt - ((t + 1))) (by omega) ((c + 1)) ((t + 1))  _ K (by omega) (by omega) (Nat.le_refl _))
set_option maxHeartbeats 2000000 in
theorem g_Bk_gatherWaiting {sc : Nat × (Nat → Int32)} {d bc bs : Nat} {nd nt : Nat} {nw : Int32} {h0 : AH} {h : AH} (K : KB ((nd, nt), nw) h0 h)  : Go sc true false (d + 0) bc bs mBk_gatherWaiting 0 [vO 4 (0), vU, vU] [] h (PV (fun v h' => KB ((nd, nt), nw) h0 h' ∧ ∃ c : Nat, c ≤ nt ∧ v = nI c)) := by
  have b_nd : nd ≤ 4 := K.doors_le
  have b_nt : nt ≤ 12 := K.trucks_le
  refine Go.iconst (v := nI 0) dBk_gatherWaiting_0 (by decide) ?_
  refine Go.istore_n dBk_gatherWaiting_1 (by decide) rfl ?_
  refine Go.iconst (v := nI 0) dBk_gatherWaiting_2 (by decide) ?_
  refine Go.istore_n dBk_gatherWaiting_3 (by decide) rfl ?_
  refine Go.weak (lp_Bk_gatherWaiting_4  (fun c22 z22 h22 K hc22 => ?_) _ (0) (0)  _ K (by omega) (by omega) (Nat.le_refl _))
  refine Go.iload_n dBk_gatherWaiting_45 rfl ?_
  refine Go.iret dBk_gatherWaiting_46 rfl rfl (by decide) ?_
  exact ⟨_, rfl, K, _, hc22, rfl⟩
set_option maxHeartbeats 2000000 in
theorem lp_Bk_sortByRule_17 {sc : Nat × (Nat → Int32)} {d bc bs : Nat} {nd nt : Nat} {nw : Int32} {h0 : AH} {Q : GO → AH → Prop} (n i j : Nat) (hi : i < n) (hn : n ≤ 12) (kont0 : ∀ (p : Nat) (h1 : AH), (KB ((nd, nt), nw) h0 h1) → (p ≤ i) → Go sc false false (d + 1) bc bs mBk_sortByRule 60 [vO 4 (0), vI (nI (n)), vI (nI (i)), vO 3 (j), vI (nI (p))] [] h1 Q) : ∀ (k0 : Nat) (p : Nat) (h : AH), KB ((nd, nt), nw) h0 h → (p ≤ i) → p ≤ k0 → Go sc false false (d + 1) bc bs mBk_sortByRule 17 [vO 4 (0), vI (nI (n)), vI (nI (i)), vO 3 (j), vI (nI (p))] [] h Q := by
  intro k0
  induction k0 using Nat.strongRecOn with
  | _ k0 ih =>
    intro p h K hp hk0
    have b_nd : nd ≤ 4 := K.doors_le
    have b_nt : nt ≤ 12 := K.trucks_le
    refine Go.iload dBk_sortByRule_17 rfl ?_
    refine Go.if_le (tgt := 60) dBk_sortByRule_19 (by decide) (fun q23 => ?_) (fun q23 => ?_)
    · replace q23 := zle q23 (by omega)
      exact Go.weak (kont0 (p)  _ K (by omega))
    · replace q23 := znle q23 (by omega)
      refine Go.aload_n dBk_sortByRule_22 rfl (Nat.ne_of_beq_eq_false rfl) ?_
      refine Go.aload_n dBk_sortByRule_23 rfl (Nat.ne_of_beq_eq_false rfl) ?_
      refine Go.getR dBk_sortByRule_24 flBk_21 (Nat.le_of_ble_eq_true rfl) rfl K.sb.wait ?_
      refine Go.iload dBk_sortByRule_27 rfl ?_
      refine Go.iconst (v := nI 1) dBk_sortByRule_29 (by decide) ?_
      refine Go.isub dBk_sortByRule_30 ?_
      refine Go.cvt (v' := nI (p - 1)) (pk_sub (by omega)) ?_
      obtain ⟨j24, hj24, ej24⟩ := K.wait ((p - 1)) (by omega)
      refine Go.aald (jn := (p - 1)) dBk_sortByRule_31 (by decide) rfl rfl (Nat.lt_of_lt_of_eq (by omega) (K.sb.lwait).symm) (by omega) ej24 ?_
      refine Go.cVv mTr_goesBefore [vO 3 (j24)] dBk_sortByRule_32 vwBk_236 (Nat.le_of_ble_eq_true rfl) rfl rfl (Nat.le_of_ble_eq_true rfl) rfl (Nat.le_of_ble_eq_true rfl) (g_Tr_goesBefore (j) (j24)) (fun v25 _ => ?_)
      refine Go.if_eq (tgt := 60) dBk_sortByRule_35 (by decide) (fun q26 => ?_) (fun q26 => ?_)
      · exact Go.weak (kont0 (p)  _ K (by omega))
      · refine Go.aload_n dBk_sortByRule_38 rfl (Nat.ne_of_beq_eq_false rfl) ?_
        refine Go.getR dBk_sortByRule_39 flBk_21 (Nat.le_of_ble_eq_true rfl) rfl K.sb.wait ?_
        refine Go.iload dBk_sortByRule_42 rfl ?_
        refine Go.aload_n dBk_sortByRule_44 rfl (Nat.ne_of_beq_eq_false rfl) ?_
        refine Go.getR dBk_sortByRule_45 flBk_21 (Nat.le_of_ble_eq_true rfl) rfl K.sb.wait ?_
        refine Go.iload dBk_sortByRule_48 rfl ?_
        refine Go.iconst (v := nI 1) dBk_sortByRule_50 (by decide) ?_
        refine Go.isub dBk_sortByRule_51 ?_
        refine Go.cvt (v' := nI (p - 1)) (pk_sub (by omega)) ?_
        obtain ⟨j27, hj27, ej27⟩ := K.wait ((p - 1)) (by omega)
        refine Go.aald (jn := (p - 1)) dBk_sortByRule_52 (by decide) rfl rfl (Nat.lt_of_lt_of_eq (by omega) (K.sb.lwait).symm) (by omega) ej27 ?_
        refine Go.aast (jn := p) dBk_sortByRule_53 (by decide) (Nat.le_of_ble_eq_true rfl) rfl rfl rfl (Nat.lt_of_lt_of_eq (by omega) (K.sb.lwait).symm) (by omega) ?_
        refine Go.hav (Kp := KB ((nd, nt), nw) h0) (K.upWait (by omega)) (fun hh9 K => ?_)
        refine Go.iinc (v := nI (p - 1)) dBk_sortByRule_54 (by decide) rfl (nI_dec (by omega)) rfl ?_
        refine Go.goto (tgt := 17) dBk_sortByRule_57 (by decide) ?_
        exact Go.weak (ih (((p - 1))) (by omega) ((p - 1))  _ K (by omega) (Nat.le_refl _))
set_option maxHeartbeats 2000000 in
theorem lp_Bk_sortByRule_2 {sc : Nat × (Nat → Int32)} {d bc bs : Nat} {nd nt : Nat} {nw : Int32} {h0 : AH} {Q : GO → AH → Prop} (n : Nat) (hn : n ≤ 12) (kont0 : ∀ (z2 z3 z4 : AV) (h1 : AH), (KB ((nd, nt), nw) h0 h1) → Go sc false false (d + 1) bc bs mBk_sortByRule 74 [vO 4 (0), vI (nI (n)), z2, z3, z4] [] h1 Q) : ∀ (k0 : Nat) (i : Nat) (z3 z4 : AV) (h : AH), KB ((nd, nt), nw) h0 h → (i < 2 ^ 30) → n - i ≤ k0 → Go sc false false (d + 1) bc bs mBk_sortByRule 2 [vO 4 (0), vI (nI (n)), vI (nI (i)), z3, z4] [] h Q := by
  intro k0
  induction k0 using Nat.strongRecOn with
  | _ k0 ih =>
    intro i z3 z4 h K hi hk0
    have b_nd : nd ≤ 4 := K.doors_le
    have b_nt : nt ≤ 12 := K.trucks_le
    refine Go.iload_n dBk_sortByRule_2 rfl ?_
    refine Go.iload_n dBk_sortByRule_3 rfl ?_
    refine Go.icmp_ge (tgt := 74) dBk_sortByRule_4 (by decide) (fun q28 => ?_) (fun q28 => ?_)
    · replace q28 := tle q28 (by omega) (by omega)
      exact Go.weak (kont0  _ _ _ _ K )
    · replace q28 := tnle q28 (by omega) (by omega)
      refine Go.aload_n dBk_sortByRule_7 rfl (Nat.ne_of_beq_eq_false rfl) ?_
      refine Go.getR dBk_sortByRule_8 flBk_21 (Nat.le_of_ble_eq_true rfl) rfl K.sb.wait ?_
      refine Go.iload_n dBk_sortByRule_11 rfl ?_
      obtain ⟨j29, hj29, ej29⟩ := K.wait (i) (by omega)
      refine Go.aald (jn := i) dBk_sortByRule_12 (by decide) rfl rfl (Nat.lt_of_lt_of_eq (by omega) (K.sb.lwait).symm) (by omega) ej29 ?_
      refine Go.astore_n dBk_sortByRule_13 (by decide) rfl ?_
      refine Go.iload_n dBk_sortByRule_14 rfl ?_
      refine Go.istore dBk_sortByRule_15 (by decide) rfl ?_
      refine Go.weak (lp_Bk_sortByRule_17 _ _ (j29) (by omega) (by omega) (fun p30 h30 K hp30 => ?_) _ (i)  _ K (by omega) (Nat.le_refl _))
      refine Go.aload_n dBk_sortByRule_60 rfl (Nat.ne_of_beq_eq_false rfl) ?_
      refine Go.getR dBk_sortByRule_61 flBk_21 (Nat.le_of_ble_eq_true rfl) rfl K.sb.wait ?_
      refine Go.iload dBk_sortByRule_64 rfl ?_
      refine Go.aload_n dBk_sortByRule_66 rfl (Nat.ne_of_beq_eq_false rfl) ?_
      refine Go.aast (jn := p30) dBk_sortByRule_67 (by decide) (Nat.le_of_ble_eq_true rfl) rfl rfl rfl (Nat.lt_of_lt_of_eq (by omega) (K.sb.lwait).symm) (by omega) ?_
      refine Go.hav (Kp := KB ((nd, nt), nw) h0) (K.upWait (by omega)) (fun hh10 K => ?_)
      refine Go.iinc (v := nI (i + 1)) dBk_sortByRule_68 (by decide) rfl (nI_inc _) rfl ?_
      refine Go.goto (tgt := 2) dBk_sortByRule_71 (by decide) ?_
      exact Go.weak (ih (n - ((i + 1))) (by omega) ((i + 1)) _ _ _ K (by omega) (Nat.le_refl _))
set_option maxHeartbeats 2000000 in
theorem g_Bk_sortByRule {sc : Nat × (Nat → Int32)} {d bc bs : Nat} {nd nt : Nat} {nw : Int32} {h0 : AH} {h : AH} (K : KB ((nd, nt), nw) h0 h) (n : Nat) (hn : n ≤ 12) : Go sc true false (d + 1) bc bs mBk_sortByRule 0 [vO 4 (0), vI (nI (n)), vU, vU, vU] [] h (PN (KB ((nd, nt), nw) h0)) := by
  have b_nd : nd ≤ 4 := K.doors_le
  have b_nt : nt ≤ 12 := K.trucks_le
  refine Go.iconst (v := nI 1) dBk_sortByRule_0 (by decide) ?_
  refine Go.istore_n dBk_sortByRule_1 (by decide) rfl ?_
  refine Go.weak (lp_Bk_sortByRule_2 _ hn (fun z231 z331 z431 h31 K => ?_) _ (1) _ _ _ K (by omega) (Nat.le_refl _))
  refine Go.vret dBk_sortByRule_74 rfl (by decide) ?_
  exact ⟨rfl, K⟩
set_option maxHeartbeats 2000000 in
theorem lp_Bk_placeByRule_7 {sc : Nat × (Nat → Int32)} {d bc bs : Nat} {nd nt : Nat} {nw : Int32} {h0 : AH} {Q : GO → AH → Prop} (j : Nat) (kont0 : ∀ (b : Nat) (y : Int32) (z4 z5 : AV) (h1 : AH), (KB ((nd, nt), nw) h0 h1) → (b ≤ nd) → Go sc false false (d + 2) bc bs mBk_placeByRule 68 [vO 4 (0), vO 3 (j), vI (im b), vI y, z4, z5] [] h1 Q) : ∀ (k0 : Nat) (b t : Nat) (y : Int32) (z5 : AV) (h : AH), KB ((nd, nt), nw) h0 h → (b ≤ nd) → (t ≤ nd) → nd - t ≤ k0 → Go sc false false (d + 2) bc bs mBk_placeByRule 7 [vO 4 (0), vO 3 (j), vI (im b), vI y, vI (nI (t)), z5] [] h Q := by
  intro k0
  induction k0 using Nat.strongRecOn with
  | _ k0 ih =>
    intro b t y z5 h K hb ht hk0
    have b_nd : nd ≤ 4 := K.doors_le
    have b_nt : nt ≤ 12 := K.trucks_le
    refine Go.iload dBk_placeByRule_7 rfl ?_
    refine Go.aload_n dBk_placeByRule_9 rfl (Nat.ne_of_beq_eq_false rfl) ?_
    refine Go.getIv (v := nI (nd)) dBk_placeByRule_10 flBk_31 (Nat.le_of_ble_eq_true rfl) rfl K.doors ?_
    refine Go.icmp_ge (tgt := 68) dBk_placeByRule_13 (by decide) (fun q32 => ?_) (fun q32 => ?_)
    · replace q32 := tle q32 (by omega) (by omega)
      exact Go.weak (kont0 (b) _ _ _ _ K (by omega))
    · replace q32 := tnle q32 (by omega) (by omega)
      refine Go.aload_n dBk_placeByRule_16 rfl (Nat.ne_of_beq_eq_false rfl) ?_
      refine Go.getR dBk_placeByRule_17 flBk_11 (Nat.le_of_ble_eq_true rfl) rfl K.sb.doors ?_
      refine Go.iload dBk_placeByRule_20 rfl ?_
      refine Go.aald (jn := t) dBk_placeByRule_22 (by decide) rfl rfl (Nat.lt_of_lt_of_eq (by omega) (K.sb.ldoors).symm) (by omega) (K.sb.door (by omega)) ?_
      refine Go.aload_n dBk_placeByRule_23 rfl (Nat.ne_of_beq_eq_false rfl) ?_
      refine Go.aload_n dBk_placeByRule_24 rfl (Nat.ne_of_beq_eq_false rfl) ?_
      refine Go.getR dBk_placeByRule_25 flBk_11 (Nat.le_of_ble_eq_true rfl) rfl K.sb.doors ?_
      refine Go.iload dBk_placeByRule_28 rfl ?_
      refine Go.aald (jn := t) dBk_placeByRule_30 (by decide) rfl rfl (Nat.lt_of_lt_of_eq (by omega) (K.sb.ldoors).symm) (by omega) (K.sb.door (by omega)) ?_
      refine Go.getI dBk_placeByRule_31 flBk_229 (Nat.le_of_ble_eq_true rfl) rfl ?_
      refine Go.cVv mDo_startOf [vO 3 (j), vI _] dBk_placeByRule_34 vwBk_216 (Nat.le_of_ble_eq_true rfl) rfl rfl (Nat.le_of_ble_eq_true rfl) rfl (Nat.le_of_ble_eq_true rfl) (g_Do_startOf (t) (j) _) (fun v35 _ => ?_)
      refine Go.istore dBk_placeByRule_37 (by decide) rfl ?_
      refine Go.iload dBk_placeByRule_39 rfl ?_
      refine Go.iconst (v := -1) dBk_placeByRule_41 (by decide) ?_
      refine Go.icmp_eq (tgt := 62) dBk_placeByRule_42 (by decide) (fun q36 => ?_) (fun q36 => ?_)
      · refine Go.iinc (v := nI (t + 1)) dBk_placeByRule_62 (by decide) rfl (nI_inc _) rfl ?_
        refine Go.goto (tgt := 7) dBk_placeByRule_65 (by decide) ?_
        exact Go.weak (ih (nd - ((t + 1))) (by omega) (b) ((t + 1)) _ _ _ K (by omega) (by omega) (Nat.le_refl _))
      · refine Go.iload_n dBk_placeByRule_45 rfl ?_
        refine Go.iconst (v := -1) dBk_placeByRule_46 (by decide) ?_
        refine Go.icmp_eq (tgt := 56) dBk_placeByRule_47 (by decide) (fun q37 => ?_) (fun q37 => ?_)
        · refine Go.iload dBk_placeByRule_56 rfl ?_
          refine Go.cvt (v' := im (t + 1)) ((im_s _).symm) ?_
          refine Go.istore_n dBk_placeByRule_58 (by decide) rfl ?_
          refine Go.iload dBk_placeByRule_59 rfl ?_
          refine Go.istore_n dBk_placeByRule_61 (by decide) rfl ?_
          refine Go.iinc (v := nI (t + 1)) dBk_placeByRule_62 (by decide) rfl (nI_inc _) rfl ?_
          refine Go.goto (tgt := 7) dBk_placeByRule_65 (by decide) ?_
          exact Go.weak (ih (nd - ((t + 1))) (by omega) ((t + 1)) ((t + 1)) _ _ _ K (by omega) (by omega) (Nat.le_refl _))
        · refine Go.iload dBk_placeByRule_50 rfl ?_
          refine Go.iload_n dBk_placeByRule_52 rfl ?_
          refine Go.icmp_ge (tgt := 62) dBk_placeByRule_53 (by decide) (fun q38 => ?_) (fun q38 => ?_)
          · refine Go.iinc (v := nI (t + 1)) dBk_placeByRule_62 (by decide) rfl (nI_inc _) rfl ?_
            refine Go.goto (tgt := 7) dBk_placeByRule_65 (by decide) ?_
            exact Go.weak (ih (nd - ((t + 1))) (by omega) (b) ((t + 1)) _ _ _ K (by omega) (by omega) (Nat.le_refl _))
          · refine Go.iload dBk_placeByRule_56 rfl ?_
            refine Go.cvt (v' := im (t + 1)) ((im_s _).symm) ?_
            refine Go.istore_n dBk_placeByRule_58 (by decide) rfl ?_
            refine Go.iload dBk_placeByRule_59 rfl ?_
            refine Go.istore_n dBk_placeByRule_61 (by decide) rfl ?_
            refine Go.iinc (v := nI (t + 1)) dBk_placeByRule_62 (by decide) rfl (nI_inc _) rfl ?_
            refine Go.goto (tgt := 7) dBk_placeByRule_65 (by decide) ?_
            exact Go.weak (ih (nd - ((t + 1))) (by omega) ((t + 1)) ((t + 1)) _ _ _ K (by omega) (by omega) (Nat.le_refl _))
set_option maxHeartbeats 2000000 in
theorem g_Bk_placeByRule {sc : Nat × (Nat → Int32)} {d bc bs : Nat} {nd nt : Nat} {nw : Int32} {h0 : AH} {h : AH} (K : KB ((nd, nt), nw) h0 h) (j : Nat) : Go sc true false (d + 2) bc bs mBk_placeByRule 0 [vO 4 (0), vO 3 (j), vU, vU, vU, vU] [] h (PN (KB ((nd, nt), nw) h0)) := by
  have b_nd : nd ≤ 4 := K.doors_le
  have b_nt : nt ≤ 12 := K.trucks_le
  refine Go.iconst (v := -1) dBk_placeByRule_0 (by decide) ?_
  refine Go.cvt (v' := im 0) (im_0.symm) ?_
  refine Go.istore_n dBk_placeByRule_1 (by decide) rfl ?_
  refine Go.iconst (v := -1) dBk_placeByRule_2 (by decide) ?_
  refine Go.istore_n dBk_placeByRule_3 (by decide) rfl ?_
  refine Go.iconst (v := nI 0) dBk_placeByRule_4 (by decide) ?_
  refine Go.istore dBk_placeByRule_5 (by decide) rfl ?_
  refine Go.weak (lp_Bk_placeByRule_7 _ (fun b39 y39 z439 z539 h39 K hb39 => ?_) _ (0) (0) _ _ _ K (by omega) (by omega) (Nat.le_refl _))
  refine Go.aload_n dBk_placeByRule_68 rfl (Nat.ne_of_beq_eq_false rfl) ?_
  refine Go.iload_n dBk_placeByRule_69 rfl ?_
  refine Go.iload_n dBk_placeByRule_70 rfl ?_
  refine Go.cVf mTr_setPlan [vI (im b39), vI y39] dBk_placeByRule_71 vwBk_165 (Nat.le_of_ble_eq_true rfl) rfl rfl (Nat.le_of_ble_eq_true rfl) rfl (Nat.le_of_ble_eq_true rfl) (g_Tr_setPlan (j) _ _) ?_
  refine Go.hav (Kp := KB ((nd, nt), nw) h0) ((K.up (by omega)).up (by omega)) (fun hh11 K => ?_)
  refine Go.iload_n dBk_placeByRule_74 rfl ?_
  refine Go.iconst (v := -1) dBk_placeByRule_75 (by decide) ?_
  refine Go.icmp_eq (tgt := 94) dBk_placeByRule_76 (by decide) (fun q40 => ?_) (fun q40 => ?_)
  · refine Go.vret dBk_placeByRule_94 rfl (by decide) ?_
    exact ⟨rfl, K⟩
  · rcases b39 with _ | b39
    · exact absurd im_0 q40
    · skip
      refine Go.aload_n dBk_placeByRule_79 rfl (Nat.ne_of_beq_eq_false rfl) ?_
      refine Go.getR dBk_placeByRule_80 flBk_11 (Nat.le_of_ble_eq_true rfl) rfl K.sb.doors ?_
      refine Go.iload_n dBk_placeByRule_83 rfl ?_
      refine Go.cvt (v' := nI b39) (im_s _) ?_
      refine Go.aald (jn := b39) dBk_placeByRule_84 (by decide) rfl rfl (Nat.lt_of_lt_of_eq (by omega) (K.sb.ldoors).symm) (by omega) (K.sb.door (by omega)) ?_
      refine Go.iload_n dBk_placeByRule_85 rfl ?_
      refine Go.aload_n dBk_placeByRule_86 rfl (Nat.ne_of_beq_eq_false rfl) ?_
      refine Go.getI dBk_placeByRule_87 flBk_80 (Nat.le_of_ble_eq_true rfl) rfl ?_
      refine Go.iadd dBk_placeByRule_90 ?_
      refine Go.putI dBk_placeByRule_91 fwBk_placeByRule_229 (Nat.le_of_ble_eq_true rfl) rfl ⟨rfl, rfl⟩ ?_
      refine Go.hav (Kp := KB ((nd, nt), nw) h0) (K.up (by omega)) (fun hh12 K => ?_)
      refine Go.vret dBk_placeByRule_94 rfl (by decide) ?_
      exact ⟨rfl, K⟩
set_option maxHeartbeats 2000000 in
theorem lp_Bk_planByRule_7 {sc : Nat × (Nat → Int32)} {d bc bs : Nat} {nd nt : Nat} {nw : Int32} {h0 : AH} {Q : GO → AH → Prop} (n : Nat) (kont0 : ∀ (z : AV) (h1 : AH), (KB ((nd, nt), nw) h0 h1) → Go sc false false (d + 3) bc bs mBk_planByRule 43 [vO 4 (0), vI (nI (n)), z] [] h1 Q) : ∀ (k0 : Nat) (t : Nat) (h : AH), KB ((nd, nt), nw) h0 h → (t ≤ nd) → nd - t ≤ k0 → Go sc false false (d + 3) bc bs mBk_planByRule 7 [vO 4 (0), vI (nI (n)), vI (nI (t))] [] h Q := by
  intro k0
  induction k0 using Nat.strongRecOn with
  | _ k0 ih =>
    intro t h K ht hk0
    have b_nd : nd ≤ 4 := K.doors_le
    have b_nt : nt ≤ 12 := K.trucks_le
    refine Go.iload_n dBk_planByRule_7 rfl ?_
    refine Go.aload_n dBk_planByRule_8 rfl (Nat.ne_of_beq_eq_false rfl) ?_
    refine Go.getIv (v := nI (nd)) dBk_planByRule_9 flBk_31 (Nat.le_of_ble_eq_true rfl) rfl K.doors ?_
    refine Go.icmp_ge (tgt := 43) dBk_planByRule_12 (by decide) (fun q42 => ?_) (fun q42 => ?_)
    · replace q42 := tle q42 (by omega) (by omega)
      exact Go.weak (kont0  _ _ K )
    · replace q42 := tnle q42 (by omega) (by omega)
      refine Go.aload_n dBk_planByRule_15 rfl (Nat.ne_of_beq_eq_false rfl) ?_
      refine Go.getR dBk_planByRule_16 flBk_11 (Nat.le_of_ble_eq_true rfl) rfl K.sb.doors ?_
      refine Go.iload_n dBk_planByRule_19 rfl ?_
      refine Go.aald (jn := t) dBk_planByRule_20 (by decide) rfl rfl (Nat.lt_of_lt_of_eq (by omega) (K.sb.ldoors).symm) (by omega) (K.sb.door (by omega)) ?_
      refine Go.aload_n dBk_planByRule_21 rfl (Nat.ne_of_beq_eq_false rfl) ?_
      refine Go.getR dBk_planByRule_22 flBk_11 (Nat.le_of_ble_eq_true rfl) rfl K.sb.doors ?_
      refine Go.iload_n dBk_planByRule_25 rfl ?_
      refine Go.aald (jn := t) dBk_planByRule_26 (by decide) rfl rfl (Nat.lt_of_lt_of_eq (by omega) (K.sb.ldoors).symm) (by omega) (K.sb.door (by omega)) ?_
      refine Go.aload_n dBk_planByRule_27 rfl (Nat.ne_of_beq_eq_false rfl) ?_
      refine Go.getIv (v := (nw)) dBk_planByRule_28 flBk_38 (Nat.le_of_ble_eq_true rfl) rfl K.now ?_
      refine Go.cVv mDo_readyAt [vI nw] dBk_planByRule_31 vwBk_213 (Nat.le_of_ble_eq_true rfl) rfl rfl (Nat.le_of_ble_eq_true rfl) rfl (Nat.le_of_ble_eq_true rfl) (g_Do_readyAt (t) _) (fun v45 _ => ?_)
      refine Go.putI dBk_planByRule_34 fwBk_planByRule_229 (Nat.le_of_ble_eq_true rfl) rfl ⟨rfl, rfl⟩ ?_
      refine Go.hav (Kp := KB ((nd, nt), nw) h0) (K.up (by omega)) (fun hh13 K => ?_)
      refine Go.iinc (v := nI (t + 1)) dBk_planByRule_37 (by decide) rfl (nI_inc _) rfl ?_
      refine Go.goto (tgt := 7) dBk_planByRule_40 (by decide) ?_
      exact Go.weak (ih (nd - ((t + 1))) (by omega) ((t + 1))  _ K (by omega) (Nat.le_refl _))
set_option maxHeartbeats 2000000 in
theorem lp_Bk_planByRule_45 {sc : Nat × (Nat → Int32)} {d bc bs : Nat} {nd nt : Nat} {nw : Int32} {h0 : AH} {Q : GO → AH → Prop} (n : Nat) (hn : n ≤ 12) (kont0 : ∀ (z : AV) (h1 : AH), (KB ((nd, nt), nw) h0 h1) → Go sc false false (d + 3) bc bs mBk_planByRule 66 [vO 4 (0), vI (nI (n)), z] [] h1 Q) : ∀ (k0 : Nat) (t : Nat) (h : AH), KB ((nd, nt), nw) h0 h → (t ≤ n) → n - t ≤ k0 → Go sc false false (d + 3) bc bs mBk_planByRule 45 [vO 4 (0), vI (nI (n)), vI (nI (t))] [] h Q := by
  intro k0
  induction k0 using Nat.strongRecOn with
  | _ k0 ih =>
    intro t h K ht hk0
    have b_nd : nd ≤ 4 := K.doors_le
    have b_nt : nt ≤ 12 := K.trucks_le
    refine Go.iload_n dBk_planByRule_45 rfl ?_
    refine Go.iload_n dBk_planByRule_46 rfl ?_
    refine Go.icmp_ge (tgt := 66) dBk_planByRule_47 (by decide) (fun q46 => ?_) (fun q46 => ?_)
    · replace q46 := tle q46 (by omega) (by omega)
      exact Go.weak (kont0  _ _ K )
    · replace q46 := tnle q46 (by omega) (by omega)
      refine Go.aload_n dBk_planByRule_50 rfl (Nat.ne_of_beq_eq_false rfl) ?_
      refine Go.aload_n dBk_planByRule_51 rfl (Nat.ne_of_beq_eq_false rfl) ?_
      refine Go.getR dBk_planByRule_52 flBk_21 (Nat.le_of_ble_eq_true rfl) rfl K.sb.wait ?_
      refine Go.iload_n dBk_planByRule_55 rfl ?_
      obtain ⟨j47, hj47, ej47⟩ := K.wait (t) (by omega)
      refine Go.aald (jn := t) dBk_planByRule_56 (by decide) rfl rfl (Nat.lt_of_lt_of_eq (by omega) (K.sb.lwait).symm) (by omega) ej47 ?_
      refine Go.cVn mBk_placeByRule [vO 3 (j47)] dBk_planByRule_57 vwBk_232 (Nat.le_of_ble_eq_true rfl) rfl rfl (Nat.le_of_ble_eq_true rfl) rfl (Nat.le_of_ble_eq_true rfl) (g_Bk_placeByRule K (j47)) (fun hh14 K => ?_)
      refine Go.iinc (v := nI (t + 1)) dBk_planByRule_60 (by decide) rfl (nI_inc _) rfl ?_
      refine Go.goto (tgt := 45) dBk_planByRule_63 (by decide) ?_
      exact Go.weak (ih (n - ((t + 1))) (by omega) ((t + 1))  _ K (by omega) (Nat.le_refl _))
set_option maxHeartbeats 2000000 in
theorem g_Bk_planByRule {sc : Nat × (Nat → Int32)} {d bc bs : Nat} {nd nt : Nat} {nw : Int32} {h0 : AH} {h : AH} (K : KB ((nd, nt), nw) h0 h) (n : Nat) (hn : n ≤ 12) : Go sc true false (d + 3) bc bs mBk_planByRule 0 [vO 4 (0), vI (nI (n)), vU] [] h (PN (KB ((nd, nt), nw) h0)) := by
  have b_nd : nd ≤ 4 := K.doors_le
  have b_nt : nt ≤ 12 := K.trucks_le
  refine Go.aload_n dBk_planByRule_0 rfl (Nat.ne_of_beq_eq_false rfl) ?_
  refine Go.iload_n dBk_planByRule_1 rfl ?_
  refine Go.cVn mBk_sortByRule [vI (nI (n))] dBk_planByRule_2 vwBk_226 (Nat.le_of_ble_eq_true rfl) rfl rfl (Nat.le_of_ble_eq_true rfl) rfl (Nat.le_of_ble_eq_true rfl) (g_Bk_sortByRule K (n) (by omega)) (fun hh15 K => ?_)
  refine Go.iconst (v := nI 0) dBk_planByRule_5 (by decide) ?_
  refine Go.istore_n dBk_planByRule_6 (by decide) rfl ?_
  refine Go.weak (lp_Bk_planByRule_7 _ (fun z48 h48 K => ?_) _ (0)  _ K (by omega) (Nat.le_refl _))
  refine Go.iconst (v := nI 0) dBk_planByRule_43 (by decide) ?_
  refine Go.istore_n dBk_planByRule_44 (by decide) rfl ?_
  refine Go.weak (lp_Bk_planByRule_45 _ hn (fun z49 h49 K => ?_) _ (0)  _ K (by omega) (Nat.le_refl _))
  refine Go.vret dBk_planByRule_66 rfl (by decide) ?_
  exact ⟨rfl, K⟩
set_option maxHeartbeats 2000000 in
theorem lp_Bk_assign_13 {sc : Nat × (Nat → Int32)} {d bc bs : Nat} {nd nt : Nat} {nw : Int32} {h0 : AH} {Q : GO → AH → Prop} (x : Int32) (c : Nat) (hc : c ≤ 12) (kont0 : ∀ (z : AV) (h1 : AH), (KB ((nd, nt), nw) h0 h1) → Go sc false false (d + 16) bc bs mBk_assign 33 [vO 4 (0), vI x, vI (nI (c)), z] [] h1 Q) : ∀ (k0 : Nat) (t : Nat) (h : AH), KB ((nd, nt), nw) h0 h → (t ≤ c) → c - t ≤ k0 → Go sc false false (d + 16) bc bs mBk_assign 13 [vO 4 (0), vI x, vI (nI (c)), vI (nI (t))] [] h Q := by
  intro k0
  induction k0 using Nat.strongRecOn with
  | _ k0 ih =>
    intro t h K ht hk0
    have b_nd : nd ≤ 4 := K.doors_le
    have b_nt : nt ≤ 12 := K.trucks_le
    refine Go.iload_n dBk_assign_13 rfl ?_
    refine Go.iload_n dBk_assign_14 rfl ?_
    refine Go.icmp_ge (tgt := 33) dBk_assign_15 (by decide) (fun q50 => ?_) (fun q50 => ?_)
    · replace q50 := tle q50 (by omega) (by omega)
      exact Go.weak (kont0  _ _ K )
    · replace q50 := tnle q50 (by omega) (by omega)
      refine Go.aload_n dBk_assign_18 rfl (Nat.ne_of_beq_eq_false rfl) ?_
      refine Go.getR dBk_assign_19 flBk_21 (Nat.le_of_ble_eq_true rfl) rfl K.sb.wait ?_
      refine Go.iload_n dBk_assign_22 rfl ?_
      obtain ⟨j51, hj51, ej51⟩ := K.wait (t) (by omega)
      refine Go.aald (jn := t) dBk_assign_23 (by decide) rfl rfl (Nat.lt_of_lt_of_eq (by omega) (K.sb.lwait).symm) (by omega) ej51 ?_
      refine Go.cVf mTr_rememberPlan [] dBk_assign_24 vwBk_90 (Nat.le_of_ble_eq_true rfl) rfl rfl (Nat.le_of_ble_eq_true rfl) rfl (Nat.le_of_ble_eq_true rfl) (g_Tr_rememberPlan (j51)) ?_
      refine Go.hav (Kp := KB ((nd, nt), nw) h0) ((K.up (by omega)).up (by omega)) (fun hh16 K => ?_)
      refine Go.iinc (v := nI (t + 1)) dBk_assign_27 (by decide) rfl (nI_inc _) rfl ?_
      refine Go.goto (tgt := 13) dBk_assign_30 (by decide) ?_
      exact Go.weak (ih (c - ((t + 1))) (by omega) ((t + 1))  _ K (by omega) (Nat.le_refl _))
set_option maxHeartbeats 2000000 in
theorem lp_Bk_assign_93 {sc : Nat × (Nat → Int32)} {d bc bs : Nat} {nd nt : Nat} {nw : Int32} {h0 : AH} {Q : GO → AH → Prop} (x : Int32) (c : Nat) (hc : c ≤ 12) (kont0 : ∀ (z : AV) (h1 : AH), (KB ((nd, nt), nw) h0 h1) → Go sc false false (d + 16) bc bs mBk_assign 130 [vO 4 (0), vI x, vI (nI (c)), z] [] h1 Q) : ∀ (k0 : Nat) (t : Nat) (h : AH), KB ((nd, nt), nw) h0 h → (t ≤ c) → c - t ≤ k0 → Go sc false false (d + 16) bc bs mBk_assign 93 [vO 4 (0), vI x, vI (nI (c)), vI (nI (t))] [] h Q := by
  intro k0
  induction k0 using Nat.strongRecOn with
  | _ k0 ih =>
    intro t h K ht hk0
    have b_nd : nd ≤ 4 := K.doors_le
    have b_nt : nt ≤ 12 := K.trucks_le
    refine Go.iload_n dBk_assign_93 rfl ?_
    refine Go.iload_n dBk_assign_94 rfl ?_
    refine Go.icmp_ge (tgt := 130) dBk_assign_95 (by decide) (fun q52 => ?_) (fun q52 => ?_)
    · replace q52 := tle q52 (by omega) (by omega)
      exact Go.weak (kont0  _ _ K )
    · replace q52 := tnle q52 (by omega) (by omega)
      refine Go.aload_n dBk_assign_98 rfl (Nat.ne_of_beq_eq_false rfl) ?_
      refine Go.dup trivial dBk_assign_99 ?_
      refine Go.getI dBk_assign_100 flBk_45 (Nat.le_of_ble_eq_true rfl) rfl ?_
      refine Go.aload_n dBk_assign_103 rfl (Nat.ne_of_beq_eq_false rfl) ?_
      refine Go.getR dBk_assign_104 flBk_21 (Nat.le_of_ble_eq_true rfl) rfl K.sb.wait ?_
      refine Go.iload_n dBk_assign_107 rfl ?_
      obtain ⟨j53, hj53, ej53⟩ := K.wait (t) (by omega)
      refine Go.aald (jn := t) dBk_assign_108 (by decide) rfl rfl (Nat.lt_of_lt_of_eq (by omega) (K.sb.lwait).symm) (by omega) ej53 ?_
      refine Go.cVv mTr_hasMoved [] dBk_assign_109 vwBk_100 (Nat.le_of_ble_eq_true rfl) rfl rfl (Nat.le_of_ble_eq_true rfl) rfl (Nat.le_of_ble_eq_true rfl) (g_Tr_hasMoved (j53)) (fun v54 _ => ?_)
      refine Go.if_eq (tgt := 119) dBk_assign_112 (by decide) (fun q55 => ?_) (fun q55 => ?_)
      · refine Go.iconst (v := nI 0) dBk_assign_119 (by decide) ?_
        refine Go.iadd dBk_assign_120 ?_
        refine Go.putI dBk_assign_121 fwBk_assign_45 (Nat.le_of_ble_eq_true rfl) rfl ⟨rfl, rfl⟩ ?_
        refine Go.hav (Kp := KB ((nd, nt), nw) h0) (K.up (by omega)) (fun hh17 K => ?_)
        refine Go.iinc (v := nI (t + 1)) dBk_assign_124 (by decide) rfl (nI_inc _) rfl ?_
        refine Go.goto (tgt := 93) dBk_assign_127 (by decide) ?_
        exact Go.weak (ih (c - ((t + 1))) (by omega) ((t + 1))  _ K (by omega) (Nat.le_refl _))
      · refine Go.iconst (v := nI 1) dBk_assign_115 (by decide) ?_
        refine Go.goto (tgt := 120) dBk_assign_116 (by decide) ?_
        refine Go.iadd dBk_assign_120 ?_
        refine Go.putI dBk_assign_121 fwBk_assign_45 (Nat.le_of_ble_eq_true rfl) rfl ⟨rfl, rfl⟩ ?_
        refine Go.hav (Kp := KB ((nd, nt), nw) h0) (K.up (by omega)) (fun hh18 K => ?_)
        refine Go.iinc (v := nI (t + 1)) dBk_assign_124 (by decide) rfl (nI_inc _) rfl ?_
        refine Go.goto (tgt := 93) dBk_assign_127 (by decide) ?_
        exact Go.weak (ih (c - ((t + 1))) (by omega) ((t + 1))  _ K (by omega) (Nat.le_refl _))
set_option maxHeartbeats 2000000 in
theorem g_Bk_assign {sc : Nat × (Nat → Int32)} {d bc bs : Nat} {nd nt : Nat} {nw : Int32} {h0 : AH} {h : AH} (K : KB ((nd, nt), nw) h0 h) (x : Int32) : Go sc true false (d + 16) (bc + 1) (bs + 6) mBk_assign 0 [vO 4 (0), vI x, vU, vU] [] h (OB (KB ((nd, nt), nw) h0) h [1]) := by
  have b_nd : nd ≤ 4 := K.doors_le
  have b_nt : nt ≤ 12 := K.trucks_le
  refine Go.iload_n dBk_assign_0 rfl ?_
  refine Go.iconst (v := nI 0) dBk_assign_1 (by decide) ?_
  refine Go.iconst (v := nI 5) dBk_assign_2 (by decide) ?_
  refine Go.callSx mBk_requireRange [vI x, vI (nI (0)), vI (nI (5))] dBk_assign_3 vwBk_52 rfl rfl (Nat.le_of_ble_eq_true rfl) rfl (Nat.le_of_ble_eq_true rfl) rfl (by decide) (g_Bk_requireRange _ _ _) (fun ok => ?_) (fun ok => Or.inr ⟨1, by simp, rfl, rfl⟩)
  refine Go.aload_n dBk_assign_6 rfl (Nat.ne_of_beq_eq_false rfl) ?_
  refine Go.cVp mBk_gatherWaiting [] dBk_assign_7 vwBk_86 (Nat.le_of_ble_eq_true rfl) rfl rfl (Nat.le_of_ble_eq_true rfl) rfl (Nat.le_of_ble_eq_true rfl) (g_Bk_gatherWaiting K) ?_
  rintro v56 hh19 ⟨K, c56, hc56, rfl⟩
  refine Go.istore_n dBk_assign_10 (by decide) rfl ?_
  refine Go.iconst (v := nI 0) dBk_assign_11 (by decide) ?_
  refine Go.istore_n dBk_assign_12 (by decide) rfl ?_
  refine Go.weak (lp_Bk_assign_13 _ _ (by omega) (fun z57 h57 K => ?_) _ (0)  _ K (by omega) (Nat.le_refl _))
  refine Go.aload_n dBk_assign_33 rfl (Nat.ne_of_beq_eq_false rfl) ?_
  refine Go.iload_n dBk_assign_34 rfl ?_
  refine Go.iload_n dBk_assign_35 rfl ?_
  refine Go.icmp_gt (tgt := 43) dBk_assign_36 (by decide) (fun q58 => ?_) (fun q58 => ?_)
  · refine Go.iconst (v := nI 0) dBk_assign_43 (by decide) ?_
    refine Go.putI dBk_assign_44 fwBk_assign_41 (Nat.le_of_ble_eq_true rfl) rfl ⟨rfl, rfl⟩ ?_
    refine Go.hav (Kp := fun z => KB ((nd, nt), nw) h0 z ∧ z.1 4 0 7 = nI (0)) ⟨K.upEx (by first | exact Or.inl rfl | exact Or.inr rfl), up_self⟩ (fun hh20 K0 => ?_)
    obtain ⟨K, e7⟩ := K0
    refine Go.aload_n dBk_assign_47 rfl (Nat.ne_of_beq_eq_false rfl) ?_
    refine Go.getIv (v := nI (0)) dBk_assign_48 flBk_41 (Nat.le_of_ble_eq_true rfl) rfl e7 ?_
    refine Go.if_eq (tgt := 81) dBk_assign_51 (by decide) (fun q59 => ?_) (fun q59 => ?_)
    · refine Go.aload_n dBk_assign_81 rfl (Nat.ne_of_beq_eq_false rfl) ?_
      refine Go.iload_n dBk_assign_82 rfl ?_
      refine Go.cVn mBk_planByRule [vI (nI (c56))] dBk_assign_83 vwBk_97 (Nat.le_of_ble_eq_true rfl) rfl rfl (Nat.le_of_ble_eq_true rfl) rfl (Nat.le_of_ble_eq_true rfl) (g_Bk_planByRule K (c56) (by omega)) (fun hh21 K => ?_)
      refine Go.aload_n dBk_assign_86 rfl (Nat.ne_of_beq_eq_false rfl) ?_
      refine Go.iconst (v := nI 0) dBk_assign_87 (by decide) ?_
      refine Go.putI dBk_assign_88 fwBk_assign_45 (Nat.le_of_ble_eq_true rfl) rfl ⟨rfl, rfl⟩ ?_
      refine Go.hav (Kp := KB ((nd, nt), nw) h0) (K.up (by omega)) (fun hh22 K => ?_)
      refine Go.iconst (v := nI 0) dBk_assign_91 (by decide) ?_
      refine Go.istore_n dBk_assign_92 (by decide) rfl ?_
      refine Go.weak (lp_Bk_assign_93 _ _ (by omega) (fun z60 h60 K => ?_) _ (0)  _ K (by omega) (Nat.le_refl _))
      refine Go.aload_n dBk_assign_130 rfl (Nat.ne_of_beq_eq_false rfl) ?_
      refine Go.cVv mBk_planCost [] dBk_assign_131 vwBk_104 (Nat.le_of_ble_eq_true rfl) rfl rfl (Nat.le_of_ble_eq_true rfl) rfl (Nat.le_of_ble_eq_true rfl) (g_Bk_planCost K.sb K.trucks K.trucks_le) (fun v61 _ => ?_)
      refine Go.iret dBk_assign_134 rfl rfl (by decide) ?_
      exact Or.inl ⟨_, rfl, K⟩
    · exact absurd q59 (by decide)
  · refine Go.iconst (v := nI 1) dBk_assign_39 (by decide) ?_
    refine Go.goto (tgt := 44) dBk_assign_40 (by decide) ?_
    refine Go.putI dBk_assign_44 fwBk_assign_41 (Nat.le_of_ble_eq_true rfl) rfl ⟨rfl, rfl⟩ ?_
    refine Go.hav (Kp := fun z => KB ((nd, nt), nw) h0 z ∧ z.1 4 0 7 = nI (1)) ⟨K.upEx (by first | exact Or.inl rfl | exact Or.inr rfl), up_self⟩ (fun hh23 K0 => ?_)
    obtain ⟨K, e7⟩ := K0
    refine Go.aload_n dBk_assign_47 rfl (Nat.ne_of_beq_eq_false rfl) ?_
    refine Go.getIv (v := nI (1)) dBk_assign_48 flBk_41 (Nat.le_of_ble_eq_true rfl) rfl e7 ?_
    refine Go.if_eq (tgt := 81) dBk_assign_51 (by decide) (fun q62 => ?_) (fun q62 => ?_)
    · exact absurd q62 (by decide)
    · have h5 : c56 ≤ 5 := tle (Int32.le_trans (Int32.not_lt.mp q58) ok.2) (by omega) (by decide)
      refine Go.aload_n dBk_assign_54 rfl (Nat.ne_of_beq_eq_false rfl) ?_
      refine Go.getR dBk_assign_55 flBk_27 (Nat.le_of_ble_eq_true rfl) rfl K.sb.choice ?_
      refine Go.aload_n dBk_assign_58 rfl (Nat.ne_of_beq_eq_false rfl) ?_
      refine Go.getR dBk_assign_59 flBk_11 (Nat.le_of_ble_eq_true rfl) rfl K.sb.doors ?_
      refine Go.aload_n dBk_assign_62 rfl (Nat.ne_of_beq_eq_false rfl) ?_
      refine Go.getIv (v := nI (nd)) dBk_assign_63 flBk_31 (Nat.le_of_ble_eq_true rfl) rfl K.doors ?_
      refine Go.aload_n dBk_assign_66 rfl (Nat.ne_of_beq_eq_false rfl) ?_
      refine Go.getR dBk_assign_67 flBk_21 (Nat.le_of_ble_eq_true rfl) rfl K.sb.wait ?_
      refine Go.iload_n dBk_assign_70 rfl ?_
      refine Go.aload_n dBk_assign_71 rfl (Nat.ne_of_beq_eq_false rfl) ?_
      refine Go.getIv (v := (nw)) dBk_assign_72 flBk_38 (Nat.le_of_ble_eq_true rfl) rfl K.now ?_
      refine Go.cVn mCh_planExactly [vO 110 0, vI (nI (nd)), vO 113 1, vI (nI (c56)), vI nw] dBk_assign_75 vwBk_93 (Nat.le_of_ble_eq_true rfl) rfl rfl (Nat.le_of_ble_eq_true rfl) rfl (Nat.le_of_ble_eq_true rfl) (g_Ch_planExactly K (c56) _ (by omega)) (fun hh24 K => ?_)
      refine Go.goto (tgt := 86) dBk_assign_78 (by decide) ?_
      refine Go.aload_n dBk_assign_86 rfl (Nat.ne_of_beq_eq_false rfl) ?_
      refine Go.iconst (v := nI 0) dBk_assign_87 (by decide) ?_
      refine Go.putI dBk_assign_88 fwBk_assign_45 (Nat.le_of_ble_eq_true rfl) rfl ⟨rfl, rfl⟩ ?_
      refine Go.hav (Kp := KB ((nd, nt), nw) h0) (K.up (by omega)) (fun hh25 K => ?_)
      refine Go.iconst (v := nI 0) dBk_assign_91 (by decide) ?_
      refine Go.istore_n dBk_assign_92 (by decide) rfl ?_
      refine Go.weak (lp_Bk_assign_93 _ _ (by omega) (fun z63 h63 K => ?_) _ (0)  _ K (by omega) (Nat.le_refl _))
      refine Go.aload_n dBk_assign_130 rfl (Nat.ne_of_beq_eq_false rfl) ?_
      refine Go.cVv mBk_planCost [] dBk_assign_131 vwBk_104 (Nat.le_of_ble_eq_true rfl) rfl rfl (Nat.le_of_ble_eq_true rfl) rfl (Nat.le_of_ble_eq_true rfl) (g_Bk_planCost K.sb K.trucks K.trucks_le) (fun v64 _ => ?_)
      refine Go.iret dBk_assign_134 rfl rfl (by decide) ?_
      exact Or.inl ⟨_, rfl, K⟩
