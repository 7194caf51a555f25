/-! THE BOOK, 5: orders at a door -/
set_option maxHeartbeats 2000000 in
theorem g_Or_startIn {sc : Nat × (Nat → Int32)} {d bc bs : Nat} {nd nt : Nat} {nw : Int32} {h0 : AH} {h : AH} (K : KB ((nd, nt), nw) h0 h) (i s p : Nat) (hi : i < 4) (hs : s < 32) (hp : p < 5) : Go sc true false (d + 0) bc bs mOr_startIn 0 [vO 2 (i), vI (nI (s)), vI (nI (p))] [] h (rP (fun _ => True) h) := by
  have b_nd : nd ≤ 4 := K.doors_le
  have b_nt : nt ≤ 12 := K.trucks_le
  refine Go.aload_n dOr_startIn_0 rfl (Nat.ne_of_beq_eq_false rfl) ?_
  refine Go.getR dOr_startIn_1 flOr_15 (Nat.le_of_ble_eq_true rfl) rfl (K.sc.bests (i) (by omega)) ?_
  refine Go.iload_n dOr_startIn_4 rfl ?_
  refine Go.iconst (v := nI 5) dOr_startIn_5 (by decide) ?_
  refine Go.imul dOr_startIn_6 ?_
  refine Go.cvt (v' := nI (s * 5)) (pk_mul _ _) ?_
  refine Go.iload_n dOr_startIn_7 rfl ?_
  refine Go.iadd dOr_startIn_8 ?_
  refine Go.cvt (v' := nI ((s * 5) + p)) (nI_add _ _) ?_
  refine Go.iald (jn := ((s * 5) + p)) dOr_startIn_9 rfl (Nat.lt_of_lt_of_eq (by omega) (K.sc.lbests (i) (by omega)).symm) (by omega) ?_
  refine Go.iret dOr_startIn_10 rfl rfl (by decide) ?_
  exact ⟨_, rfl, trivial, rfl⟩
set_option maxHeartbeats 2000000 in
theorem lp_Or_startsComeFirst_2 {sc : Nat × (Nat → Int32)} {d bc bs : Nat} {nd nt : Nat} {nw : Int32} {h0 : AH} {h : AH} {Q : GO → AH → Prop} (i s n : Nat) (hi : i < 4) (hs : s < 32) (hn : n ≤ 5) (hret : ∀ v : Int32, Q (.inl (some (vI v))) h) (K : KB ((nd, nt), nw) h0 h)  : ∀ (k0 : Nat) (t : Nat) (z : AV), (t ≤ n) → n - t ≤ k0 → Go sc false false (d + 0) bc bs mOr_startsComeFirst 2 [vO 2 (i), vI (nI (s)), vI (nI (n)), vI (nI (t)), z] [] h Q := by
  intro k0
  induction k0 using Nat.strongRecOn with
  | _ k0 ih =>
    intro t z ht hk0
    have b_nd : nd ≤ 4 := K.doors_le
    have b_nt : nt ≤ 12 := K.trucks_le
    refine Go.iload_n dOr_startsComeFirst_2 rfl ?_
    refine Go.iload_n dOr_startsComeFirst_3 rfl ?_
    refine Go.icmp_ge (tgt := 61) dOr_startsComeFirst_4 (by decide) (fun q1 => ?_) (fun q1 => ?_)
    · replace q1 := tle q1 (by omega) (by omega)
      refine Go.iconst (v := nI 0) dOr_startsComeFirst_61 (by decide) ?_
      refine Go.iret dOr_startsComeFirst_62 rfl rfl (by decide) ?_
      exact hret _
    · replace q1 := tnle q1 (by omega) (by omega)
      refine Go.aload_n dOr_startsComeFirst_7 rfl (Nat.ne_of_beq_eq_false rfl) ?_
      refine Go.getR dOr_startsComeFirst_8 flOr_15 (Nat.le_of_ble_eq_true rfl) rfl (K.sc.bests (i) (by omega)) ?_
      refine Go.iload_n dOr_startsComeFirst_11 rfl ?_
      refine Go.iconst (v := nI 5) dOr_startsComeFirst_12 (by decide) ?_
      refine Go.imul dOr_startsComeFirst_13 ?_
      refine Go.cvt (v' := nI (s * 5)) (pk_mul _ _) ?_
      refine Go.iload_n dOr_startsComeFirst_14 rfl ?_
      refine Go.iadd dOr_startsComeFirst_15 ?_
      refine Go.cvt (v' := nI ((s * 5) + t)) (nI_add _ _) ?_
      refine Go.iald (jn := ((s * 5) + t)) dOr_startsComeFirst_16 rfl (Nat.lt_of_lt_of_eq (by omega) (K.sc.lbests (i) (by omega)).symm) (by omega) ?_
      refine Go.istore dOr_startsComeFirst_17 (by decide) rfl ?_
      refine Go.iload_n dOr_startsComeFirst_19 rfl ?_
      refine Go.iconst (v := nI 1) dOr_startsComeFirst_20 (by decide) ?_
      refine Go.iload_n dOr_startsComeFirst_21 rfl ?_
      refine Go.ishl dOr_startsComeFirst_22 ?_
      refine Go.cvt (v' := nI (2 ^ t)) (nI_shl (by omega)) ?_
      refine Go.iand dOr_startsComeFirst_23 ?_
      refine Go.cvt (v' := nI (s &&& (2 ^ t))) (nI_and _ _) ?_
      refine Go.if_eq (tgt := 55) dOr_startsComeFirst_24 (by decide) (fun q2 => ?_) (fun q2 => ?_)
      · replace q2 := zeq q2 (Nat.lt_of_le_of_lt Nat.and_le_left (by omega))
        refine Go.iinc (v := nI (t + 1)) dOr_startsComeFirst_55 (by decide) rfl (nI_inc _) rfl ?_
        refine Go.goto (tgt := 2) dOr_startsComeFirst_58 (by decide) ?_
        exact Go.weak (ih (n - ((t + 1))) (by omega) ((t + 1)) _ (by omega) (Nat.le_refl _))
      · replace q2 := zne q2 (Nat.lt_of_le_of_lt Nat.and_le_left (by omega))
        refine Go.aload_n dOr_startsComeFirst_27 rfl (Nat.ne_of_beq_eq_false rfl) ?_
        refine Go.getR dOr_startsComeFirst_28 flOr_18 (Nat.le_of_ble_eq_true rfl) rfl (K.sc.starts (i) (by omega)) ?_
        refine Go.iload_n dOr_startsComeFirst_31 rfl ?_
        refine Go.iald (jn := t) dOr_startsComeFirst_32 rfl (Nat.lt_of_lt_of_eq (by omega) (K.sc.lstarts (i) (by omega)).symm) (by omega) ?_
        refine Go.iload dOr_startsComeFirst_33 rfl ?_
        refine Go.icmp_eq (tgt := 55) dOr_startsComeFirst_35 (by decide) (fun q3 => ?_) (fun q3 => ?_)
        · refine Go.iinc (v := nI (t + 1)) dOr_startsComeFirst_55 (by decide) rfl (nI_inc _) rfl ?_
          refine Go.goto (tgt := 2) dOr_startsComeFirst_58 (by decide) ?_
          exact Go.weak (ih (n - ((t + 1))) (by omega) ((t + 1)) _ (by omega) (Nat.le_refl _))
        · refine Go.aload_n dOr_startsComeFirst_38 rfl (Nat.ne_of_beq_eq_false rfl) ?_
          refine Go.getR dOr_startsComeFirst_39 flOr_18 (Nat.le_of_ble_eq_true rfl) rfl (K.sc.starts (i) (by omega)) ?_
          refine Go.iload_n dOr_startsComeFirst_42 rfl ?_
          refine Go.iald (jn := t) dOr_startsComeFirst_43 rfl (Nat.lt_of_lt_of_eq (by omega) (K.sc.lstarts (i) (by omega)).symm) (by omega) ?_
          refine Go.iload dOr_startsComeFirst_44 rfl ?_
          refine Go.icmp_ge (tgt := 53) dOr_startsComeFirst_46 (by decide) (fun q4 => ?_) (fun q4 => ?_)
          · refine Go.iconst (v := nI 0) dOr_startsComeFirst_53 (by decide) ?_
            refine Go.iret dOr_startsComeFirst_54 rfl rfl (by decide) ?_
            exact hret _
          · refine Go.iconst (v := nI 1) dOr_startsComeFirst_49 (by decide) ?_
            refine Go.goto (tgt := 54) dOr_startsComeFirst_50 (by decide) ?_
            refine Go.iret dOr_startsComeFirst_54 rfl rfl (by decide) ?_
            exact hret _
set_option maxHeartbeats 2000000 in
theorem g_Or_startsComeFirst {sc : Nat × (Nat → Int32)} {d bc bs : Nat} {nd nt : Nat} {nw : Int32} {h0 : AH} {h : AH} (K : KB ((nd, nt), nw) h0 h) (i s n : Nat) (hi : i < 4) (hs : s < 32) (hn : n ≤ 5) : Go sc true false (d + 0) bc bs mOr_startsComeFirst 0 [vO 2 (i), vI (nI (s)), vI (nI (n)), vU, vU] [] h (rP (fun _ => True) h) := by
  have b_nd : nd ≤ 4 := K.doors_le
  have b_nt : nt ≤ 12 := K.trucks_le
  refine Go.iconst (v := nI 0) dOr_startsComeFirst_0 (by decide) ?_
  refine Go.istore_n dOr_startsComeFirst_1 (by decide) rfl ?_
  exact Go.weak (lp_Or_startsComeFirst_2 i s n hi hs hn (fun _ => ⟨_, rfl, trivial, rfl⟩) K _ 0 _ (by omega) (Nat.le_refl _))
set_option maxHeartbeats 2000000 in
theorem lp_Or_keepIfBetter_40 {sc : Nat × (Nat → Int32)} {d bc bs : Nat} {nd nt : Nat} {nw : Int32} {h0 : AH} {Q : GO → AH → Prop} (i s n : Nat) (x : Int32) (hi : i < 4) (hs : s < 32) (hn : n ≤ 5) (kont0 : ∀ (z : AV) (h1 : AH), (KB ((nd, nt), nw) h0 h1) → Go sc false false (d + 1) bc bs mOr_keepIfBetter 70 [vO 2 (i), vI (nI (s)), vI (nI (n)), vI x, z] [] h1 Q) : ∀ (k0 : Nat) (t : Nat) (h : AH), KB ((nd, nt), nw) h0 h → (t ≤ n) → n - t ≤ k0 → Go sc false false (d + 1) bc bs mOr_keepIfBetter 40 [vO 2 (i), vI (nI (s)), vI (nI (n)), vI x, vI (nI (t))] [] h Q := by
  intro k0
  induction k0 using Nat.strongRecOn with
  | _ k0 ih =>
    intro t h K ht hk0
    have b_nd : nd ≤ 4 := K.doors_le
    have b_nt : nt ≤ 12 := K.trucks_le
    refine Go.iload dOr_keepIfBetter_40 rfl ?_
    refine Go.iload_n dOr_keepIfBetter_42 rfl ?_
    refine Go.icmp_ge (tgt := 70) dOr_keepIfBetter_43 (by decide) (fun q5 => ?_) (fun q5 => ?_)
    · replace q5 := tle q5 (by omega) (by omega)
      exact Go.weak (kont0  _ _ K )
    · replace q5 := tnle q5 (by omega) (by omega)
      refine Go.aload_n dOr_keepIfBetter_46 rfl (Nat.ne_of_beq_eq_false rfl) ?_
      refine Go.getR dOr_keepIfBetter_47 flOr_15 (Nat.le_of_ble_eq_true rfl) rfl (K.sc.bests (i) (by omega)) ?_
      refine Go.iload_n dOr_keepIfBetter_50 rfl ?_
      refine Go.iconst (v := nI 5) dOr_keepIfBetter_51 (by decide) ?_
      refine Go.imul dOr_keepIfBetter_52 ?_
      refine Go.cvt (v' := nI (s * 5)) (pk_mul _ _) ?_
      refine Go.iload dOr_keepIfBetter_53 rfl ?_
      refine Go.iadd dOr_keepIfBetter_55 ?_
      refine Go.cvt (v' := nI ((s * 5) + t)) (nI_add _ _) ?_
      refine Go.aload_n dOr_keepIfBetter_56 rfl (Nat.ne_of_beq_eq_false rfl) ?_
      refine Go.getR dOr_keepIfBetter_57 flOr_18 (Nat.le_of_ble_eq_true rfl) rfl (K.sc.starts (i) (by omega)) ?_
      refine Go.iload dOr_keepIfBetter_60 rfl ?_
      refine Go.iald (jn := t) dOr_keepIfBetter_62 rfl (Nat.lt_of_lt_of_eq (by omega) (K.sc.lstarts (i) (by omega)).symm) (by omega) ?_
      refine Go.iast (jn := ((s * 5) + t)) dOr_keepIfBetter_63 rfl (Nat.lt_of_lt_of_eq (by omega) (K.sc.lbests (i) (by omega)).symm) (by omega) ?_
      refine Go.hav (Kp := KB ((nd, nt), nw) h0) (K.up (by omega)) (fun hh1 K => ?_)
      refine Go.iinc (v := nI (t + 1)) dOr_keepIfBetter_64 (by decide) rfl (nI_inc _) rfl ?_
      refine Go.goto (tgt := 40) dOr_keepIfBetter_67 (by decide) ?_
      exact Go.weak (ih (n - ((t + 1))) (by omega) ((t + 1))  _ K (by omega) (Nat.le_refl _))
set_option maxHeartbeats 2000000 in
theorem g_Or_keepIfBetter {sc : Nat × (Nat → Int32)} {d bc bs : Nat} {nd nt : Nat} {nw : Int32} {h0 : AH} {h : AH} (K : KB ((nd, nt), nw) h0 h) (i s n : Nat) (x : Int32) (hi : i < 4) (hs : s < 32) (hn : n ≤ 5) : Go sc true false (d + 1) bc bs mOr_keepIfBetter 0 [vO 2 (i), vI (nI (s)), vI (nI (n)), vI x, vU] [] h (PN (KB ((nd, nt), nw) h0)) := by
  have b_nd : nd ≤ 4 := K.doors_le
  have b_nt : nt ≤ 12 := K.trucks_le
  refine Go.iload_n dOr_keepIfBetter_0 rfl ?_
  refine Go.aload_n dOr_keepIfBetter_1 rfl (Nat.ne_of_beq_eq_false rfl) ?_
  refine Go.getR dOr_keepIfBetter_2 flOr_9 (Nat.le_of_ble_eq_true rfl) rfl (K.sc.costs (i) (by omega)) ?_
  refine Go.iload_n dOr_keepIfBetter_5 rfl ?_
  refine Go.iald (jn := s) dOr_keepIfBetter_6 rfl (Nat.lt_of_lt_of_eq (by omega) (K.sc.lcosts (i) (by omega)).symm) (by omega) ?_
  refine Go.icmp_gt (tgt := 29) dOr_keepIfBetter_7 (by decide) (fun q6 => ?_) (fun q6 => ?_)
  · refine Go.vret dOr_keepIfBetter_29 rfl (by decide) ?_
    exact ⟨rfl, K⟩
  · refine Go.iload_n dOr_keepIfBetter_10 rfl ?_
    refine Go.aload_n dOr_keepIfBetter_11 rfl (Nat.ne_of_beq_eq_false rfl) ?_
    refine Go.getR dOr_keepIfBetter_12 flOr_9 (Nat.le_of_ble_eq_true rfl) rfl (K.sc.costs (i) (by omega)) ?_
    refine Go.iload_n dOr_keepIfBetter_15 rfl ?_
    refine Go.iald (jn := s) dOr_keepIfBetter_16 rfl (Nat.lt_of_lt_of_eq (by omega) (K.sc.lcosts (i) (by omega)).symm) (by omega) ?_
    refine Go.icmp_ne (tgt := 30) dOr_keepIfBetter_17 (by decide) (fun q7 => ?_) (fun q7 => ?_)
    · refine Go.aload_n dOr_keepIfBetter_30 rfl (Nat.ne_of_beq_eq_false rfl) ?_
      refine Go.getR dOr_keepIfBetter_31 flOr_9 (Nat.le_of_ble_eq_true rfl) rfl (K.sc.costs (i) (by omega)) ?_
      refine Go.iload_n dOr_keepIfBetter_34 rfl ?_
      refine Go.iload_n dOr_keepIfBetter_35 rfl ?_
      refine Go.iast (jn := s) dOr_keepIfBetter_36 rfl (Nat.lt_of_lt_of_eq (by omega) (K.sc.lcosts (i) (by omega)).symm) (by omega) ?_
      refine Go.hav (Kp := KB ((nd, nt), nw) h0) (K.up (by omega)) (fun hh2 K => ?_)
      refine Go.iconst (v := nI 0) dOr_keepIfBetter_37 (by decide) ?_
      refine Go.istore dOr_keepIfBetter_38 (by decide) rfl ?_
      refine Go.weak (lp_Or_keepIfBetter_40 _ _ _ _ (by omega) (by omega) (by omega) (fun z8 h8 K => ?_) _ (0)  _ K (by omega) (Nat.le_refl _))
      refine Go.vret dOr_keepIfBetter_70 rfl (by decide) ?_
      exact ⟨rfl, K⟩
    · refine Go.aload_n dOr_keepIfBetter_20 rfl (Nat.ne_of_beq_eq_false rfl) ?_
      refine Go.iload_n dOr_keepIfBetter_21 rfl ?_
      refine Go.iload_n dOr_keepIfBetter_22 rfl ?_
      refine Go.cVr mOr_startsComeFirst [vI (nI (s)), vI (nI (n))] dOr_keepIfBetter_23 vwOr_56 (Nat.le_of_ble_eq_true rfl) rfl rfl (Nat.le_of_ble_eq_true rfl) rfl (Nat.le_of_ble_eq_true rfl) (g_Or_startsComeFirst K (i) (s) (n) (by omega) (by omega) (by omega)) (fun v9 _ => ?_)
      refine Go.if_ne (tgt := 30) dOr_keepIfBetter_26 (by decide) (fun q10 => ?_) (fun q10 => ?_)
      · refine Go.aload_n dOr_keepIfBetter_30 rfl (Nat.ne_of_beq_eq_false rfl) ?_
        refine Go.getR dOr_keepIfBetter_31 flOr_9 (Nat.le_of_ble_eq_true rfl) rfl (K.sc.costs (i) (by omega)) ?_
        refine Go.iload_n dOr_keepIfBetter_34 rfl ?_
        refine Go.iload_n dOr_keepIfBetter_35 rfl ?_
        refine Go.iast (jn := s) dOr_keepIfBetter_36 rfl (Nat.lt_of_lt_of_eq (by omega) (K.sc.lcosts (i) (by omega)).symm) (by omega) ?_
        refine Go.hav (Kp := KB ((nd, nt), nw) h0) (K.up (by omega)) (fun hh3 K => ?_)
        refine Go.iconst (v := nI 0) dOr_keepIfBetter_37 (by decide) ?_
        refine Go.istore dOr_keepIfBetter_38 (by decide) rfl ?_
        refine Go.weak (lp_Or_keepIfBetter_40 _ _ _ _ (by omega) (by omega) (by omega) (fun z11 h11 K => ?_) _ (0)  _ K (by omega) (Nat.le_refl _))
        refine Go.vret dOr_keepIfBetter_70 rfl (by decide) ?_
        exact ⟨rfl, K⟩
      · refine Go.vret dOr_keepIfBetter_29 rfl (by decide) ?_
        exact ⟨rfl, K⟩
set_option maxHeartbeats 2000000 in
theorem g_Or_add {sc : Nat × (Nat → Int32)} {d bc bs : Nat} {nd nt : Nat} {nw : Int32} {h0 : AH} {h : AH} (K : KB ((nd, nt), nw) h0 h) (i dn n s p : Nat) (x y : Int32) (hi : i < 4) (hn : n ≤ 5) (hs : s < 32) (hp : p < n) (hb : s / 2 ^ p % 2 = 0) (hext : ∀ (s2 : Nat) (r2 c2 : Int32) (h : AH), KB ((nd, nt), nw) h0 h → s2 < 32 → bn s2 5 = bn s 5 + 1 → Go sc true false (d + 1) 0 0 mOr_extend 0 [vO 2 (i), vO 0 (dn), vO 113 1, vI (nI (n)), vI (nI (s2)), vI r2, vI c2, vU] [] h (PN (KB ((nd, nt), nw) h0))) : Go sc true false (d + 2) bc bs mOr_add 0 [vO 2 (i), vO 0 (dn), vO 113 1, vI (nI (n)), vI (nI (s)), vI (nI (p)), vI x, vI y, vU, vU] [] h (PN (KB ((nd, nt), nw) h0)) := by
  have b_nd : nd ≤ 4 := K.doors_le
  have b_nt : nt ≤ 12 := K.trucks_le
  refine Go.aload_n dOr_add_0 rfl (Nat.ne_of_beq_eq_false rfl) ?_
  refine Go.iload dOr_add_1 rfl ?_
  obtain ⟨j12, hj12, ej12⟩ := K.wait (p) (by omega)
  refine Go.aald (jn := p) dOr_add_3 (by decide) rfl rfl (Nat.lt_of_lt_of_eq (by omega) (K.sb.lwait).symm) (by omega) ej12 ?_
  refine Go.astore dOr_add_4 (by decide) rfl ?_
  refine Go.aload_n dOr_add_6 rfl (Nat.ne_of_beq_eq_false rfl) ?_
  refine Go.aload dOr_add_7 rfl (Nat.ne_of_beq_eq_false rfl) ?_
  refine Go.iload dOr_add_9 rfl ?_
  refine Go.cVv mDo_startOf [vO 3 (j12), vI x] dOr_add_11 vwOr_40 (Nat.le_of_ble_eq_true rfl) rfl rfl (Nat.le_of_ble_eq_true rfl) rfl (Nat.le_of_ble_eq_true rfl) (g_Do_startOf (dn) (j12) _) (fun v13 _ => ?_)
  refine Go.istore dOr_add_14 (by decide) rfl ?_
  refine Go.iload dOr_add_16 rfl ?_
  refine Go.iconst (v := -1) dOr_add_18 (by decide) ?_
  refine Go.icmp_ne (tgt := 23) dOr_add_19 (by decide) (fun q14 => ?_) (fun q14 => ?_)
  · refine Go.aload_n dOr_add_23 rfl (Nat.ne_of_beq_eq_false rfl) ?_
    refine Go.getR dOr_add_24 flOr_18 (Nat.le_of_ble_eq_true rfl) rfl (K.sc.starts (i) (by omega)) ?_
    refine Go.iload dOr_add_27 rfl ?_
    refine Go.iload dOr_add_29 rfl ?_
    refine Go.iast (jn := p) dOr_add_31 rfl (Nat.lt_of_lt_of_eq (by omega) (K.sc.lstarts (i) (by omega)).symm) (by omega) ?_
    refine Go.hav (Kp := KB ((nd, nt), nw) h0) (K.up (by omega)) (fun hh4 K => ?_)
    refine Go.aload_n dOr_add_32 rfl (Nat.ne_of_beq_eq_false rfl) ?_
    refine Go.aload_n dOr_add_33 rfl (Nat.ne_of_beq_eq_false rfl) ?_
    refine Go.aload_n dOr_add_34 rfl (Nat.ne_of_beq_eq_false rfl) ?_
    refine Go.iload_n dOr_add_35 rfl ?_
    refine Go.iload dOr_add_36 rfl ?_
    refine Go.iconst (v := nI 1) dOr_add_38 (by decide) ?_
    refine Go.iload dOr_add_39 rfl ?_
    refine Go.ishl dOr_add_41 ?_
    refine Go.cvt (v' := nI (2 ^ p)) (nI_shl (by omega)) ?_
    refine Go.ior dOr_add_42 ?_
    refine Go.cvt (v' := nI (s ||| (2 ^ p))) (nI_or _ _) ?_
    refine Go.iload dOr_add_43 rfl ?_
    refine Go.aload dOr_add_45 rfl (Nat.ne_of_beq_eq_false rfl) ?_
    refine Go.getI dOr_add_47 flOr_46 (Nat.le_of_ble_eq_true rfl) rfl ?_
    refine Go.iadd dOr_add_50 ?_
    refine Go.iload dOr_add_51 rfl ?_
    refine Go.aload dOr_add_53 rfl (Nat.ne_of_beq_eq_false rfl) ?_
    refine Go.iload dOr_add_55 rfl ?_
    refine Go.cVv mTr_costAt [vI v13] dOr_add_57 vwOr_52 (Nat.le_of_ble_eq_true rfl) rfl rfl (Nat.le_of_ble_eq_true rfl) rfl (Nat.le_of_ble_eq_true rfl) (g_Tr_costAt (j12) _) (fun v15 _ => ?_)
    refine Go.iadd dOr_add_60 ?_
    refine Go.cVn mOr_extend [vO 0 (dn), vO 113 1, vI (nI (n)), vI (nI ((s ||| (2 ^ p)))), vI _, vI _] dOr_add_61 vwOr_28 (Nat.le_of_ble_eq_true rfl) rfl rfl (Nat.le_of_ble_eq_true rfl) rfl (Nat.le_of_ble_eq_true rfl) (hext ((s ||| (2 ^ p))) _ _ _ K (by first | exact or32 _ hs _ (by omega) | omega) (by rw [bn_or hb]; rw [if_pos (by omega)])) (fun hh5 K => ?_)
    refine Go.vret dOr_add_64 rfl (by decide) ?_
    exact ⟨rfl, K⟩
  · refine Go.vret dOr_add_22 rfl (by decide) ?_
    exact ⟨rfl, K⟩
set_option maxHeartbeats 2000000 in
theorem lp_Or_extend_12 {sc : Nat × (Nat → Int32)} {d bc bs : Nat} {nd nt : Nat} {nw : Int32} {h0 : AH} {Q : GO → AH → Prop} (i dn n s : Nat) (x y : Int32) (hi : i < 4) (hs : s < 32) (hn : n ≤ 5) (hadd : ∀ (p : Nat) (h : AH), p < n → s / 2 ^ p % 2 = 0 → KB ((nd, nt), nw) h0 h → Go sc true false (d + 2) 0 0 mOr_add 0 [vO 2 (i), vO 0 (dn), vO 113 1, vI (nI (n)), vI (nI (s)), vI (nI (p)), vI x, vI y, vU, vU] [] h (PN (KB ((nd, nt), nw) h0))) (kont0 : ∀ (z : AV) (h1 : AH), (KB ((nd, nt), nw) h0 h1) → Go sc false false (d + 3) bc bs mOr_extend 49 [vO 2 (i), vO 0 (dn), vO 113 1, vI (nI (n)), vI (nI (s)), vI x, vI y, z] [] h1 Q) : ∀ (k0 : Nat) (t : Nat) (h : AH), KB ((nd, nt), nw) h0 h → (t ≤ n) → n - t ≤ k0 → Go sc false false (d + 3) bc bs mOr_extend 12 [vO 2 (i), vO 0 (dn), vO 113 1, vI (nI (n)), vI (nI (s)), vI x, vI y, vI (nI (t))] [] h Q := by
  intro k0
  induction k0 using Nat.strongRecOn with
  | _ k0 ih =>
    intro t h K ht hk0
    have b_nd : nd ≤ 4 := K.doors_le
    have b_nt : nt ≤ 12 := K.trucks_le
    refine Go.iload dOr_extend_12 rfl ?_
    refine Go.iload_n dOr_extend_14 rfl ?_
    refine Go.icmp_ge (tgt := 49) dOr_extend_15 (by decide) (fun q16 => ?_) (fun q16 => ?_)
    · replace q16 := tle q16 (by omega) (by omega)
      exact Go.weak (kont0  _ _ K )
    · replace q16 := tnle q16 (by omega) (by omega)
      refine Go.iload dOr_extend_18 rfl ?_
      refine Go.iconst (v := nI 1) dOr_extend_20 (by decide) ?_
      refine Go.iload dOr_extend_21 rfl ?_
      refine Go.ishl dOr_extend_23 ?_
      refine Go.cvt (v' := nI (2 ^ t)) (nI_shl (by omega)) ?_
      refine Go.iand dOr_extend_24 ?_
      refine Go.cvt (v' := nI (s &&& (2 ^ t))) (nI_and _ _) ?_
      refine Go.if_ne (tgt := 43) dOr_extend_25 (by decide) (fun q17 => ?_) (fun q17 => ?_)
      · replace q17 := zne q17 (Nat.lt_of_le_of_lt Nat.and_le_left (by omega))
        refine Go.iinc (v := nI (t + 1)) dOr_extend_43 (by decide) rfl (nI_inc _) rfl ?_
        refine Go.goto (tgt := 12) dOr_extend_46 (by decide) ?_
        exact Go.weak (ih (n - ((t + 1))) (by omega) ((t + 1))  _ K (by omega) (Nat.le_refl _))
      · replace q17 := zeq q17 (Nat.lt_of_le_of_lt Nat.and_le_left (by omega))
        refine Go.aload_n dOr_extend_28 rfl (Nat.ne_of_beq_eq_false rfl) ?_
        refine Go.aload_n dOr_extend_29 rfl (Nat.ne_of_beq_eq_false rfl) ?_
        refine Go.aload_n dOr_extend_30 rfl (Nat.ne_of_beq_eq_false rfl) ?_
        refine Go.iload_n dOr_extend_31 rfl ?_
        refine Go.iload dOr_extend_32 rfl ?_
        refine Go.iload dOr_extend_34 rfl ?_
        refine Go.iload dOr_extend_36 rfl ?_
        refine Go.iload dOr_extend_38 rfl ?_
        refine Go.cVn mOr_add [vO 0 (dn), vO 113 1, vI (nI (n)), vI (nI (s)), vI (nI (t)), vI x, vI y] dOr_extend_40 vwOr_36 (Nat.le_of_ble_eq_true rfl) rfl rfl (Nat.le_of_ble_eq_true rfl) rfl (Nat.le_of_ble_eq_true rfl) (hadd (t) _ (by omega) (and_bit _ (by omega) _ (by omega) q17) K) (fun hh6 K => ?_)
        refine Go.iinc (v := nI (t + 1)) dOr_extend_43 (by decide) rfl (nI_inc _) rfl ?_
        refine Go.goto (tgt := 12) dOr_extend_46 (by decide) ?_
        exact Go.weak (ih (n - ((t + 1))) (by omega) ((t + 1))  _ K (by omega) (Nat.le_refl _))
set_option maxHeartbeats 2000000 in
theorem g_Or_extend {sc : Nat × (Nat → Int32)} {nd nt : Nat} {nw : Int32} {h0 : AH} (i dn n : Nat) (hi : i < 4) (hn : n ≤ 5) : ∀ (k d s : Nat) (x y : Int32) (h : AH), KB ((nd, nt), nw) h0 h → s < 32 → 5 - bn s 5 ≤ k → 2 * k ≤ d → Go sc true false (d + 3) 0 0 mOr_extend 0 [vO 2 (i), vO 0 (dn), vO 113 1, vI (nI (n)), vI (nI (s)), vI x, vI y, vU] [] h (PN (KB ((nd, nt), nw) h0)) := by
  intro k
  induction k with
  | zero =>
    intro d s x y h K hs hk hd
    have hadd : ∀ (p : Nat) (h : AH), p < n → s / 2 ^ p % 2 = 0 → KB ((nd, nt), nw) h0 h → Go sc true false (d + 2) 0 0 mOr_add 0 [vO 2 (i), vO 0 (dn), vO 113 1, vI (nI (n)), vI (nI (s)), vI (nI (p)), vI x, vI y, vU, vU] [] h (PN (KB ((nd, nt), nw) h0)) := fun p h hp hb K => by
      have h1 := bn_or hb 5
      rw [if_pos (by omega)] at h1
      have h2 := bn_le (s ||| 2 ^ p) 5
      omega
    refine Go.aload_n dOr_extend_0 rfl (Nat.ne_of_beq_eq_false rfl) ?_
    refine Go.iload dOr_extend_1 rfl ?_
    refine Go.iload_n dOr_extend_3 rfl ?_
    refine Go.iload dOr_extend_4 rfl ?_
    refine Go.cVn mOr_keepIfBetter [vI (nI (s)), vI (nI (n)), vI y] dOr_extend_6 vwOr_32 (Nat.le_of_ble_eq_true rfl) rfl rfl (Nat.le_of_ble_eq_true rfl) rfl (Nat.le_of_ble_eq_true rfl) (g_Or_keepIfBetter K (i) (s) (n) _ (by omega) (by omega) (by omega)) (fun hh7 K => ?_)
    refine Go.iconst (v := nI 0) dOr_extend_9 (by decide) ?_
    refine Go.istore dOr_extend_10 (by decide) rfl ?_
    refine Go.weak (lp_Or_extend_12 i dn n s _ _ hi hs hn hadd (fun z18 h18 K => ?_) _ (0)  _ K (by omega) (Nat.le_refl _))
    refine Go.vret dOr_extend_49 rfl (by decide) ?_
    exact ⟨rfl, K⟩
  | succ k ih =>
    intro d s x y h K hs hk hd
    obtain ⟨d, rfl⟩ : ∃ d2, d = d2 + 2 := ⟨d - 2, by omega⟩
    have hadd : ∀ (p : Nat) (h : AH), p < n → s / 2 ^ p % 2 = 0 → KB ((nd, nt), nw) h0 h → Go sc true false (d + 2 + 2) 0 0 mOr_add 0 [vO 2 (i), vO 0 (dn), vO 113 1, vI (nI (n)), vI (nI (s)), vI (nI (p)), vI x, vI y, vU, vU] [] h (PN (KB ((nd, nt), nw) h0)) := fun p h hp hb K => by
      refine g_Or_add (d := d + 2) K i dn n s p x y hi hn hs hp hb (fun s2 r2 c2 h K hs2 hb2 => ?_)
      have h2 := bn_le s2 5
      exact ih d s2 r2 c2 h K hs2 (by omega) (by omega)
    refine Go.aload_n dOr_extend_0 rfl (Nat.ne_of_beq_eq_false rfl) ?_
    refine Go.iload dOr_extend_1 rfl ?_
    refine Go.iload_n dOr_extend_3 rfl ?_
    refine Go.iload dOr_extend_4 rfl ?_
    refine Go.cVn mOr_keepIfBetter [vI (nI (s)), vI (nI (n)), vI y] dOr_extend_6 vwOr_32 (Nat.le_of_ble_eq_true rfl) rfl rfl (Nat.le_of_ble_eq_true rfl) rfl (Nat.le_of_ble_eq_true rfl) (g_Or_keepIfBetter K (i) (s) (n) _ (by omega) (by omega) (by omega)) (fun hh8 K => ?_)
    refine Go.iconst (v := nI 0) dOr_extend_9 (by decide) ?_
    refine Go.istore dOr_extend_10 (by decide) rfl ?_
    refine Go.weak (lp_Or_extend_12 i dn n s _ _ hi hs hn hadd (fun z19 h19 K => ?_) _ (0)  _ K (by omega) (Nat.le_refl _))
    refine Go.vret dOr_extend_49 rfl (by decide) ?_
    exact ⟨rfl, K⟩
set_option maxHeartbeats 2000000 in
theorem lp_Ja_fill_5 {sc : Nat × (Nat → Int32)} {d bc bs : Nat} {nd nt : Nat} {nw : Int32} {h0 : AH} {Q : GO → AH → Prop} (i : Nat) (x : Int32) (hi : i < 4) (kont0 : ∀ (z : AV) (h1 : AH), (KB ((nd, nt), nw) h0 h1) → Go sc false false (d + 0) bc bs mJa_fill 20 [vO 100 (3 + 3 * (i)), vI x, z, vI (nI (32))] [] h1 Q) : ∀ (k0 : Nat) (t : Nat) (h : AH), KB ((nd, nt), nw) h0 h → (t ≤ 32) → 32 - t ≤ k0 → Go sc false false (d + 0) bc bs mJa_fill 5 [vO 100 (3 + 3 * (i)), vI x, vI (nI (t)), vI (nI (32))] [] h Q := by
  intro k0
  induction k0 using Nat.strongRecOn with
  | _ k0 ih =>
    intro t h K ht hk0
    have b_nd : nd ≤ 4 := K.doors_le
    have b_nt : nt ≤ 12 := K.trucks_le
    refine Go.iload_n dJa_fill_5 rfl ?_
    refine Go.iload_n dJa_fill_6 rfl ?_
    refine Go.icmp_ge (tgt := 20) dJa_fill_7 (by decide) (fun q20 => ?_) (fun q20 => ?_)
    · replace q20 := tle q20 (by omega) (by omega)
      exact Go.weak (kont0  _ _ K )
    · replace q20 := tnle q20 (by omega) (by omega)
      refine Go.aload_n dJa_fill_10 rfl (Nat.ne_of_beq_eq_false rfl) ?_
      refine Go.iload_n dJa_fill_11 rfl ?_
      refine Go.iload_n dJa_fill_12 rfl ?_
      refine Go.iast (jn := t) dJa_fill_13 rfl (Nat.lt_of_lt_of_eq (by omega) (K.sc.lcosts (i) (by omega)).symm) (by omega) ?_
      refine Go.hav (Kp := KB ((nd, nt), nw) h0) (K.up (by omega)) (fun hh9 K => ?_)
      refine Go.iinc (v := nI (t + 1)) dJa_fill_14 (by decide) rfl (nI_inc _) rfl ?_
      refine Go.goto (tgt := 5) dJa_fill_17 (by decide) ?_
      exact Go.weak (ih (32 - ((t + 1))) (by omega) ((t + 1))  _ K (by omega) (Nat.le_refl _))
set_option maxHeartbeats 2000000 in
theorem g_Ja_fill {sc : Nat × (Nat → Int32)} {d bc bs : Nat} {nd nt : Nat} {nw : Int32} {h0 : AH} {h : AH} (K : KB ((nd, nt), nw) h0 h) (i : Nat) (x : Int32) (hi : i < 4) : Go sc true false (d + 0) bc bs mJa_fill 0 [vO 100 (3 + 3 * (i)), vI x, vU, vU] [] h (PN (KB ((nd, nt), nw) h0)) := by
  have b_nd : nd ≤ 4 := K.doors_le
  have b_nt : nt ≤ 12 := K.trucks_le
  refine Go.iconst (v := nI 0) dJa_fill_0 (by decide) ?_
  refine Go.istore_n dJa_fill_1 (by decide) rfl ?_
  refine Go.aload_n dJa_fill_2 rfl (Nat.ne_of_beq_eq_false rfl) ?_
  refine Go.alen dJa_fill_3 (by decide) rfl ?_
  refine Go.cvt (v' := nI 32) (congrArg Int32.ofNat (K.sc.lcosts (i) (by omega))) ?_
  refine Go.istore_n dJa_fill_4 (by decide) rfl ?_
  refine Go.weak (lp_Ja_fill_5 i _ hi (fun z21 h21 K => ?_) _ (0)  _ K (by omega) (Nat.le_refl _))
  refine Go.vret dJa_fill_20 rfl (by decide) ?_
  exact ⟨rfl, K⟩
set_option maxHeartbeats 2000000 in
theorem g_Or_findAll {sc : Nat × (Nat → Int32)} {d bc bs : Nat} {nd nt : Nat} {nw : Int32} {h0 : AH} {h : AH} (K : KB ((nd, nt), nw) h0 h) (i dn n : Nat) (x : Int32) (hi : i < 4) (hdn : dn < 4) (hn : n ≤ 5) : Go sc true false (d + 14) bc bs mOr_findAll 0 [vO 2 (i), vO 0 (dn), vO 113 1, vI (nI (n)), vI x] [] h (PN (KB ((nd, nt), nw) h0)) := by
  have b_nd : nd ≤ 4 := K.doors_le
  have b_nt : nt ≤ 12 := K.trucks_le
  refine Go.aload_n dOr_findAll_0 rfl (Nat.ne_of_beq_eq_false rfl) ?_
  refine Go.getR dOr_findAll_1 flOr_9 (Nat.le_of_ble_eq_true rfl) rfl (K.sc.costs (i) (by omega)) ?_
  refine Go.ldci dOr_findAll_4 lcOr_21 ?_
  refine Go.cSn mJa_fill [vO 100 (3 + 3 * (i)), vI _] dOr_findAll_6 vwOr_22 rfl rfl (Nat.le_of_ble_eq_true rfl) rfl (Nat.le_of_ble_eq_true rfl) (g_Ja_fill K i _ (by omega)) (fun hh10 K => ?_)
  refine Go.aload_n dOr_findAll_9 rfl (Nat.ne_of_beq_eq_false rfl) ?_
  refine Go.aload_n dOr_findAll_10 rfl (Nat.ne_of_beq_eq_false rfl) ?_
  refine Go.aload_n dOr_findAll_11 rfl (Nat.ne_of_beq_eq_false rfl) ?_
  refine Go.iload_n dOr_findAll_12 rfl ?_
  refine Go.iconst (v := nI 0) dOr_findAll_13 (by decide) ?_
  refine Go.iload dOr_findAll_14 rfl ?_
  refine Go.iconst (v := nI 0) dOr_findAll_16 (by decide) ?_
  refine Go.cVn mOr_extend [vO 0 (dn), vO 113 1, vI (nI (n)), vI (nI (0)), vI x, vI (nI (0))] dOr_findAll_17 vwOr_28 (Nat.le_of_ble_eq_true rfl) rfl rfl (Nat.le_of_ble_eq_true rfl) rfl (Nat.le_of_ble_eq_true rfl) (g_Or_extend i dn n hi hn 5 (d + 10) 0 _ _ _ K (by decide) (by omega) (by omega)) (fun hh11 K => ?_)
  refine Go.vret dOr_findAll_20 rfl (by decide) ?_
  exact ⟨rfl, K⟩
