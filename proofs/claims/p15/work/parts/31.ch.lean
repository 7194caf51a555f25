/-! THE BOOK, 6: doors chosen -/
set_option maxHeartbeats 2000000 in
theorem lp_Ch_bestSetAt_5 {sc : Nat × (Nat → Int32)} {d bc bs : Nat} {nd nt : Nat} {nw : Int32} {h0 : AH} {h : AH} {Q : GO → AH → Prop} (x : Int32) (n : Nat) (hn : n ≤ 5) (K : KB ((nd, nt), nw) h0 h) (kont0 : ∀ (s : Nat) (z : AV), (s < 32) → Go sc false false (d + 0) bc bs mCh_bestSetAt 39 [vO 1 (0), vI x, vI (nI (n)), vI (nI (s)), z] [] h Q) : ∀ (k0 : Nat) (s t : Nat), (s < 32) → (t ≤ n) → n - t ≤ k0 → Go sc false false (d + 0) bc bs mCh_bestSetAt 5 [vO 1 (0), vI x, vI (nI (n)), vI (nI (s)), vI (nI (t))] [] h Q := by
  intro k0
  induction k0 using Nat.strongRecOn with
  | _ k0 ih =>
    intro s t hs ht hk0
    have b_nd : nd ≤ 4 := K.doors_le
    have b_nt : nt ≤ 12 := K.trucks_le
    refine Go.iload dCh_bestSetAt_5 rfl ?_
    refine Go.iload_n dCh_bestSetAt_7 rfl ?_
    refine Go.icmp_ge (tgt := 39) dCh_bestSetAt_8 (by decide) (fun q1 => ?_) (fun q1 => ?_)
    · replace q1 := tle q1 (by omega) (by omega)
      exact Go.weak (kont0 (s) _ (by omega))
    · replace q1 := tnle q1 (by omega) (by omega)
      refine Go.iload_n dCh_bestSetAt_11 rfl ?_
      refine Go.aload_n dCh_bestSetAt_12 rfl (Nat.ne_of_beq_eq_false rfl) ?_
      refine Go.getR dCh_bestSetAt_13 flCh_24 (Nat.le_of_ble_eq_true rfl) rfl K.sc.best ?_
      refine Go.iload dCh_bestSetAt_16 rfl ?_
      refine Go.iald (jn := t) dCh_bestSetAt_18 rfl (Nat.lt_of_lt_of_eq (by omega) (K.sc.lbest).symm) (by omega) ?_
      refine Go.iload_n dCh_bestSetAt_19 rfl ?_
      refine Go.icmp_ne (tgt := 30) dCh_bestSetAt_20 (by decide) (fun q2 => ?_) (fun q2 => ?_)
      · refine Go.iconst (v := nI 0) dCh_bestSetAt_30 (by decide) ?_
        refine Go.ior dCh_bestSetAt_31 ?_
        refine Go.cvt (v' := nI (s ||| 0)) (nI_or _ _) ?_
        refine Go.istore_n dCh_bestSetAt_32 (by decide) rfl ?_
        refine Go.iinc (v := nI (t + 1)) dCh_bestSetAt_33 (by decide) rfl (nI_inc _) rfl ?_
        refine Go.goto (tgt := 5) dCh_bestSetAt_36 (by decide) ?_
        exact Go.weak (ih (n - ((t + 1))) (by omega) ((s ||| 0)) ((t + 1))  (by first | exact or32 _ hs _ (by omega) | (rw [Nat.or_zero]; exact hs)) (by omega) (Nat.le_refl _))
      · refine Go.iconst (v := nI 1) dCh_bestSetAt_23 (by decide) ?_
        refine Go.iload dCh_bestSetAt_24 rfl ?_
        refine Go.ishl dCh_bestSetAt_26 ?_
        refine Go.cvt (v' := nI (2 ^ t)) (nI_shl (by omega)) ?_
        refine Go.goto (tgt := 31) dCh_bestSetAt_27 (by decide) ?_
        refine Go.ior dCh_bestSetAt_31 ?_
        refine Go.cvt (v' := nI (s ||| (2 ^ t))) (nI_or _ _) ?_
        refine Go.istore_n dCh_bestSetAt_32 (by decide) rfl ?_
        refine Go.iinc (v := nI (t + 1)) dCh_bestSetAt_33 (by decide) rfl (nI_inc _) rfl ?_
        refine Go.goto (tgt := 5) dCh_bestSetAt_36 (by decide) ?_
        exact Go.weak (ih (n - ((t + 1))) (by omega) ((s ||| (2 ^ t))) ((t + 1))  (by first | exact or32 _ hs _ (by omega) | (rw [Nat.or_zero]; exact hs)) (by omega) (Nat.le_refl _))
set_option maxHeartbeats 2000000 in
theorem g_Ch_bestSetAt {sc : Nat × (Nat → Int32)} {d bc bs : Nat} {nd nt : Nat} {nw : Int32} {h0 : AH} {h : AH} (K : KB ((nd, nt), nw) h0 h) (x : Int32) (n : Nat) (hn : n ≤ 5) : Go sc true false (d + 0) bc bs mCh_bestSetAt 0 [vO 1 (0), vI x, vI (nI (n)), vU, vU] [] h (rP (fun v => ∃ s : Nat, s < 32 ∧ v = nI s) h) := by
  have b_nd : nd ≤ 4 := K.doors_le
  have b_nt : nt ≤ 12 := K.trucks_le
  refine Go.iconst (v := nI 0) dCh_bestSetAt_0 (by decide) ?_
  refine Go.istore_n dCh_bestSetAt_1 (by decide) rfl ?_
  refine Go.iconst (v := nI 0) dCh_bestSetAt_2 (by decide) ?_
  refine Go.istore dCh_bestSetAt_3 (by decide) rfl ?_
  refine Go.weak (lp_Ch_bestSetAt_5 _ _ (by omega) K (fun s3 z3 hs3 => ?_) _ (0) (0)  (by omega) (by omega) (Nat.le_refl _))
  refine Go.iload_n dCh_bestSetAt_39 rfl ?_
  refine Go.iret dCh_bestSetAt_40 rfl rfl (by decide) ?_
  exact ⟨_, rfl, ⟨_, hs3, rfl⟩, rfl⟩
set_option maxHeartbeats 2000000 in
theorem g_Ch_chooseNothing {sc : Nat × (Nat → Int32)} {d bc bs : Nat} {nd nt : Nat} {nw : Int32} {h0 : AH} {h : AH} (K : KB ((nd, nt), nw) h0 h) (m n p : Nat) (c : Int32) (hm : m ≤ 4) (hn : n ≤ 5) (hp : p < n) (hch : ∀ (p2 : Nat) (c2 : Int32) (h : AH), KB ((nd, nt), nw) h0 h → p2 = p + 1 → Go sc true false (d + 1) 0 0 mCh_choose 0 [vO 1 (0), vI (nI (m)), vI (nI (n)), vI (nI (p2)), vI c2, vU] [] h (PN (KB ((nd, nt), nw) h0))) : Go sc true false (d + 2) bc bs mCh_chooseNothing 0 [vO 1 (0), vI (nI (m)), vI (nI (n)), vI (nI (p)), vI c] [] h (PN (KB ((nd, nt), nw) h0)) := by
  have b_nd : nd ≤ 4 := K.doors_le
  have b_nt : nt ≤ 12 := K.trucks_le
  refine Go.aload_n dCh_chooseNothing_0 rfl (Nat.ne_of_beq_eq_false rfl) ?_
  refine Go.getR dCh_chooseNothing_1 flCh_21 (Nat.le_of_ble_eq_true rfl) rfl K.sc.chosen ?_
  refine Go.iload_n dCh_chooseNothing_4 rfl ?_
  refine Go.iconst (v := -1) dCh_chooseNothing_5 (by decide) ?_
  refine Go.iast (jn := p) dCh_chooseNothing_6 rfl (Nat.lt_of_lt_of_eq (by omega) (K.sc.lchosen).symm) (by omega) ?_
  refine Go.hav (Kp := KB ((nd, nt), nw) h0) (K.upChosen (Or.inl rfl)) (fun hh1 K => ?_)
  refine Go.aload_n dCh_chooseNothing_7 rfl (Nat.ne_of_beq_eq_false rfl) ?_
  refine Go.iload_n dCh_chooseNothing_8 rfl ?_
  refine Go.iload_n dCh_chooseNothing_9 rfl ?_
  refine Go.iload_n dCh_chooseNothing_10 rfl ?_
  refine Go.iconst (v := nI 1) dCh_chooseNothing_11 (by decide) ?_
  refine Go.iadd dCh_chooseNothing_12 ?_
  refine Go.cvt (v' := nI (p + 1)) (nI_add _ _) ?_
  refine Go.iload dCh_chooseNothing_13 rfl ?_
  refine Go.sipush (v := nI 5000) dCh_chooseNothing_15 (by decide) ?_
  refine Go.iadd dCh_chooseNothing_18 ?_
  refine Go.cVn mCh_choose [vI (nI (m)), vI (nI (n)), vI (nI ((p + 1))), vI _] dCh_chooseNothing_19 vwCh_43 (Nat.le_of_ble_eq_true rfl) rfl rfl (Nat.le_of_ble_eq_true rfl) rfl (Nat.le_of_ble_eq_true rfl) (hch ((p + 1)) _ _ K rfl) (fun hh2 K => ?_)
  refine Go.vret dCh_chooseNothing_22 rfl (by decide) ?_
  exact ⟨rfl, K⟩
set_option maxHeartbeats 2000000 in
theorem g_Ch_chooseDoor {sc : Nat × (Nat → Int32)} {d bc bs : Nat} {nd nt : Nat} {nw : Int32} {h0 : AH} {h : AH} (K : KB ((nd, nt), nw) h0 h) (q m n p : Nat) (c : Int32) (hq : q < m) (hm : m ≤ 4) (hn : n ≤ 5) (hp : p < n) (hch : ∀ (p2 : Nat) (c2 : Int32) (h : AH), KB ((nd, nt), nw) h0 h → p2 = p + 1 → Go sc true false (d + 1) 0 0 mCh_choose 0 [vO 1 (0), vI (nI (m)), vI (nI (n)), vI (nI (p2)), vI c2, vU] [] h (PN (KB ((nd, nt), nw) h0))) : Go sc true false (d + 2) bc bs mCh_chooseDoor 0 [vO 1 (0), vI (nI (q)), vI (nI (m)), vI (nI (n)), vI (nI (p)), vI c, vU, vU, vU] [] h (PN (KB ((nd, nt), nw) h0)) := by
  have b_nd : nd ≤ 4 := K.doors_le
  have b_nt : nt ≤ 12 := K.trucks_le
  refine Go.aload_n dCh_chooseDoor_0 rfl (Nat.ne_of_beq_eq_false rfl) ?_
  refine Go.getR dCh_chooseDoor_1 flCh_17 (Nat.le_of_ble_eq_true rfl) rfl K.sc.setAt ?_
  refine Go.iload_n dCh_chooseDoor_4 rfl ?_
  obtain ⟨j4, hj4, ej4⟩ := K.sa (q) (by omega)
  refine Go.ialdv (v := nI (j4)) (jn := q) dCh_chooseDoor_5 rfl (Nat.lt_of_lt_of_eq (by omega) (K.sc.lsetAt).symm) (by omega) ej4 ?_
  refine Go.istore dCh_chooseDoor_6 (by decide) rfl ?_
  refine Go.iload dCh_chooseDoor_8 rfl ?_
  refine Go.iconst (v := nI 1) dCh_chooseDoor_10 (by decide) ?_
  refine Go.iload dCh_chooseDoor_11 rfl ?_
  refine Go.ishl dCh_chooseDoor_13 ?_
  refine Go.cvt (v' := nI (2 ^ p)) (nI_shl (by omega)) ?_
  refine Go.ior dCh_chooseDoor_14 ?_
  refine Go.cvt (v' := nI (j4 ||| (2 ^ p))) (nI_or _ _) ?_
  have hw : (j4 ||| (2 ^ p)) < 32 := or32 _ (by omega) _ (by omega)
  refine Go.istore dCh_chooseDoor_15 (by decide) rfl ?_
  refine Go.aload_n dCh_chooseDoor_17 rfl (Nat.ne_of_beq_eq_false rfl) ?_
  refine Go.getR dCh_chooseDoor_18 flCh_11 (Nat.le_of_ble_eq_true rfl) rfl K.sc.orders ?_
  refine Go.iload_n dCh_chooseDoor_21 rfl ?_
  refine Go.aald (jn := q) dCh_chooseDoor_22 (by decide) rfl rfl (Nat.lt_of_lt_of_eq (by omega) (K.sc.lorders).symm) (by omega) (K.sc.order (q) (by omega)) ?_
  refine Go.getR dCh_chooseDoor_23 flCh_73 (Nat.le_of_ble_eq_true rfl) rfl (K.sc.costs (q) (by omega)) ?_
  refine Go.astore dCh_chooseDoor_26 (by decide) rfl ?_
  refine Go.aload_n dCh_chooseDoor_28 rfl (Nat.ne_of_beq_eq_false rfl) ?_
  refine Go.getR dCh_chooseDoor_29 flCh_17 (Nat.le_of_ble_eq_true rfl) rfl K.sc.setAt ?_
  refine Go.iload_n dCh_chooseDoor_32 rfl ?_
  refine Go.iload dCh_chooseDoor_33 rfl ?_
  refine Go.iast (jn := q) dCh_chooseDoor_35 rfl (Nat.lt_of_lt_of_eq (by omega) (K.sc.lsetAt).symm) (by omega) ?_
  refine Go.hav (Kp := KB ((nd, nt), nw) h0) (K.upSetAt ⟨(j4 ||| (2 ^ p)), by omega, rfl⟩) (fun hh3 K => ?_)
  refine Go.aload_n dCh_chooseDoor_36 rfl (Nat.ne_of_beq_eq_false rfl) ?_
  refine Go.getR dCh_chooseDoor_37 flCh_21 (Nat.le_of_ble_eq_true rfl) rfl K.sc.chosen ?_
  refine Go.iload dCh_chooseDoor_40 rfl ?_
  refine Go.iload_n dCh_chooseDoor_42 rfl ?_
  refine Go.iast (jn := p) dCh_chooseDoor_43 rfl (Nat.lt_of_lt_of_eq (by omega) (K.sc.lchosen).symm) (by omega) ?_
  refine Go.hav (Kp := KB ((nd, nt), nw) h0) (K.upChosen (Or.inr ⟨q, by omega, rfl⟩)) (fun hh4 K => ?_)
  refine Go.aload_n dCh_chooseDoor_44 rfl (Nat.ne_of_beq_eq_false rfl) ?_
  refine Go.iload_n dCh_chooseDoor_45 rfl ?_
  refine Go.iload_n dCh_chooseDoor_46 rfl ?_
  refine Go.iload dCh_chooseDoor_47 rfl ?_
  refine Go.iconst (v := nI 1) dCh_chooseDoor_49 (by decide) ?_
  refine Go.iadd dCh_chooseDoor_50 ?_
  refine Go.cvt (v' := nI (p + 1)) (nI_add _ _) ?_
  refine Go.iload dCh_chooseDoor_51 rfl ?_
  refine Go.aload dCh_chooseDoor_53 rfl (Nat.ne_of_beq_eq_false rfl) ?_
  refine Go.iload dCh_chooseDoor_55 rfl ?_
  refine Go.iald (jn := j4) dCh_chooseDoor_57 rfl (Nat.lt_of_lt_of_eq (by omega) (K.sc.lcosts (q) (by omega)).symm) (by omega) ?_
  refine Go.isub dCh_chooseDoor_58 ?_
  refine Go.aload dCh_chooseDoor_59 rfl (Nat.ne_of_beq_eq_false rfl) ?_
  refine Go.iload dCh_chooseDoor_61 rfl ?_
  refine Go.iald (jn := (j4 ||| (2 ^ p))) dCh_chooseDoor_63 rfl (Nat.lt_of_lt_of_eq (by omega) (K.sc.lcosts (q) (by omega)).symm) (by omega) ?_
  refine Go.iadd dCh_chooseDoor_64 ?_
  refine Go.cVn mCh_choose [vI (nI (m)), vI (nI (n)), vI (nI ((p + 1))), vI _] dCh_chooseDoor_65 vwCh_43 (Nat.le_of_ble_eq_true rfl) rfl rfl (Nat.le_of_ble_eq_true rfl) rfl (Nat.le_of_ble_eq_true rfl) (hch ((p + 1)) _ _ K rfl) (fun hh5 K => ?_)
  refine Go.aload_n dCh_chooseDoor_68 rfl (Nat.ne_of_beq_eq_false rfl) ?_
  refine Go.getR dCh_chooseDoor_69 flCh_17 (Nat.le_of_ble_eq_true rfl) rfl K.sc.setAt ?_
  refine Go.iload_n dCh_chooseDoor_72 rfl ?_
  refine Go.iload dCh_chooseDoor_73 rfl ?_
  refine Go.iast (jn := q) dCh_chooseDoor_75 rfl (Nat.lt_of_lt_of_eq (by omega) (K.sc.lsetAt).symm) (by omega) ?_
  refine Go.hav (Kp := KB ((nd, nt), nw) h0) (K.upSetAt ⟨j4, by omega, rfl⟩) (fun hh6 K => ?_)
  refine Go.vret dCh_chooseDoor_76 rfl (by decide) ?_
  exact ⟨rfl, K⟩
set_option maxHeartbeats 2000000 in
theorem lp_Ch_choose_39 {sc : Nat × (Nat → Int32)} {d bc bs : Nat} {nd nt : Nat} {nw : Int32} {h0 : AH} {Q : GO → AH → Prop} (m n p : Nat) (c : Int32) (hm : m ≤ 4) (hcd : ∀ (q : Nat) (h : AH), q < m → KB ((nd, nt), nw) h0 h → Go sc true false (d + 2) 0 0 mCh_chooseDoor 0 [vO 1 (0), vI (nI (q)), vI (nI (m)), vI (nI (n)), vI (nI (p)), vI c, vU, vU, vU] [] h (PN (KB ((nd, nt), nw) h0))) (kont0 : ∀ (z : AV) (h1 : AH), (KB ((nd, nt), nw) h0 h1) → Go sc false false (d + 3) bc bs mCh_choose 62 [vO 1 (0), vI (nI (m)), vI (nI (n)), vI (nI (p)), vI c, z] [] h1 Q) : ∀ (k0 : Nat) (t : Nat) (h : AH), KB ((nd, nt), nw) h0 h → (t ≤ m) → m - t ≤ k0 → Go sc false false (d + 3) bc bs mCh_choose 39 [vO 1 (0), vI (nI (m)), vI (nI (n)), vI (nI (p)), vI c, vI (nI (t))] [] h Q := by
  intro k0
  induction k0 using Nat.strongRecOn with
  | _ k0 ih =>
    intro t h K ht hk0
    have b_nd : nd ≤ 4 := K.doors_le
    have b_nt : nt ≤ 12 := K.trucks_le
    refine Go.iload dCh_choose_39 rfl ?_
    refine Go.iload_n dCh_choose_41 rfl ?_
    refine Go.icmp_ge (tgt := 62) dCh_choose_42 (by decide) (fun q6 => ?_) (fun q6 => ?_)
    · replace q6 := tle q6 (by omega) (by omega)
      exact Go.weak (kont0  _ _ K )
    · replace q6 := tnle q6 (by omega) (by omega)
      refine Go.aload_n dCh_choose_45 rfl (Nat.ne_of_beq_eq_false rfl) ?_
      refine Go.iload dCh_choose_46 rfl ?_
      refine Go.iload_n dCh_choose_48 rfl ?_
      refine Go.iload_n dCh_choose_49 rfl ?_
      refine Go.iload_n dCh_choose_50 rfl ?_
      refine Go.iload dCh_choose_51 rfl ?_
      refine Go.cVn mCh_chooseDoor [vI (nI (t)), vI (nI (m)), vI (nI (n)), vI (nI (p)), vI c] dCh_choose_53 vwCh_66 (Nat.le_of_ble_eq_true rfl) rfl rfl (Nat.le_of_ble_eq_true rfl) rfl (Nat.le_of_ble_eq_true rfl) (hcd (t) _ (by omega) K) (fun hh7 K => ?_)
      refine Go.iinc (v := nI (t + 1)) dCh_choose_56 (by decide) rfl (nI_inc _) rfl ?_
      refine Go.goto (tgt := 39) dCh_choose_59 (by decide) ?_
      exact Go.weak (ih (m - ((t + 1))) (by omega) ((t + 1))  _ K (by omega) (Nat.le_refl _))
theorem KB.copy {G : GB} {h0 h : AH} {n : Nat} (K : KB G h0 h) (hn : n ≤ 5) : KB G h0 (fun k i j => if k = 100 ∧ i = 2 then va_cpy (h.1 100 1) (h.1 100 2) 0 0 n j else h.1 k i j, h.2) := by
  have e : ∀ k i j, ¬ (k = 100 ∧ i = 2) → (fun k i j => if k = 100 ∧ i = 2 then va_cpy (h.1 100 1) (h.1 100 2) 0 0 n j else h.1 k i j) k i j = h.1 k i j := fun k i j h9 => if_neg h9
  refine ⟨K.sb, K.sc, (e _ _ _ (by omega)).trans K.doors, K.doors_le, (e _ _ _ (by omega)).trans K.trucks, K.trucks_le, (e _ _ _ (by omega)).trans K.now, ?_, K.wait, fun t ht => ?_, fun t ht => K.cd t ht, fun t ht => K.sa t ht, fun c i k hn => (e _ _ _ (by omega)).trans (K.fr.1 c i k hn), K.fr.2⟩
  · exact K.ex
  · show inD (va_cpy (h.1 100 1) (h.1 100 2) 0 0 n t)
    unfold va_cpy
    split
    · exact K.cd _ (by omega)
    · exact K.bd t ht
set_option maxHeartbeats 2000000 in
theorem g_Ch_choose {sc : Nat × (Nat → Int32)} {nd nt : Nat} {nw : Int32} {h0 : AH} (m n : Nat) (hm : m ≤ 4) (hn : n ≤ 5) : ∀ (k d p : Nat) (c : Int32) (h : AH), KB ((nd, nt), nw) h0 h → p + k = n → 2 * k ≤ d → Go sc true false (d + 3) 0 0 mCh_choose 0 [vO 1 (0), vI (nI (m)), vI (nI (n)), vI (nI (p)), vI c, vU] [] h (PN (KB ((nd, nt), nw) h0)) := by
  intro k
  induction k with
  | zero =>
    intro d p c h K hp hd
    have hcd : ∀ (q : Nat) (h : AH), q < m → KB ((nd, nt), nw) h0 h → p < n → Go sc true false (d + 2) 0 0 mCh_chooseDoor 0 [vO 1 (0), vI (nI (q)), vI (nI (m)), vI (nI (n)), vI (nI (p)), vI c, vU, vU, vU] [] h (PN (KB ((nd, nt), nw) h0)) := fun q h hq K h9 => absurd h9 (by omega)
    have hcn : p < n → ∀ (h : AH), KB ((nd, nt), nw) h0 h → Go sc true false (d + 2) 0 0 mCh_chooseNothing 0 [vO 1 (0), vI (nI (m)), vI (nI (n)), vI (nI (p)), vI c] [] h (PN (KB ((nd, nt), nw) h0)) := fun h9 => absurd h9 (by omega)
    refine Go.iload dCh_choose_0 rfl ?_
    refine Go.aload_n dCh_choose_2 rfl (Nat.ne_of_beq_eq_false rfl) ?_
    refine Go.getI dCh_choose_3 flCh_28 (Nat.le_of_ble_eq_true rfl) rfl ?_
    refine Go.icmp_lt (tgt := 10) dCh_choose_6 (by decide) (fun q7 => ?_) (fun q7 => ?_)
    · refine Go.iload_n dCh_choose_10 rfl ?_
      refine Go.iload_n dCh_choose_11 rfl ?_
      refine Go.icmp_lt (tgt := 36) dCh_choose_12 (by decide) (fun q8 => ?_) (fun q8 => ?_)
      · replace q8 := tlt q8 (by omega) (by omega)
        exact absurd hp (by omega)
      · replace q8 := tnlt q8 (by omega) (by omega)
        refine Go.aload_n dCh_choose_15 rfl (Nat.ne_of_beq_eq_false rfl) ?_
        refine Go.iload dCh_choose_16 rfl ?_
        refine Go.putI dCh_choose_18 fwCh_choose_28 (Nat.le_of_ble_eq_true rfl) rfl ⟨rfl, rfl⟩ ?_
        refine Go.hav (Kp := KB ((nd, nt), nw) h0) (K.up (by omega)) (fun hh8 K => ?_)
        refine Go.aload_n dCh_choose_21 rfl (Nat.ne_of_beq_eq_false rfl) ?_
        refine Go.getR dCh_choose_22 flCh_21 (Nat.le_of_ble_eq_true rfl) rfl K.sc.chosen ?_
        refine Go.iconst (v := nI 0) dCh_choose_25 (by decide) ?_
        refine Go.aload_n dCh_choose_26 rfl (Nat.ne_of_beq_eq_false rfl) ?_
        refine Go.getR dCh_choose_27 flCh_24 (Nat.le_of_ble_eq_true rfl) rfl K.sc.best ?_
        refine Go.iconst (v := nI 0) dCh_choose_30 (by decide) ?_
        refine Go.iload_n dCh_choose_31 rfl ?_
        refine Go.acopy (i0 := 1) (i1 := 2) (sp := 0) (dp := 0) (n := n) dCh_choose_32 acCh_60 (by decide) (Nat.le_of_ble_eq_true rfl) (by omega) (by decide) (by decide) (by omega) (by rw [K.sc.lchosen]; omega) (by rw [K.sc.lbest]; omega) ?_
        refine Go.hav (Kp := KB ((nd, nt), nw) h0) (K.copy (by omega)) (fun hh9 K => ?_)
        refine Go.vret dCh_choose_35 rfl (by decide) ?_
        exact ⟨rfl, K⟩
    · refine Go.vret dCh_choose_9 rfl (by decide) ?_
      exact ⟨rfl, K⟩
  | succ k ih =>
    intro d p c h K hp hd
    obtain ⟨d, rfl⟩ : ∃ d2, d = d2 + 2 := ⟨d - 2, by omega⟩
    have hch : ∀ (p2 : Nat) (c2 : Int32) (h : AH), KB ((nd, nt), nw) h0 h → p2 = p + 1 → Go sc true false (d + 2 + 1) 0 0 mCh_choose 0 [vO 1 (0), vI (nI (m)), vI (nI (n)), vI (nI (p2)), vI c2, vU] [] h (PN (KB ((nd, nt), nw) h0)) := fun p2 c2 h K e => by
      subst e
      exact ih d (p + 1) c2 h K (by omega) (by omega)
    have hcd : ∀ (q : Nat) (h : AH), q < m → KB ((nd, nt), nw) h0 h → Go sc true false (d + 2 + 2) 0 0 mCh_chooseDoor 0 [vO 1 (0), vI (nI (q)), vI (nI (m)), vI (nI (n)), vI (nI (p)), vI c, vU, vU, vU] [] h (PN (KB ((nd, nt), nw) h0)) := fun q h hq K => g_Ch_chooseDoor (d := d + 2) K q m n p c hq hm hn (by omega) hch
    have hcn : p < n → ∀ (h : AH), KB ((nd, nt), nw) h0 h → Go sc true false (d + 2 + 2) 0 0 mCh_chooseNothing 0 [vO 1 (0), vI (nI (m)), vI (nI (n)), vI (nI (p)), vI c] [] h (PN (KB ((nd, nt), nw) h0)) := fun h9 h K => g_Ch_chooseNothing (d := d + 2) K m n p c hm hn h9 hch
    refine Go.iload dCh_choose_0 rfl ?_
    refine Go.aload_n dCh_choose_2 rfl (Nat.ne_of_beq_eq_false rfl) ?_
    refine Go.getI dCh_choose_3 flCh_28 (Nat.le_of_ble_eq_true rfl) rfl ?_
    refine Go.icmp_lt (tgt := 10) dCh_choose_6 (by decide) (fun q9 => ?_) (fun q9 => ?_)
    · refine Go.iload_n dCh_choose_10 rfl ?_
      refine Go.iload_n dCh_choose_11 rfl ?_
      refine Go.icmp_lt (tgt := 36) dCh_choose_12 (by decide) (fun q10 => ?_) (fun q10 => ?_)
      · replace q10 := tlt q10 (by omega) (by omega)
        refine Go.iconst (v := nI 0) dCh_choose_36 (by decide) ?_
        refine Go.istore dCh_choose_37 (by decide) rfl ?_
        refine Go.weak (lp_Ch_choose_39 m n p _ hm hcd (fun z11 h11 K => ?_) _ (0)  _ K (by omega) (Nat.le_refl _))
        refine Go.aload_n dCh_choose_62 rfl (Nat.ne_of_beq_eq_false rfl) ?_
        refine Go.iload_n dCh_choose_63 rfl ?_
        refine Go.iload_n dCh_choose_64 rfl ?_
        refine Go.iload_n dCh_choose_65 rfl ?_
        refine Go.iload dCh_choose_66 rfl ?_
        refine Go.cVn mCh_chooseNothing [vI (nI (m)), vI (nI (n)), vI (nI (p)), vI c] dCh_choose_68 vwCh_70 (Nat.le_of_ble_eq_true rfl) rfl rfl (Nat.le_of_ble_eq_true rfl) rfl (Nat.le_of_ble_eq_true rfl) (hcn (by omega) _ K) (fun hh10 K => ?_)
        refine Go.vret dCh_choose_71 rfl (by decide) ?_
        exact ⟨rfl, K⟩
      · replace q10 := tnlt q10 (by omega) (by omega)
        refine Go.aload_n dCh_choose_15 rfl (Nat.ne_of_beq_eq_false rfl) ?_
        refine Go.iload dCh_choose_16 rfl ?_
        refine Go.putI dCh_choose_18 fwCh_choose_28 (Nat.le_of_ble_eq_true rfl) rfl ⟨rfl, rfl⟩ ?_
        refine Go.hav (Kp := KB ((nd, nt), nw) h0) (K.up (by omega)) (fun hh11 K => ?_)
        refine Go.aload_n dCh_choose_21 rfl (Nat.ne_of_beq_eq_false rfl) ?_
        refine Go.getR dCh_choose_22 flCh_21 (Nat.le_of_ble_eq_true rfl) rfl K.sc.chosen ?_
        refine Go.iconst (v := nI 0) dCh_choose_25 (by decide) ?_
        refine Go.aload_n dCh_choose_26 rfl (Nat.ne_of_beq_eq_false rfl) ?_
        refine Go.getR dCh_choose_27 flCh_24 (Nat.le_of_ble_eq_true rfl) rfl K.sc.best ?_
        refine Go.iconst (v := nI 0) dCh_choose_30 (by decide) ?_
        refine Go.iload_n dCh_choose_31 rfl ?_
        refine Go.acopy (i0 := 1) (i1 := 2) (sp := 0) (dp := 0) (n := n) dCh_choose_32 acCh_60 (by decide) (Nat.le_of_ble_eq_true rfl) (by omega) (by decide) (by decide) (by omega) (by rw [K.sc.lchosen]; omega) (by rw [K.sc.lbest]; omega) ?_
        refine Go.hav (Kp := KB ((nd, nt), nw) h0) (K.copy (by omega)) (fun hh12 K => ?_)
        refine Go.vret dCh_choose_35 rfl (by decide) ?_
        exact ⟨rfl, K⟩
    · refine Go.vret dCh_choose_9 rfl (by decide) ?_
      exact ⟨rfl, K⟩
