/-! THE REFERENCE, 4: planning, exactly -/
set_option maxHeartbeats 2000000 in
theorem lp_Mo_exactly_12 {sc : Nat × (Nat → Int32)} {d bc bs : Nat} {md mt wn : Nat} {nw : Int32} {stf wtf : Nat → Int32} {h0 : AH} {Q : GO → AH → Prop} (q : Nat) (hq : q < md) (h5 : wn ≤ 5) (kont0 : ∀ (z2 z3 z4 z5 z6 : AV) (h1 : AH), (KR ((md, mt, wn), nw, stf, wtf) h0 h1) → Go sc false false (d + 4) bc bs mMo_exactly 34 [vO 5 (0), vI (nI (q)), z2, z3, z4, z5, z6] [] h1 Q) : ∀ (k0 : Nat) (b : Nat) (z3 z4 z5 z6 : AV) (h : AH), KR ((md, mt, wn), nw, stf, wtf) h0 h → (b ≤ 2 ^ wn) → 2 ^ wn - b ≤ k0 → Go sc false false (d + 4) bc bs mMo_exactly 12 [vO 5 (0), vI (nI (q)), vI (nI (b)), z3, z4, z5, z6] [] h Q := by
  intro k0
  induction k0 using Nat.strongRecOn with
  | _ k0 ih =>
    intro b z3 z4 z5 z6 h K hb hk0
    have b_md : md ≤ 4 := K.doors_le
    have b_mt : mt ≤ 12 := K.trucks_le
    have b_wn : wn ≤ 12 := K.waits_le
    have h32 := pow5 wn h5
    refine Go.iload_n dMo_exactly_12 rfl ?_
    refine Go.iconst (v := nI 1) dMo_exactly_13 (by decide) ?_
    refine Go.aload_n dMo_exactly_14 rfl (Nat.ne_of_beq_eq_false rfl) ?_
    refine Go.getIv (v := nI (wn)) dMo_exactly_15 flMo_79 (Nat.le_of_ble_eq_true rfl) rfl K.waits ?_
    refine Go.ishl dMo_exactly_18 ?_
    refine Go.cvt (v' := nI (2 ^ wn)) (nI_shl (by omega)) ?_
    refine Go.icmp_ge (tgt := 34) dMo_exactly_19 (by decide) (fun q1 => ?_) (fun q1 => ?_)
    · replace q1 := tle q1 (by omega) (by omega)
      exact Go.weak (kont0  _ _ _ _ _ _ K )
    · replace q1 := tnle q1 (by omega) (by omega)
      refine Go.aload_n dMo_exactly_22 rfl (Nat.ne_of_beq_eq_false rfl) ?_
      refine Go.iload_n dMo_exactly_23 rfl ?_
      refine Go.iload_n dMo_exactly_24 rfl ?_
      refine Go.cVn mMo_findSet [vI (nI (q)), vI (nI (b))] dMo_exactly_25 vwMo_117 (Nat.le_of_ble_eq_true rfl) rfl rfl (Nat.le_of_ble_eq_true rfl) rfl (Nat.le_of_ble_eq_true rfl) (g_Mo_findSet K (q) (b) (by omega) (by omega) ) (fun hh1 K => ?_)
      refine Go.iinc (v := nI (b + 1)) dMo_exactly_28 (by decide) rfl (nI_inc _) rfl ?_
      refine Go.goto (tgt := 12) dMo_exactly_31 (by decide) ?_
      exact Go.weak (ih (2 ^ wn - ((b + 1))) (by omega) ((b + 1)) _ _ _ _ _ K (by omega) (Nat.le_refl _))
set_option maxHeartbeats 2000000 in
theorem lp_Mo_exactly_2 {sc : Nat × (Nat → Int32)} {d bc bs : Nat} {md mt wn : Nat} {nw : Int32} {stf wtf : Nat → Int32} {h0 : AH} {Q : GO → AH → Prop} (h5 : wn ≤ 5) (kont0 : ∀ (z1 z2 z3 z4 z5 z6 : AV) (h1 : AH), (KR ((md, mt, wn), nw, stf, wtf) h0 h1) → Go sc false false (d + 4) bc bs mMo_exactly 40 [vO 5 (0), z1, z2, z3, z4, z5, z6] [] h1 Q) : ∀ (k0 : Nat) (q : Nat) (z2 z3 z4 z5 z6 : AV) (h : AH), KR ((md, mt, wn), nw, stf, wtf) h0 h → (q ≤ md) → md - q ≤ k0 → Go sc false false (d + 4) bc bs mMo_exactly 2 [vO 5 (0), vI (nI (q)), z2, z3, z4, z5, z6] [] h Q := by
  intro k0
  induction k0 using Nat.strongRecOn with
  | _ k0 ih =>
    intro q z2 z3 z4 z5 z6 h K hq hk0
    have b_md : md ≤ 4 := K.doors_le
    have b_mt : mt ≤ 12 := K.trucks_le
    have b_wn : wn ≤ 12 := K.waits_le
    have h32 := pow5 wn h5
    refine Go.iload_n dMo_exactly_2 rfl ?_
    refine Go.aload_n dMo_exactly_3 rfl (Nat.ne_of_beq_eq_false rfl) ?_
    refine Go.getIv (v := nI (md)) dMo_exactly_4 flMo_16 (Nat.le_of_ble_eq_true rfl) rfl K.doors ?_
    refine Go.icmp_ge (tgt := 40) dMo_exactly_7 (by decide) (fun q2 => ?_) (fun q2 => ?_)
    · replace q2 := tle q2 (by omega) (by omega)
      exact Go.weak (kont0  _ _ _ _ _ _ _ K )
    · replace q2 := tnle q2 (by omega) (by omega)
      refine Go.iconst (v := nI 0) dMo_exactly_10 (by decide) ?_
      refine Go.istore_n dMo_exactly_11 (by decide) rfl ?_
      refine Go.weak (lp_Mo_exactly_12 _ (by omega) h5 (fun z23 z33 z43 z53 z63 h3 K => ?_) _ (0) _ _ _ _ _ K (Nat.zero_le _) (Nat.le_refl _))
      refine Go.iinc (v := nI (q + 1)) dMo_exactly_34 (by decide) rfl (nI_inc _) rfl ?_
      refine Go.goto (tgt := 2) dMo_exactly_37 (by decide) ?_
      exact Go.weak (ih (md - ((q + 1))) (by omega) ((q + 1)) _ _ _ _ _ _ K (by omega) (Nat.le_refl _))
set_option maxHeartbeats 2000000 in
theorem lp_Mo_exactly_44 {sc : Nat × (Nat → Int32)} {d bc bs : Nat} {md mt wn : Nat} {nw : Int32} {stf wtf : Nat → Int32} {h0 : AH} {h : AH} {Q : GO → AH → Prop}  (K : KR ((md, mt, wn), nw, stf, wtf) h0 h) (kont0 : ∀ (x : Int32) (z2 z3 z4 z5 z6 : AV), Go sc false false (d + 4) bc bs mMo_exactly 62 [vO 5 (0), vI x, z2, z3, z4, z5, z6] [] h Q) : ∀ (k0 : Nat) (i : Nat) (x : Int32) (z3 z4 z5 z6 : AV), (i ≤ wn) → wn - i ≤ k0 → Go sc false false (d + 4) bc bs mMo_exactly 44 [vO 5 (0), vI x, vI (nI (i)), z3, z4, z5, z6] [] h Q := by
  intro k0
  induction k0 using Nat.strongRecOn with
  | _ k0 ih =>
    intro i x z3 z4 z5 z6 hi hk0
    have b_md : md ≤ 4 := K.doors_le
    have b_mt : mt ≤ 12 := K.trucks_le
    have b_wn : wn ≤ 12 := K.waits_le
    refine Go.iload_n dMo_exactly_44 rfl ?_
    refine Go.aload_n dMo_exactly_45 rfl (Nat.ne_of_beq_eq_false rfl) ?_
    refine Go.getIv (v := nI (wn)) dMo_exactly_46 flMo_79 (Nat.le_of_ble_eq_true rfl) rfl K.waits ?_
    refine Go.icmp_ge (tgt := 62) dMo_exactly_49 (by decide) (fun q4 => ?_) (fun q4 => ?_)
    · replace q4 := tle q4 (by omega) (by omega)
      exact Go.weak (kont0  _ _ _ _ _ _ )
    · replace q4 := tnle q4 (by omega) (by omega)
      refine Go.iload_n dMo_exactly_52 rfl ?_
      refine Go.iconst (v := nI 5) dMo_exactly_53 (by decide) ?_
      refine Go.imul dMo_exactly_54 ?_
      refine Go.istore_n dMo_exactly_55 (by decide) rfl ?_
      refine Go.iinc (v := nI (i + 1)) dMo_exactly_56 (by decide) rfl (nI_inc _) rfl ?_
      refine Go.goto (tgt := 44) dMo_exactly_59 (by decide) ?_
      exact Go.weak (ih (wn - ((i + 1))) (by omega) ((i + 1)) _ _ _ _ _ (by omega) (Nat.le_refl _))
set_option maxHeartbeats 2000000 in
theorem lp_Mo_exactly_69 {sc : Nat × (Nat → Int32)} {d bc bs : Nat} {md mt wn : Nat} {nw : Int32} {stf wtf : Nat → Int32} {h0 : AH} {Q : GO → AH → Prop} (x : Int32) (h5 : wn ≤ 5) (kont0 : ∀ (b : Nat) (l : Int32) (z0 z1 z2 : AV) (h1 : AH), (KR ((md, mt, wn), nw, stf, wtf) h0 h1) → (b ≤ 2 ^ 31) → Go sc false false (d + 4) bc bs mMo_exactly 110 [vO 5 (0), vI x, vI (im b), vI l, z0, z1, z2] [] h1 Q) : ∀ (k0 : Nat) (b k : Nat) (l : Int32) (z1 z2 : AV) (h : AH), KR ((md, mt, wn), nw, stf, wtf) h0 h → (b ≤ 2 ^ 31) → (k < 2 ^ 31) → x.toInt.toNat - k ≤ k0 → Go sc false false (d + 4) bc bs mMo_exactly 69 [vO 5 (0), vI x, vI (im b), vI l, vI (nI (k)), z1, z2] [] h Q := by
  intro k0
  induction k0 using Nat.strongRecOn with
  | _ k0 ih =>
    intro b k l z1 z2 h K hb hk hk0
    have b_md : md ≤ 4 := K.doors_le
    have b_mt : mt ≤ 12 := K.trucks_le
    have b_wn : wn ≤ 12 := K.waits_le
    refine Go.iload dMo_exactly_69 rfl ?_
    refine Go.iload_n dMo_exactly_71 rfl ?_
    refine Go.icmp_ge (tgt := 110) dMo_exactly_72 (by decide) (fun q5 => ?_) (fun q5 => ?_)
    · exact Go.weak (kont0 (b) _ _ _ _ _ K (by omega))
    · obtain ⟨hk1, hk2⟩ := lt_toInt q5 (by omega)
      refine Go.aload_n dMo_exactly_75 rfl (Nat.ne_of_beq_eq_false rfl) ?_
      refine Go.iload dMo_exactly_76 rfl ?_
      refine Go.cVp mMo_costOf [vI (nI (k))] dMo_exactly_78 vwMo_121 (Nat.le_of_ble_eq_true rfl) rfl rfl (Nat.le_of_ble_eq_true rfl) rfl (Nat.le_of_ble_eq_true rfl) (g_Mo_costOf K (k) (by omega) (by omega)) (fun v6 hh2 K => ?_)
      refine Go.istore dMo_exactly_81 (by decide) rfl ?_
      refine Go.iload dMo_exactly_83 rfl ?_
      refine Go.if_lt (tgt := 104) dMo_exactly_85 (by decide) (fun q7 => ?_) (fun q7 => ?_)
      · refine Go.iinc (v := nI (k + 1)) dMo_exactly_104 (by decide) rfl (nI_inc _) rfl ?_
        refine Go.goto (tgt := 69) dMo_exactly_107 (by decide) ?_
        exact Go.weak (ih (x.toInt.toNat - ((k + 1))) (by omega) (b) ((k + 1)) _ _ _ _ K (by omega) (by omega) (Nat.le_refl _))
      · refine Go.iload_n dMo_exactly_88 rfl ?_
        refine Go.if_lt (tgt := 98) dMo_exactly_89 (by decide) (fun q8 => ?_) (fun q8 => ?_)
        · refine Go.iload dMo_exactly_98 rfl ?_
          refine Go.cvt (v' := im (k + 1)) ((im_s _).symm) ?_
          refine Go.istore_n dMo_exactly_100 (by decide) rfl ?_
          refine Go.iload dMo_exactly_101 rfl ?_
          refine Go.istore_n dMo_exactly_103 (by decide) rfl ?_
          refine Go.iinc (v := nI (k + 1)) dMo_exactly_104 (by decide) rfl (nI_inc _) rfl ?_
          refine Go.goto (tgt := 69) dMo_exactly_107 (by decide) ?_
          exact Go.weak (ih (x.toInt.toNat - ((k + 1))) (by omega) ((k + 1)) ((k + 1)) _ _ _ _ K (by omega) (by omega) (Nat.le_refl _))
        · refine Go.iload dMo_exactly_92 rfl ?_
          refine Go.iload_n dMo_exactly_94 rfl ?_
          refine Go.icmp_ge (tgt := 104) dMo_exactly_95 (by decide) (fun q9 => ?_) (fun q9 => ?_)
          · refine Go.iinc (v := nI (k + 1)) dMo_exactly_104 (by decide) rfl (nI_inc _) rfl ?_
            refine Go.goto (tgt := 69) dMo_exactly_107 (by decide) ?_
            exact Go.weak (ih (x.toInt.toNat - ((k + 1))) (by omega) (b) ((k + 1)) _ _ _ _ K (by omega) (by omega) (Nat.le_refl _))
          · refine Go.iload dMo_exactly_98 rfl ?_
            refine Go.cvt (v' := im (k + 1)) ((im_s _).symm) ?_
            refine Go.istore_n dMo_exactly_100 (by decide) rfl ?_
            refine Go.iload dMo_exactly_101 rfl ?_
            refine Go.istore_n dMo_exactly_103 (by decide) rfl ?_
            refine Go.iinc (v := nI (k + 1)) dMo_exactly_104 (by decide) rfl (nI_inc _) rfl ?_
            refine Go.goto (tgt := 69) dMo_exactly_107 (by decide) ?_
            exact Go.weak (ih (x.toInt.toNat - ((k + 1))) (by omega) ((k + 1)) ((k + 1)) _ _ _ _ K (by omega) (by omega) (Nat.le_refl _))
set_option maxHeartbeats 2000000 in
theorem lp_Mo_exactly_121 {sc : Nat × (Nat → Int32)} {d bc bs : Nat} {md mt wn : Nat} {nw : Int32} {stf wtf : Nat → Int32} {h0 : AH} {Q : GO → AH → Prop}  (kont0 : ∀ (z1 z2 z3 z4 z5 z6 : AV) (h1 : AH), (KR ((md, mt, wn), nw, stf, wtf) h0 h1) → Go sc false false (d + 4) bc bs mMo_exactly 163 [vO 5 (0), z1, z2, z3, z4, z5, z6] [] h1 Q) : ∀ (k0 : Nat) (b c : Nat) (z1 z2 z3 z6 : AV) (h : AH), KR ((md, mt, wn), nw, stf, wtf) h0 h → (b ≤ 2 ^ 31) → (c ≤ wn) → c ≤ k0 → Go sc false false (d + 4) bc bs mMo_exactly 121 [vO 5 (0), z1, z2, z3, vI (im b), vI (im c), z6] [] h Q := by
  intro k0
  induction k0 using Nat.strongRecOn with
  | _ k0 ih =>
    intro b c z1 z2 z3 z6 h K hb hc hk0
    have b_md : md ≤ 4 := K.doors_le
    have b_mt : mt ≤ 12 := K.trucks_le
    have b_wn : wn ≤ 12 := K.waits_le
    rcases c with _ | c
    · rw [im_0]
      refine Go.iload dMo_exactly_121 rfl ?_
      refine Go.if_lt (tgt := 163) dMo_exactly_123 (by decide) (fun q10 => ?_) (fun q10 => ?_)
      · exact Go.weak (kont0  _ _ _ _ _ _ _ K )
      · exact absurd q10 (by decide)
    · rw [im_s]
      refine Go.iload dMo_exactly_121 rfl ?_
      refine Go.if_lt (tgt := 163) dMo_exactly_123 (by decide) (fun q11 => ?_) (fun q11 => ?_)
      · exact absurd q11 (nI_pos (by omega))
      · rcases b with _ | b
        · rw [im_0]
          refine Go.iload dMo_exactly_126 rfl ?_
          refine Go.iconst (v := nI 5) dMo_exactly_128 (by decide) ?_
          refine Go.irem dMo_exactly_129 (nI_nz (by omega)) ?_
          refine Go.cvt (v' := -1) (by decide) ?_
          refine Go.istore dMo_exactly_130 (by decide) rfl ?_
          refine Go.iload dMo_exactly_132 rfl ?_
          refine Go.iconst (v := nI 5) dMo_exactly_134 (by decide) ?_
          refine Go.idiv dMo_exactly_135 (nI_nz (by omega)) ?_
          refine Go.cvt (v' := im 1) (by decide) ?_
          refine Go.istore dMo_exactly_136 (by decide) rfl ?_
          refine Go.aload_n dMo_exactly_138 rfl (Nat.ne_of_beq_eq_false rfl) ?_
          refine Go.getR dMo_exactly_139 flMo_85 (Nat.le_of_ble_eq_true rfl) rfl K.r_newDoor ?_
          refine Go.iload dMo_exactly_142 rfl ?_
          refine Go.iload dMo_exactly_144 rfl ?_
          refine Go.iconst (v := nI 4) dMo_exactly_146 (by decide) ?_
          refine Go.icmp_ne (tgt := 154) dMo_exactly_147 (by decide) (fun q12 => ?_) (fun q12 => ?_)
          · refine Go.iload dMo_exactly_154 rfl ?_
            refine Go.iast (jn := c) dMo_exactly_156 rfl (Nat.lt_of_lt_of_eq (by omega) (K.l_newDoor).symm) (by omega) ?_
            refine Go.hav (Kp := KR ((md, mt, wn), nw, stf, wtf) h0) (K.upNewDoor (Or.inl rfl)) (fun hh3 K => ?_)
            refine Go.iinc (v := im (c)) dMo_exactly_157 (by decide) rfl rfl rfl ?_
            refine Go.goto (tgt := 121) dMo_exactly_160 (by decide) ?_
            exact Go.weak (ih (c) (by omega) (1) (c) _ _ _ _ _ K (by omega) (by omega) (Nat.le_refl _))
          · refine Go.iconst (v := -1) dMo_exactly_150 (by decide) ?_
            refine Go.goto (tgt := 156) dMo_exactly_151 (by decide) ?_
            refine Go.iast (jn := c) dMo_exactly_156 rfl (Nat.lt_of_lt_of_eq (by omega) (K.l_newDoor).symm) (by omega) ?_
            refine Go.hav (Kp := KR ((md, mt, wn), nw, stf, wtf) h0) (K.upNewDoor (Or.inl rfl)) (fun hh4 K => ?_)
            refine Go.iinc (v := im (c)) dMo_exactly_157 (by decide) rfl rfl rfl ?_
            refine Go.goto (tgt := 121) dMo_exactly_160 (by decide) ?_
            exact Go.weak (ih (c) (by omega) (1) (c) _ _ _ _ _ K (by omega) (by omega) (Nat.le_refl _))
        · rw [im_s]
          refine Go.iload dMo_exactly_126 rfl ?_
          refine Go.iconst (v := nI 5) dMo_exactly_128 (by decide) ?_
          refine Go.irem dMo_exactly_129 (nI_nz (by omega)) ?_
          refine Go.cvt (v' := nI (b % 5)) (pk_rem (by omega) (by omega) (by omega)) ?_
          refine Go.istore dMo_exactly_130 (by decide) rfl ?_
          refine Go.iload dMo_exactly_132 rfl ?_
          refine Go.iconst (v := nI 5) dMo_exactly_134 (by decide) ?_
          refine Go.idiv dMo_exactly_135 (nI_nz (by omega)) ?_
          refine Go.cvt (v' := nI (b / 5)) (pk_div (by omega) (by omega) (by omega)) ?_
          refine Go.cvt (v' := im ((b / 5) + 1)) ((im_s _).symm) ?_
          refine Go.istore dMo_exactly_136 (by decide) rfl ?_
          refine Go.aload_n dMo_exactly_138 rfl (Nat.ne_of_beq_eq_false rfl) ?_
          refine Go.getR dMo_exactly_139 flMo_85 (Nat.le_of_ble_eq_true rfl) rfl K.r_newDoor ?_
          refine Go.iload dMo_exactly_142 rfl ?_
          refine Go.iload dMo_exactly_144 rfl ?_
          refine Go.iconst (v := nI 4) dMo_exactly_146 (by decide) ?_
          refine Go.icmp_ne (tgt := 154) dMo_exactly_147 (by decide) (fun q13 => ?_) (fun q13 => ?_)
          · replace q13 := tne q13 (by omega) (by omega)
            refine Go.iload dMo_exactly_154 rfl ?_
            refine Go.iast (jn := c) dMo_exactly_156 rfl (Nat.lt_of_lt_of_eq (by omega) (K.l_newDoor).symm) (by omega) ?_
            refine Go.hav (Kp := KR ((md, mt, wn), nw, stf, wtf) h0) (K.upNewDoor (Or.inr ⟨(b % 5), by omega, rfl⟩)) (fun hh5 K => ?_)
            refine Go.iinc (v := im (c)) dMo_exactly_157 (by decide) rfl rfl rfl ?_
            refine Go.goto (tgt := 121) dMo_exactly_160 (by decide) ?_
            exact Go.weak (ih (c) (by omega) (((b / 5) + 1)) (c) _ _ _ _ _ K (by omega) (by omega) (Nat.le_refl _))
          · replace q13 := teq q13 (by omega) (by omega)
            refine Go.iconst (v := -1) dMo_exactly_150 (by decide) ?_
            refine Go.goto (tgt := 156) dMo_exactly_151 (by decide) ?_
            refine Go.iast (jn := c) dMo_exactly_156 rfl (Nat.lt_of_lt_of_eq (by omega) (K.l_newDoor).symm) (by omega) ?_
            refine Go.hav (Kp := KR ((md, mt, wn), nw, stf, wtf) h0) (K.upNewDoor (Or.inl rfl)) (fun hh6 K => ?_)
            refine Go.iinc (v := im (c)) dMo_exactly_157 (by decide) rfl rfl rfl ?_
            refine Go.goto (tgt := 121) dMo_exactly_160 (by decide) ?_
            exact Go.weak (ih (c) (by omega) (((b / 5) + 1)) (c) _ _ _ _ _ K (by omega) (by omega) (Nat.le_refl _))
set_option maxHeartbeats 2000000 in
theorem lp_Mo_exactly_166 {sc : Nat × (Nat → Int32)} {d bc bs : Nat} {md mt wn : Nat} {nw : Int32} {stf wtf : Nat → Int32} {h0 : AH} {Q : GO → AH → Prop} (h5 : wn ≤ 5) (kont0 : ∀ (z1 z2 z3 z4 z5 z6 : AV) (h1 : AH), (KR ((md, mt, wn), nw, stf, wtf) h0 h1) → Go sc false false (d + 4) bc bs mMo_exactly 234 [vO 5 (0), z1, z2, z3, z4, z5, z6] [] h1 Q) : ∀ (k0 : Nat) (i : Nat) (z1 z2 z3 z4 z6 : AV) (h : AH), KR ((md, mt, wn), nw, stf, wtf) h0 h → (i ≤ wn) → wn - i ≤ k0 → Go sc false false (d + 4) bc bs mMo_exactly 166 [vO 5 (0), z1, z2, z3, z4, vI (nI (i)), z6] [] h Q := by
  intro k0
  induction k0 using Nat.strongRecOn with
  | _ k0 ih =>
    intro i z1 z2 z3 z4 z6 h K hi hk0
    have b_md : md ≤ 4 := K.doors_le
    have b_mt : mt ≤ 12 := K.trucks_le
    have b_wn : wn ≤ 12 := K.waits_le
    refine Go.iload dMo_exactly_166 rfl ?_
    refine Go.aload_n dMo_exactly_168 rfl (Nat.ne_of_beq_eq_false rfl) ?_
    refine Go.getIv (v := nI (wn)) dMo_exactly_169 flMo_79 (Nat.le_of_ble_eq_true rfl) rfl K.waits ?_
    refine Go.icmp_ge (tgt := 234) dMo_exactly_172 (by decide) (fun q14 => ?_) (fun q14 => ?_)
    · replace q14 := tle q14 (by omega) (by omega)
      exact Go.weak (kont0  _ _ _ _ _ _ _ K )
    · replace q14 := tnle q14 (by omega) (by omega)
      rcases K.newDoor i (by omega) with en | ⟨j, hj, en⟩
      · skip
        refine Go.aload_n dMo_exactly_175 rfl (Nat.ne_of_beq_eq_false rfl) ?_
        refine Go.getR dMo_exactly_176 flMo_88 (Nat.le_of_ble_eq_true rfl) rfl K.r_newStart ?_
        refine Go.iload dMo_exactly_179 rfl ?_
        refine Go.aload_n dMo_exactly_181 rfl (Nat.ne_of_beq_eq_false rfl) ?_
        refine Go.getR dMo_exactly_182 flMo_85 (Nat.le_of_ble_eq_true rfl) rfl K.r_newDoor ?_
        refine Go.iload dMo_exactly_185 rfl ?_
        refine Go.ialdv (v := (-1)) (jn := i) dMo_exactly_187 rfl (Nat.lt_of_lt_of_eq (by omega) (K.l_newDoor).symm) (by omega) en ?_
        refine Go.if_ge (tgt := 195) dMo_exactly_188 (by decide) (fun q16 => ?_) (fun q16 => ?_)
        · exact absurd q16 (by decide)
        · refine Go.iconst (v := -1) dMo_exactly_191 (by decide) ?_
          refine Go.goto (tgt := 227) dMo_exactly_192 (by decide) ?_
          refine Go.iast (jn := i) dMo_exactly_227 rfl (Nat.lt_of_lt_of_eq (by omega) (K.l_newStart).symm) (by omega) ?_
          refine Go.hav (Kp := KR ((md, mt, wn), nw, stf, wtf) h0) (K.up (by omega)) (fun hh7 K => ?_)
          refine Go.iinc (v := nI (i + 1)) dMo_exactly_228 (by decide) rfl (nI_inc _) rfl ?_
          refine Go.goto (tgt := 166) dMo_exactly_231 (by decide) ?_
          exact Go.weak (ih (wn - ((i + 1))) (by omega) ((i + 1)) _ _ _ _ _ _ K (by omega) (Nat.le_refl _))
      · skip
        refine Go.aload_n dMo_exactly_175 rfl (Nat.ne_of_beq_eq_false rfl) ?_
        refine Go.getR dMo_exactly_176 flMo_88 (Nat.le_of_ble_eq_true rfl) rfl K.r_newStart ?_
        refine Go.iload dMo_exactly_179 rfl ?_
        refine Go.aload_n dMo_exactly_181 rfl (Nat.ne_of_beq_eq_false rfl) ?_
        refine Go.getR dMo_exactly_182 flMo_85 (Nat.le_of_ble_eq_true rfl) rfl K.r_newDoor ?_
        refine Go.iload dMo_exactly_185 rfl ?_
        refine Go.ialdv (v := nI (j)) (jn := i) dMo_exactly_187 rfl (Nat.lt_of_lt_of_eq (by omega) (K.l_newDoor).symm) (by omega) en ?_
        refine Go.if_ge (tgt := 195) dMo_exactly_188 (by decide) (fun q18 => ?_) (fun q18 => ?_)
        · refine Go.aload_n dMo_exactly_195 rfl (Nat.ne_of_beq_eq_false rfl) ?_
          refine Go.getR dMo_exactly_196 flMo_94 (Nat.le_of_ble_eq_true rfl) rfl K.r_setStart ?_
          refine Go.iconst (v := nI 5) dMo_exactly_199 (by decide) ?_
          refine Go.bipush (v := nI 32) dMo_exactly_200 (by decide) ?_
          refine Go.aload_n dMo_exactly_202 rfl (Nat.ne_of_beq_eq_false rfl) ?_
          refine Go.getR dMo_exactly_203 flMo_85 (Nat.le_of_ble_eq_true rfl) rfl K.r_newDoor ?_
          refine Go.iload dMo_exactly_206 rfl ?_
          refine Go.ialdv (v := nI (j)) (jn := i) dMo_exactly_208 rfl (Nat.lt_of_lt_of_eq (by omega) (K.l_newDoor).symm) (by omega) en ?_
          refine Go.imul dMo_exactly_209 ?_
          refine Go.cvt (v' := nI (32 * j)) (pk_mul _ _) ?_
          refine Go.aload_n dMo_exactly_210 rfl (Nat.ne_of_beq_eq_false rfl) ?_
          refine Go.aload_n dMo_exactly_211 rfl (Nat.ne_of_beq_eq_false rfl) ?_
          refine Go.getR dMo_exactly_212 flMo_85 (Nat.le_of_ble_eq_true rfl) rfl K.r_newDoor ?_
          refine Go.iload dMo_exactly_215 rfl ?_
          refine Go.ialdv (v := nI (j)) (jn := i) dMo_exactly_217 rfl (Nat.lt_of_lt_of_eq (by omega) (K.l_newDoor).symm) (by omega) en ?_
          refine Go.cVr mMo_setOf [vI (nI (j))] dMo_exactly_218 vwMo_124 (Nat.le_of_ble_eq_true rfl) rfl rfl (Nat.le_of_ble_eq_true rfl) rfl (Nat.le_of_ble_eq_true rfl) (g_Mo_setOf K _  (by omega)) ?_
          rintro v21 (⟨s21, hs21, rfl⟩)
          · refine Go.iadd dMo_exactly_221 ?_
            refine Go.cvt (v' := nI ((32 * j) + s21)) (nI_add _ _) ?_
            refine Go.imul dMo_exactly_222 ?_
            refine Go.cvt (v' := nI (5 * ((32 * j) + s21))) (pk_mul _ _) ?_
            refine Go.iload dMo_exactly_223 rfl ?_
            refine Go.iadd dMo_exactly_225 ?_
            refine Go.cvt (v' := nI ((5 * ((32 * j) + s21)) + i)) (nI_add _ _) ?_
            refine Go.iald (jn := ((5 * ((32 * j) + s21)) + i)) dMo_exactly_226 rfl (Nat.lt_of_lt_of_eq (by omega) (K.l_setStart).symm) (by omega) ?_
            refine Go.iast (jn := i) dMo_exactly_227 rfl (Nat.lt_of_lt_of_eq (by omega) (K.l_newStart).symm) (by omega) ?_
            refine Go.hav (Kp := KR ((md, mt, wn), nw, stf, wtf) h0) (K.up (by omega)) (fun hh8 K => ?_)
            refine Go.iinc (v := nI (i + 1)) dMo_exactly_228 (by decide) rfl (nI_inc _) rfl ?_
            refine Go.goto (tgt := 166) dMo_exactly_231 (by decide) ?_
            exact Go.weak (ih (wn - ((i + 1))) (by omega) ((i + 1)) _ _ _ _ _ _ K (by omega) (Nat.le_refl _))
        · exact absurd (nI_pos' (by omega)) q18
set_option maxHeartbeats 2000000 in
theorem g_Mo_exactly {sc : Nat × (Nat → Int32)} {d bc bs : Nat} {md mt wn : Nat} {nw : Int32} {stf wtf : Nat → Int32} {h0 : AH} {h : AH} (K : KR ((md, mt, wn), nw, stf, wtf) h0 h) (h5 : wn ≤ 5) : Go sc true false (d + 4) bc bs mMo_exactly 0 [vO 5 (0), vU, vU, vU, vU, vU, vU] [] h (PN (KR ((md, mt, wn), nw, stf, wtf) h0)) := by
  have b_md : md ≤ 4 := K.doors_le
  have b_mt : mt ≤ 12 := K.trucks_le
  have b_wn : wn ≤ 12 := K.waits_le
  refine Go.iconst (v := nI 0) dMo_exactly_0 (by decide) ?_
  refine Go.istore_n dMo_exactly_1 (by decide) rfl ?_
  refine Go.weak (lp_Mo_exactly_2 h5 (fun z122 z222 z322 z422 z522 z622 h22 K => ?_) _ (0) _ _ _ _ _ _ K (by omega) (Nat.le_refl _))
  refine Go.iconst (v := nI 1) dMo_exactly_40 (by decide) ?_
  refine Go.istore_n dMo_exactly_41 (by decide) rfl ?_
  refine Go.iconst (v := nI 0) dMo_exactly_42 (by decide) ?_
  refine Go.istore_n dMo_exactly_43 (by decide) rfl ?_
  refine Go.weak (lp_Mo_exactly_44  K (fun x23 z223 z323 z423 z523 z623 => ?_) _ (0) _ _ _ _ _ (by omega) (Nat.le_refl _))
  refine Go.iconst (v := -1) dMo_exactly_62 (by decide) ?_
  refine Go.cvt (v' := im 0) (im_0.symm) ?_
  refine Go.istore_n dMo_exactly_63 (by decide) rfl ?_
  refine Go.iconst (v := nI 0) dMo_exactly_64 (by decide) ?_
  refine Go.istore_n dMo_exactly_65 (by decide) rfl ?_
  refine Go.iconst (v := nI 0) dMo_exactly_66 (by decide) ?_
  refine Go.istore dMo_exactly_67 (by decide) rfl ?_
  refine Go.weak (lp_Mo_exactly_69 _ h5 (fun b24 l24 z024 z124 z224 h24 K hb24 => ?_) _ (0) (0) _ _ _ _ K (by omega) (by omega) (Nat.le_refl _))
  refine Go.iload_n dMo_exactly_110 rfl ?_
  refine Go.istore dMo_exactly_111 (by decide) rfl ?_
  refine Go.aload_n dMo_exactly_113 rfl (Nat.ne_of_beq_eq_false rfl) ?_
  refine Go.getIv (v := nI (wn)) dMo_exactly_114 flMo_79 (Nat.le_of_ble_eq_true rfl) rfl K.waits ?_
  refine Go.iconst (v := nI 1) dMo_exactly_117 (by decide) ?_
  refine Go.isub dMo_exactly_118 ?_
  refine Go.cvt (v' := im wn) (im_e _) ?_
  refine Go.istore dMo_exactly_119 (by decide) rfl ?_
  refine Go.weak (lp_Mo_exactly_121  (fun z125 z225 z325 z425 z525 z625 h25 K => ?_) _ (b24) (wn) _ _ _ _ _ K (by omega) (by omega) (Nat.le_refl _))
  refine Go.iconst (v := nI 0) dMo_exactly_163 (by decide) ?_
  refine Go.istore dMo_exactly_164 (by decide) rfl ?_
  refine Go.weak (lp_Mo_exactly_166 h5 (fun z126 z226 z326 z426 z526 z626 h26 K => ?_) _ (0) _ _ _ _ _ _ K (by omega) (Nat.le_refl _))
  refine Go.vret dMo_exactly_234 rfl (by decide) ?_
  exact ⟨rfl, K⟩
