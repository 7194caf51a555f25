/-! THE REFERENCE, 5: planning by rule; assign -/
set_option maxHeartbeats 2000000 in
theorem lp_Mo_byRule_4 {sc : Nat × (Nat → Int32)} {d bc bs : Nat} {md mt wn : Nat} {nw : Int32} {stf wtf : Nat → Int32} {h0 : AH} {Q : GO → AH → Prop} (D : Nat) (kont0 : ∀ (z2 z3 z4 z5 z6 : AV) (h1 : AH), (KR ((md, mt, wn), nw, stf, wtf) h0 h1) → Go sc false false (d + 2) bc bs mMo_byRule 25 [vO 5 (0), vI (nI (D)), z2, z3, z4, z5, z6] [] h1 Q) : ∀ (k0 : Nat) (i : Nat) (z3 z4 z5 z6 : AV) (h : AH), KR ((md, mt, wn), nw, stf, wtf) h0 h → (i ≤ wn) → wn - i ≤ k0 → Go sc false false (d + 2) bc bs mMo_byRule 4 [vO 5 (0), vI (nI (D)), vI (nI (i)), z3, z4, z5, z6] [] h Q := by
  intro k0
  induction k0 using Nat.strongRecOn with
  | _ k0 ih =>
    intro i z3 z4 z5 z6 h K hi hk0
    have b_md : md ≤ 4 := K.doors_le
    have b_mt : mt ≤ 12 := K.trucks_le
    have b_wn : wn ≤ 12 := K.waits_le
    refine Go.iload_n dMo_byRule_4 rfl ?_
    refine Go.aload_n dMo_byRule_5 rfl (Nat.ne_of_beq_eq_false rfl) ?_
    refine Go.getIv (v := nI (wn)) dMo_byRule_6 flMo_79 (Nat.le_of_ble_eq_true rfl) rfl K.waits ?_
    refine Go.icmp_ge (tgt := 25) dMo_byRule_9 (by decide) (fun q1 => ?_) (fun q1 => ?_)
    · replace q1 := tle q1 (by omega) (by omega)
      exact Go.weak (kont0  _ _ _ _ _ _ K )
    · replace q1 := tnle q1 (by omega) (by omega)
      refine Go.aload_n dMo_byRule_12 rfl (Nat.ne_of_beq_eq_false rfl) ?_
      refine Go.getR dMo_byRule_13 flMo_85 (Nat.le_of_ble_eq_true rfl) rfl K.r_newDoor ?_
      refine Go.iload_n dMo_byRule_16 rfl ?_
      refine Go.iconst (v := -1) dMo_byRule_17 (by decide) ?_
      refine Go.iast (jn := i) dMo_byRule_18 rfl (Nat.lt_of_lt_of_eq (by omega) (K.l_newDoor).symm) (by omega) ?_
      refine Go.hav (Kp := KR ((md, mt, wn), nw, stf, wtf) h0) (K.upNewDoor (Or.inl rfl)) (fun hh1 K => ?_)
      refine Go.iinc (v := nI (i + 1)) dMo_byRule_19 (by decide) rfl (nI_inc _) rfl ?_
      refine Go.goto (tgt := 4) dMo_byRule_22 (by decide) ?_
      exact Go.weak (ih (wn - ((i + 1))) (by omega) ((i + 1)) _ _ _ _ _ K (by omega) (Nat.le_refl _))
set_option maxHeartbeats 2000000 in
theorem lp_Mo_byRule_40 {sc : Nat × (Nat → Int32)} {d bc bs : Nat} {md mt wn : Nat} {nw : Int32} {stf wtf : Nat → Int32} {h0 : AH} {h : AH} {Q : GO → AH → Prop} (D p : Nat) (hD : D < 4096) (K : KR ((md, mt, wn), nw, stf, wtf) h0 h) (kont0 : ∀ (o : Nat) (z4 z5 z6 : AV), (o = 0 ∨ (o ≤ wn ∧ D / 2 ^ (o - 1) % 2 = 0)) → (o = 0 → ∀ j, j < wn → D / 2 ^ j % 2 = 1) → Go sc false false (d + 2) bc bs mMo_byRule 91 [vO 5 (0), vI (nI (D)), vI (nI (p)), vI (im o), z4, z5, z6] [] h Q) : ∀ (k0 : Nat) (o i : Nat) (z5 z6 : AV), (o = 0 ∨ (o ≤ wn ∧ D / 2 ^ (o - 1) % 2 = 0)) → (o = 0 → ∀ j, j < i → D / 2 ^ j % 2 = 1) → (i ≤ wn) → wn - i ≤ k0 → Go sc false false (d + 2) bc bs mMo_byRule 40 [vO 5 (0), vI (nI (D)), vI (nI (p)), vI (im o), vI (nI (i)), z5, z6] [] h Q := by
  intro k0
  induction k0 using Nat.strongRecOn with
  | _ k0 ih =>
    intro o i z5 z6 ho hf hi hk0
    have b_md : md ≤ 4 := K.doors_le
    have b_mt : mt ≤ 12 := K.trucks_le
    have b_wn : wn ≤ 12 := K.waits_le
    have hb2 : D / 2 ^ i % 2 < 2 := Nat.mod_lt _ (by decide)
    refine Go.iload dMo_byRule_40 rfl ?_
    refine Go.aload_n dMo_byRule_42 rfl (Nat.ne_of_beq_eq_false rfl) ?_
    refine Go.getIv (v := nI (wn)) dMo_byRule_43 flMo_79 (Nat.le_of_ble_eq_true rfl) rfl K.waits ?_
    refine Go.icmp_ge (tgt := 91) dMo_byRule_46 (by decide) (fun q2 => ?_) (fun q2 => ?_)
    · replace q2 := tle q2 (by omega) (by omega)
      exact Go.weak (kont0 (o) _ _ _ ho (fun z j hj => hf z j (by omega)))
    · replace q2 := tnle q2 (by omega) (by omega)
      refine Go.iload_n dMo_byRule_49 rfl ?_
      refine Go.iload dMo_byRule_50 rfl ?_
      refine Go.ishr dMo_byRule_52 ?_
      refine Go.cvt (v' := nI (D / 2 ^ i)) (nI_shr (by omega) (by omega)) ?_
      refine Go.iconst (v := nI 1) dMo_byRule_53 (by decide) ?_
      refine Go.iand dMo_byRule_54 ?_
      refine Go.cvt (v' := nI ((D / 2 ^ i) % 2)) (nI_an1 (Nat.lt_of_le_of_lt (Nat.div_le_self _ _) (by omega))) ?_
      refine Go.if_ne (tgt := 85) dMo_byRule_55 (by decide) (fun q3 => ?_) (fun q3 => ?_)
      · replace q3 := zne q3 (by omega)
        refine Go.iinc (v := nI (i + 1)) dMo_byRule_85 (by decide) rfl (nI_inc _) rfl ?_
        refine Go.goto (tgt := 40) dMo_byRule_88 (by decide) ?_
        exact Go.weak (ih (wn - ((i + 1))) (by omega) (o) ((i + 1)) _ _ ho (fun z j hj => by
                  rcases Nat.lt_succ_iff_lt_or_eq.mp hj with y | y
                  · exact hf z j y
                  · subst y; have := q3; omega) (by omega) (Nat.le_refl _))
      · replace q3 := zeq q3 (by omega)
        refine Go.iload_n dMo_byRule_58 rfl ?_
        refine Go.if_lt (tgt := 82) dMo_byRule_59 (by decide) (fun q4 => ?_) (fun q4 => ?_)
        · refine Go.iload dMo_byRule_82 rfl ?_
          refine Go.cvt (v' := im (i + 1)) ((im_s _).symm) ?_
          refine Go.istore_n dMo_byRule_84 (by decide) rfl ?_
          refine Go.iinc (v := nI (i + 1)) dMo_byRule_85 (by decide) rfl (nI_inc _) rfl ?_
          refine Go.goto (tgt := 40) dMo_byRule_88 (by decide) ?_
          exact Go.weak (ih (wn - ((i + 1))) (by omega) ((i + 1)) ((i + 1)) _ _ (Or.inr ⟨by omega, q3⟩) (fun z => absurd z (by omega)) (by omega) (Nat.le_refl _))
        · rcases o with _ | o
          · exact absurd (by rw [im_0]; decide) q4
          · skip
            refine Go.aload_n dMo_byRule_62 rfl (Nat.ne_of_beq_eq_false rfl) ?_
            refine Go.aload_n dMo_byRule_63 rfl (Nat.ne_of_beq_eq_false rfl) ?_
            refine Go.getR dMo_byRule_64 flMo_82 (Nat.le_of_ble_eq_true rfl) rfl K.r_waiting ?_
            refine Go.iload dMo_byRule_67 rfl ?_
            obtain ⟨j5, hj5, ej5⟩ := K.wt12 (i) (by omega)
            refine Go.ialdv (v := nI (j5)) (jn := i) dMo_byRule_69 rfl (Nat.lt_of_lt_of_eq (by omega) (K.l_waiting).symm) (by omega) ((K.waiting (i)).trans ej5) ?_
            refine Go.aload_n dMo_byRule_70 rfl (Nat.ne_of_beq_eq_false rfl) ?_
            refine Go.getR dMo_byRule_71 flMo_82 (Nat.le_of_ble_eq_true rfl) rfl K.r_waiting ?_
            refine Go.iload_n dMo_byRule_74 rfl ?_
            refine Go.cvt (v' := nI o) (im_s _) ?_
            obtain ⟨j6, hj6, ej6⟩ := K.wt12 (o) (by omega)
            refine Go.ialdv (v := nI (j6)) (jn := o) dMo_byRule_75 rfl (Nat.lt_of_lt_of_eq (by omega) (K.l_waiting).symm) (by omega) ((K.waiting (o)).trans ej6) ?_
            refine Go.cVr mMo_ahead [vI (nI (j5)), vI (nI (j6))] dMo_byRule_76 vwMo_127 (Nat.le_of_ble_eq_true rfl) rfl rfl (Nat.le_of_ble_eq_true rfl) rfl (Nat.le_of_ble_eq_true rfl) (g_Mo_ahead K (j5) (j6) (by omega) (by omega) ) (fun v7 _ => ?_)
            refine Go.if_eq (tgt := 85) dMo_byRule_79 (by decide) (fun q8 => ?_) (fun q8 => ?_)
            · refine Go.iinc (v := nI (i + 1)) dMo_byRule_85 (by decide) rfl (nI_inc _) rfl ?_
              refine Go.goto (tgt := 40) dMo_byRule_88 (by decide) ?_
              exact Go.weak (ih (wn - ((i + 1))) (by omega) ((o + 1)) ((i + 1)) _ _ ho (fun z => absurd z (by omega)) (by omega) (Nat.le_refl _))
            · refine Go.iload dMo_byRule_82 rfl ?_
              refine Go.cvt (v' := im (i + 1)) ((im_s _).symm) ?_
              refine Go.istore_n dMo_byRule_84 (by decide) rfl ?_
              refine Go.iinc (v := nI (i + 1)) dMo_byRule_85 (by decide) rfl (nI_inc _) rfl ?_
              refine Go.goto (tgt := 40) dMo_byRule_88 (by decide) ?_
              exact Go.weak (ih (wn - ((i + 1))) (by omega) ((i + 1)) ((i + 1)) _ _ (Or.inr ⟨by omega, q3⟩) (fun z => absurd z (by omega)) (by omega) (Nat.le_refl _))
set_option maxHeartbeats 2000000 in
theorem lp_Mo_byRule_127 {sc : Nat × (Nat → Int32)} {d bc bs : Nat} {md mt wn : Nat} {nw : Int32} {stf wtf : Nat → Int32} {h0 : AH} {h : AH} {Q : GO → AH → Prop} (D p o q : Nat) (hD : D < 4096) (ho : o < wn) (hq : q < md) (K : KR ((md, mt, wn), nw, stf, wtf) h0 h) (kont0 : ∀ (f : Int32) (z6 : AV), Go sc false false (d + 2) bc bs mMo_byRule 217 [vO 5 (0), vI (nI (D)), vI (nI (p)), vI (nI (o)), vI (nI (q)), vI f, z6] [] h Q) : ∀ (k0 : Nat) (i : Nat) (f : Int32), (i ≤ wn) → wn - i ≤ k0 → Go sc false false (d + 2) bc bs mMo_byRule 127 [vO 5 (0), vI (nI (D)), vI (nI (p)), vI (nI (o)), vI (nI (q)), vI f, vI (nI (i))] [] h Q := by
  intro k0
  induction k0 using Nat.strongRecOn with
  | _ k0 ih =>
    intro i f hi hk0
    have b_md : md ≤ 4 := K.doors_le
    have b_mt : mt ≤ 12 := K.trucks_le
    have b_wn : wn ≤ 12 := K.waits_le
    have hb2 : D / 2 ^ i % 2 < 2 := Nat.mod_lt _ (by decide)
    refine Go.iload dMo_byRule_127 rfl ?_
    refine Go.aload_n dMo_byRule_129 rfl (Nat.ne_of_beq_eq_false rfl) ?_
    refine Go.getIv (v := nI (wn)) dMo_byRule_130 flMo_79 (Nat.le_of_ble_eq_true rfl) rfl K.waits ?_
    refine Go.icmp_ge (tgt := 217) dMo_byRule_133 (by decide) (fun q9 => ?_) (fun q9 => ?_)
    · replace q9 := tle q9 (by omega) (by omega)
      exact Go.weak (kont0  _ _ )
    · replace q9 := tnle q9 (by omega) (by omega)
      refine Go.iload_n dMo_byRule_136 rfl ?_
      refine Go.iload dMo_byRule_137 rfl ?_
      refine Go.ishr dMo_byRule_139 ?_
      refine Go.cvt (v' := nI (D / 2 ^ i)) (nI_shr (by omega) (by omega)) ?_
      refine Go.iconst (v := nI 1) dMo_byRule_140 (by decide) ?_
      refine Go.iand dMo_byRule_141 ?_
      refine Go.cvt (v' := nI ((D / 2 ^ i) % 2)) (nI_an1 (Nat.lt_of_le_of_lt (Nat.div_le_self _ _) (by omega))) ?_
      refine Go.iconst (v := nI 1) dMo_byRule_142 (by decide) ?_
      refine Go.icmp_ne (tgt := 211) dMo_byRule_143 (by decide) (fun q10 => ?_) (fun q10 => ?_)
      · replace q10 := tne q10 (by omega) (by omega)
        refine Go.iinc (v := nI (i + 1)) dMo_byRule_211 (by decide) rfl (nI_inc _) rfl ?_
        refine Go.goto (tgt := 127) dMo_byRule_214 (by decide) ?_
        exact Go.weak (ih (wn - ((i + 1))) (by omega) ((i + 1)) _ (by omega) (Nat.le_refl _))
      · replace q10 := teq q10 (by omega) (by omega)
        refine Go.iload dMo_byRule_146 rfl ?_
        refine Go.iload_n dMo_byRule_148 rfl ?_
        refine Go.icmp_eq (tgt := 211) dMo_byRule_149 (by decide) (fun q11 => ?_) (fun q11 => ?_)
        · replace q11 := teq q11 (by omega) (by omega)
          refine Go.iinc (v := nI (i + 1)) dMo_byRule_211 (by decide) rfl (nI_inc _) rfl ?_
          refine Go.goto (tgt := 127) dMo_byRule_214 (by decide) ?_
          exact Go.weak (ih (wn - ((i + 1))) (by omega) ((i + 1)) _ (by omega) (Nat.le_refl _))
        · replace q11 := tne q11 (by omega) (by omega)
          refine Go.aload_n dMo_byRule_152 rfl (Nat.ne_of_beq_eq_false rfl) ?_
          refine Go.getR dMo_byRule_153 flMo_85 (Nat.le_of_ble_eq_true rfl) rfl K.r_newDoor ?_
          refine Go.iload dMo_byRule_156 rfl ?_
          refine Go.iald (jn := i) dMo_byRule_158 rfl (Nat.lt_of_lt_of_eq (by omega) (K.l_newDoor).symm) (by omega) ?_
          refine Go.iload dMo_byRule_159 rfl ?_
          refine Go.icmp_ne (tgt := 211) dMo_byRule_161 (by decide) (fun q12 => ?_) (fun q12 => ?_)
          · refine Go.iinc (v := nI (i + 1)) dMo_byRule_211 (by decide) rfl (nI_inc _) rfl ?_
            refine Go.goto (tgt := 127) dMo_byRule_214 (by decide) ?_
            exact Go.weak (ih (wn - ((i + 1))) (by omega) ((i + 1)) _ (by omega) (Nat.le_refl _))
          · refine Go.aload_n dMo_byRule_164 rfl (Nat.ne_of_beq_eq_false rfl) ?_
            refine Go.getR dMo_byRule_165 flMo_88 (Nat.le_of_ble_eq_true rfl) rfl K.r_newStart ?_
            refine Go.iload dMo_byRule_168 rfl ?_
            refine Go.iald (jn := i) dMo_byRule_170 rfl (Nat.lt_of_lt_of_eq (by omega) (K.l_newStart).symm) (by omega) ?_
            refine Go.aload_n dMo_byRule_171 rfl (Nat.ne_of_beq_eq_false rfl) ?_
            refine Go.getR dMo_byRule_172 flMo_48 (Nat.le_of_ble_eq_true rfl) rfl K.r_need ?_
            refine Go.aload_n dMo_byRule_175 rfl (Nat.ne_of_beq_eq_false rfl) ?_
            refine Go.getR dMo_byRule_176 flMo_82 (Nat.le_of_ble_eq_true rfl) rfl K.r_waiting ?_
            refine Go.iload dMo_byRule_179 rfl ?_
            obtain ⟨j13, hj13, ej13⟩ := K.wt12 (i) (by omega)
            refine Go.ialdv (v := nI (j13)) (jn := i) dMo_byRule_181 rfl (Nat.lt_of_lt_of_eq (by omega) (K.l_waiting).symm) (by omega) ((K.waiting (i)).trans ej13) ?_
            refine Go.iald (jn := j13) dMo_byRule_182 rfl (Nat.lt_of_lt_of_eq (by omega) (K.l_need).symm) (by omega) ?_
            refine Go.iadd dMo_byRule_183 ?_
            refine Go.iload dMo_byRule_184 rfl ?_
            refine Go.icmp_le (tgt := 211) dMo_byRule_186 (by decide) (fun q14 => ?_) (fun q14 => ?_)
            · refine Go.iinc (v := nI (i + 1)) dMo_byRule_211 (by decide) rfl (nI_inc _) rfl ?_
              refine Go.goto (tgt := 127) dMo_byRule_214 (by decide) ?_
              exact Go.weak (ih (wn - ((i + 1))) (by omega) ((i + 1)) _ (by omega) (Nat.le_refl _))
            · refine Go.aload_n dMo_byRule_189 rfl (Nat.ne_of_beq_eq_false rfl) ?_
              refine Go.getR dMo_byRule_190 flMo_88 (Nat.le_of_ble_eq_true rfl) rfl K.r_newStart ?_
              refine Go.iload dMo_byRule_193 rfl ?_
              refine Go.iald (jn := i) dMo_byRule_195 rfl (Nat.lt_of_lt_of_eq (by omega) (K.l_newStart).symm) (by omega) ?_
              refine Go.aload_n dMo_byRule_196 rfl (Nat.ne_of_beq_eq_false rfl) ?_
              refine Go.getR dMo_byRule_197 flMo_48 (Nat.le_of_ble_eq_true rfl) rfl K.r_need ?_
              refine Go.aload_n dMo_byRule_200 rfl (Nat.ne_of_beq_eq_false rfl) ?_
              refine Go.getR dMo_byRule_201 flMo_82 (Nat.le_of_ble_eq_true rfl) rfl K.r_waiting ?_
              refine Go.iload dMo_byRule_204 rfl ?_
              obtain ⟨j15, hj15, ej15⟩ := K.wt12 (i) (by omega)
              refine Go.ialdv (v := nI (j15)) (jn := i) dMo_byRule_206 rfl (Nat.lt_of_lt_of_eq (by omega) (K.l_waiting).symm) (by omega) ((K.waiting (i)).trans ej15) ?_
              refine Go.iald (jn := j15) dMo_byRule_207 rfl (Nat.lt_of_lt_of_eq (by omega) (K.l_need).symm) (by omega) ?_
              refine Go.iadd dMo_byRule_208 ?_
              refine Go.istore dMo_byRule_209 (by decide) rfl ?_
              refine Go.iinc (v := nI (i + 1)) dMo_byRule_211 (by decide) rfl (nI_inc _) rfl ?_
              refine Go.goto (tgt := 127) dMo_byRule_214 (by decide) ?_
              exact Go.weak (ih (wn - ((i + 1))) (by omega) ((i + 1)) _ (by omega) (Nat.le_refl _))
set_option maxHeartbeats 2000000 in
theorem lp_Mo_byRule_107 {sc : Nat × (Nat → Int32)} {d bc bs : Nat} {md mt wn : Nat} {nw : Int32} {stf wtf : Nat → Int32} {h0 : AH} {Q : GO → AH → Prop} (D p o : Nat) (hD : D < 4096) (ho : o < wn) (kont0 : ∀ (z4 z5 z6 : AV) (h1 : AH), (KR ((md, mt, wn), nw, stf, wtf) h0 h1) → Go sc false false (d + 2) bc bs mMo_byRule 280 [vO 5 (0), vI (nI (D)), vI (nI (p)), vI (nI (o)), z4, z5, z6] [] h1 Q) : ∀ (k0 : Nat) (q : Nat) (z5 z6 : AV) (h : AH), KR ((md, mt, wn), nw, stf, wtf) h0 h → (q ≤ md) → md - q ≤ k0 → Go sc false false (d + 2) bc bs mMo_byRule 107 [vO 5 (0), vI (nI (D)), vI (nI (p)), vI (nI (o)), vI (nI (q)), z5, z6] [] h Q := by
  intro k0
  induction k0 using Nat.strongRecOn with
  | _ k0 ih =>
    intro q z5 z6 h K hq hk0
    have b_md : md ≤ 4 := K.doors_le
    have b_mt : mt ≤ 12 := K.trucks_le
    have b_wn : wn ≤ 12 := K.waits_le
    refine Go.iload dMo_byRule_107 rfl ?_
    refine Go.aload_n dMo_byRule_109 rfl (Nat.ne_of_beq_eq_false rfl) ?_
    refine Go.getIv (v := nI (md)) dMo_byRule_110 flMo_16 (Nat.le_of_ble_eq_true rfl) rfl K.doors ?_
    refine Go.icmp_ge (tgt := 280) dMo_byRule_113 (by decide) (fun q16 => ?_) (fun q16 => ?_)
    · replace q16 := tle q16 (by omega) (by omega)
      exact Go.weak (kont0  _ _ _ _ K )
    · replace q16 := tnle q16 (by omega) (by omega)
      refine Go.aload_n dMo_byRule_116 rfl (Nat.ne_of_beq_eq_false rfl) ?_
      refine Go.iload dMo_byRule_117 rfl ?_
      refine Go.cVr mMo_freeFrom [vI (nI (q))] dMo_byRule_119 vwMo_107 (Nat.le_of_ble_eq_true rfl) rfl rfl (Nat.le_of_ble_eq_true rfl) rfl (Nat.le_of_ble_eq_true rfl) (g_Mo_freeFrom K _  ) (fun v17 _ => ?_)
      refine Go.istore dMo_byRule_122 (by decide) rfl ?_
      refine Go.iconst (v := nI 0) dMo_byRule_124 (by decide) ?_
      refine Go.istore dMo_byRule_125 (by decide) rfl ?_
      refine Go.weak (lp_Mo_byRule_127 _ _ _ _ hD ho (by omega) K (fun f18 z618 => ?_) _ (0) _ (by omega) (Nat.le_refl _))
      refine Go.aload_n dMo_byRule_217 rfl (Nat.ne_of_beq_eq_false rfl) ?_
      refine Go.aload_n dMo_byRule_218 rfl (Nat.ne_of_beq_eq_false rfl) ?_
      refine Go.getR dMo_byRule_219 flMo_82 (Nat.le_of_ble_eq_true rfl) rfl K.r_waiting ?_
      refine Go.iload_n dMo_byRule_222 rfl ?_
      obtain ⟨j19, hj19, ej19⟩ := K.wt12 (o) (by omega)
      refine Go.ialdv (v := nI (j19)) (jn := o) dMo_byRule_223 rfl (Nat.lt_of_lt_of_eq (by omega) (K.l_waiting).symm) (by omega) ((K.waiting (o)).trans ej19) ?_
      refine Go.iload dMo_byRule_224 rfl ?_
      refine Go.iload dMo_byRule_226 rfl ?_
      refine Go.cVr mMo_startAt [vI (nI (j19)), vI (nI (q)), vI f18] dMo_byRule_228 vwMo_110 (Nat.le_of_ble_eq_true rfl) rfl rfl (Nat.le_of_ble_eq_true rfl) rfl (Nat.le_of_ble_eq_true rfl) (g_Mo_startAt K (j19) (q) _ (by omega) (by omega) ) (fun v20 _ => ?_)
      refine Go.istore dMo_byRule_231 (by decide) rfl ?_
      refine Go.iload dMo_byRule_233 rfl ?_
      refine Go.if_lt (tgt := 274) dMo_byRule_235 (by decide) (fun q21 => ?_) (fun q21 => ?_)
      · refine Go.iinc (v := nI (q + 1)) dMo_byRule_274 (by decide) rfl (nI_inc _) rfl ?_
        refine Go.goto (tgt := 107) dMo_byRule_277 (by decide) ?_
        exact Go.weak (ih (md - ((q + 1))) (by omega) ((q + 1)) _ _ _ K (by omega) (Nat.le_refl _))
      · refine Go.aload_n dMo_byRule_238 rfl (Nat.ne_of_beq_eq_false rfl) ?_
        refine Go.getR dMo_byRule_239 flMo_85 (Nat.le_of_ble_eq_true rfl) rfl K.r_newDoor ?_
        refine Go.iload_n dMo_byRule_242 rfl ?_
        refine Go.iald (jn := o) dMo_byRule_243 rfl (Nat.lt_of_lt_of_eq (by omega) (K.l_newDoor).symm) (by omega) ?_
        refine Go.if_lt (tgt := 258) dMo_byRule_244 (by decide) (fun q22 => ?_) (fun q22 => ?_)
        · refine Go.aload_n dMo_byRule_258 rfl (Nat.ne_of_beq_eq_false rfl) ?_
          refine Go.getR dMo_byRule_259 flMo_85 (Nat.le_of_ble_eq_true rfl) rfl K.r_newDoor ?_
          refine Go.iload_n dMo_byRule_262 rfl ?_
          refine Go.iload dMo_byRule_263 rfl ?_
          refine Go.iast (jn := o) dMo_byRule_265 rfl (Nat.lt_of_lt_of_eq (by omega) (K.l_newDoor).symm) (by omega) ?_
          refine Go.hav (Kp := KR ((md, mt, wn), nw, stf, wtf) h0) (K.upNewDoor (Or.inr ⟨q, by omega, rfl⟩)) (fun hh2 K => ?_)
          refine Go.aload_n dMo_byRule_266 rfl (Nat.ne_of_beq_eq_false rfl) ?_
          refine Go.getR dMo_byRule_267 flMo_88 (Nat.le_of_ble_eq_true rfl) rfl K.r_newStart ?_
          refine Go.iload_n dMo_byRule_270 rfl ?_
          refine Go.iload dMo_byRule_271 rfl ?_
          refine Go.iast (jn := o) dMo_byRule_273 rfl (Nat.lt_of_lt_of_eq (by omega) (K.l_newStart).symm) (by omega) ?_
          refine Go.hav (Kp := KR ((md, mt, wn), nw, stf, wtf) h0) (K.up (by omega)) (fun hh3 K => ?_)
          refine Go.iinc (v := nI (q + 1)) dMo_byRule_274 (by decide) rfl (nI_inc _) rfl ?_
          refine Go.goto (tgt := 107) dMo_byRule_277 (by decide) ?_
          exact Go.weak (ih (md - ((q + 1))) (by omega) ((q + 1)) _ _ _ K (by omega) (Nat.le_refl _))
        · refine Go.iload dMo_byRule_247 rfl ?_
          refine Go.aload_n dMo_byRule_249 rfl (Nat.ne_of_beq_eq_false rfl) ?_
          refine Go.getR dMo_byRule_250 flMo_88 (Nat.le_of_ble_eq_true rfl) rfl K.r_newStart ?_
          refine Go.iload_n dMo_byRule_253 rfl ?_
          refine Go.iald (jn := o) dMo_byRule_254 rfl (Nat.lt_of_lt_of_eq (by omega) (K.l_newStart).symm) (by omega) ?_
          refine Go.icmp_ge (tgt := 274) dMo_byRule_255 (by decide) (fun q23 => ?_) (fun q23 => ?_)
          · refine Go.iinc (v := nI (q + 1)) dMo_byRule_274 (by decide) rfl (nI_inc _) rfl ?_
            refine Go.goto (tgt := 107) dMo_byRule_277 (by decide) ?_
            exact Go.weak (ih (md - ((q + 1))) (by omega) ((q + 1)) _ _ _ K (by omega) (Nat.le_refl _))
          · refine Go.aload_n dMo_byRule_258 rfl (Nat.ne_of_beq_eq_false rfl) ?_
            refine Go.getR dMo_byRule_259 flMo_85 (Nat.le_of_ble_eq_true rfl) rfl K.r_newDoor ?_
            refine Go.iload_n dMo_byRule_262 rfl ?_
            refine Go.iload dMo_byRule_263 rfl ?_
            refine Go.iast (jn := o) dMo_byRule_265 rfl (Nat.lt_of_lt_of_eq (by omega) (K.l_newDoor).symm) (by omega) ?_
            refine Go.hav (Kp := KR ((md, mt, wn), nw, stf, wtf) h0) (K.upNewDoor (Or.inr ⟨q, by omega, rfl⟩)) (fun hh4 K => ?_)
            refine Go.aload_n dMo_byRule_266 rfl (Nat.ne_of_beq_eq_false rfl) ?_
            refine Go.getR dMo_byRule_267 flMo_88 (Nat.le_of_ble_eq_true rfl) rfl K.r_newStart ?_
            refine Go.iload_n dMo_byRule_270 rfl ?_
            refine Go.iload dMo_byRule_271 rfl ?_
            refine Go.iast (jn := o) dMo_byRule_273 rfl (Nat.lt_of_lt_of_eq (by omega) (K.l_newStart).symm) (by omega) ?_
            refine Go.hav (Kp := KR ((md, mt, wn), nw, stf, wtf) h0) (K.up (by omega)) (fun hh5 K => ?_)
            refine Go.iinc (v := nI (q + 1)) dMo_byRule_274 (by decide) rfl (nI_inc _) rfl ?_
            refine Go.goto (tgt := 107) dMo_byRule_277 (by decide) ?_
            exact Go.weak (ih (md - ((q + 1))) (by omega) ((q + 1)) _ _ _ K (by omega) (Nat.le_refl _))
set_option maxHeartbeats 2000000 in
theorem lp_Mo_byRule_27 {sc : Nat × (Nat → Int32)} {d bc bs : Nat} {md mt wn : Nat} {nw : Int32} {stf wtf : Nat → Int32} {h0 : AH} {Q : GO → AH → Prop}  (kont0 : ∀ (z1 z2 z3 z4 z5 z6 : AV) (h1 : AH), (KR ((md, mt, wn), nw, stf, wtf) h0 h1) → Go sc false false (d + 2) bc bs mMo_byRule 286 [vO 5 (0), z1, z2, z3, z4, z5, z6] [] h1 Q) : ∀ (k0 : Nat) (D p : Nat) (z3 z4 z5 z6 : AV) (h : AH), KR ((md, mt, wn), nw, stf, wtf) h0 h → (D < 4096) → (bn D wn = p) → (p ≤ wn) → wn - p ≤ k0 → Go sc false false (d + 2) bc bs mMo_byRule 27 [vO 5 (0), vI (nI (D)), vI (nI (p)), z3, z4, z5, z6] [] h Q := by
  intro k0
  induction k0 using Nat.strongRecOn with
  | _ k0 ih =>
    intro D p z3 z4 z5 z6 h K hD hb hp hk0
    have b_md : md ≤ 4 := K.doors_le
    have b_mt : mt ≤ 12 := K.trucks_le
    have b_wn : wn ≤ 12 := K.waits_le
    refine Go.iload_n dMo_byRule_27 rfl ?_
    refine Go.aload_n dMo_byRule_28 rfl (Nat.ne_of_beq_eq_false rfl) ?_
    refine Go.getIv (v := nI (wn)) dMo_byRule_29 flMo_79 (Nat.le_of_ble_eq_true rfl) rfl K.waits ?_
    refine Go.icmp_ge (tgt := 286) dMo_byRule_32 (by decide) (fun q24 => ?_) (fun q24 => ?_)
    · replace q24 := tle q24 (by omega) (by omega)
      exact Go.weak (kont0  _ _ _ _ _ _ _ K )
    · replace q24 := tnle q24 (by omega) (by omega)
      refine Go.iconst (v := -1) dMo_byRule_35 (by decide) ?_
      refine Go.cvt (v' := im 0) (im_0.symm) ?_
      refine Go.istore_n dMo_byRule_36 (by decide) rfl ?_
      refine Go.iconst (v := nI 0) dMo_byRule_37 (by decide) ?_
      refine Go.istore dMo_byRule_38 (by decide) rfl ?_
      refine Go.weak (lp_Mo_byRule_40 _ _ hD K (fun o25 z425 z525 z625 ho25 hf25 => ?_) _ (0) (0) _ _ (Or.inl rfl) (fun _ j hj => absurd hj (by omega)) (by omega) (Nat.le_refl _))
      have o1 : o25 ≠ 0 := fun z => by
        have := bn_full wn (hf25 z)
        omega
      obtain ⟨o2, rfl⟩ : ∃ o2, o25 = o2 + 1 := ⟨o25 - 1, by omega⟩
      obtain ⟨ho1, ho2⟩ : o2 + 1 ≤ wn ∧ D / 2 ^ o2 % 2 = 0 := (ho25).resolve_left (by omega)
      have hD2 := or12 hD (show o2 < 12 from by omega)
      rw [im_s]
      refine Go.iload_n dMo_byRule_91 rfl ?_
      refine Go.iconst (v := nI 1) dMo_byRule_92 (by decide) ?_
      refine Go.iload_n dMo_byRule_93 rfl ?_
      refine Go.ishl dMo_byRule_94 ?_
      refine Go.cvt (v' := nI (2 ^ o2)) (nI_shl (by omega)) ?_
      refine Go.ior dMo_byRule_95 ?_
      refine Go.cvt (v' := nI (D ||| (2 ^ o2))) (nI_or _ _) ?_
      refine Go.istore_n dMo_byRule_96 (by decide) rfl ?_
      refine Go.aload_n dMo_byRule_97 rfl (Nat.ne_of_beq_eq_false rfl) ?_
      refine Go.getR dMo_byRule_98 flMo_88 (Nat.le_of_ble_eq_true rfl) rfl K.r_newStart ?_
      refine Go.iload_n dMo_byRule_101 rfl ?_
      refine Go.iconst (v := -1) dMo_byRule_102 (by decide) ?_
      refine Go.iast (jn := o2) dMo_byRule_103 rfl (Nat.lt_of_lt_of_eq (by omega) (K.l_newStart).symm) (by omega) ?_
      refine Go.hav (Kp := KR ((md, mt, wn), nw, stf, wtf) h0) (K.up (by omega)) (fun hh6 K => ?_)
      refine Go.iconst (v := nI 0) dMo_byRule_104 (by decide) ?_
      refine Go.istore dMo_byRule_105 (by decide) rfl ?_
      refine Go.weak (lp_Mo_byRule_107 _ _ _ hD2 (by omega) (fun z426 z526 z626 h26 K => ?_) _ (0) _ _ _ K (by omega) (Nat.le_refl _))
      refine Go.iinc (v := nI (p + 1)) dMo_byRule_280 (by decide) rfl (nI_inc _) rfl ?_
      refine Go.goto (tgt := 27) dMo_byRule_283 (by decide) ?_
      exact Go.weak (ih (wn - ((p + 1))) (by omega) ((D ||| (2 ^ o2))) ((p + 1)) _ _ _ _ _ K hD2 (by rw [bn_or ho2, if_pos (by omega)]; omega) (by omega) (Nat.le_refl _))
set_option maxHeartbeats 2000000 in
theorem g_Mo_byRule {sc : Nat × (Nat → Int32)} {d bc bs : Nat} {md mt wn : Nat} {nw : Int32} {stf wtf : Nat → Int32} {h0 : AH} {h : AH} (K : KR ((md, mt, wn), nw, stf, wtf) h0 h)  : Go sc true false (d + 2) bc bs mMo_byRule 0 [vO 5 (0), vU, vU, vU, vU, vU, vU] [] h (PN (KR ((md, mt, wn), nw, stf, wtf) h0)) := by
  have b_md : md ≤ 4 := K.doors_le
  have b_mt : mt ≤ 12 := K.trucks_le
  have b_wn : wn ≤ 12 := K.waits_le
  refine Go.iconst (v := nI 0) dMo_byRule_0 (by decide) ?_
  refine Go.istore_n dMo_byRule_1 (by decide) rfl ?_
  refine Go.iconst (v := nI 0) dMo_byRule_2 (by decide) ?_
  refine Go.istore_n dMo_byRule_3 (by decide) rfl ?_
  refine Go.weak (lp_Mo_byRule_4 _ (fun z227 z327 z427 z527 z627 h27 K => ?_) _ (0) _ _ _ _ _ K (by omega) (Nat.le_refl _))
  refine Go.iconst (v := nI 0) dMo_byRule_25 (by decide) ?_
  refine Go.istore_n dMo_byRule_26 (by decide) rfl ?_
  refine Go.weak (lp_Mo_byRule_27  (fun z128 z228 z328 z428 z528 z628 h28 K => ?_) _ (0) (0) _ _ _ _ _ K (by omega) (by
      have e0 : ∀ i, bn 0 i = 0 := fun i => by
        induction i with
        | zero => rfl
        | succ i ih => show bn 0 i + 0 / 2 ^ i % 2 = 0; rw [ih, Nat.zero_div]
      exact e0 wn) (by omega) (Nat.le_refl _))
  refine Go.vret dMo_byRule_286 rfl (by decide) ?_
  exact ⟨rfl, K⟩
set_option maxHeartbeats 2000000 in
theorem lp_Mo_findWaiting_7 {sc : Nat × (Nat → Int32)} {d bc bs : Nat} {md mt : Nat} {nw : Int32} {stf : Nat → Int32} {h0 : AH} {Q : GO → AH → Prop}  (kont0 : ∀ (c : Nat) (wf : Nat → Int32) (z : AV) (h1 : AH), (KR ((md, mt, c), nw, stf, wf) h0 h1) → (∀ i, i < c → ∃ j, j < 12 ∧ wf i = nI j ∧ stf j = 0) → Go sc false false (d + 0) bc bs mMo_findWaiting 50 [vO 5 (0), z] [] h1 Q) : ∀ (k0 : Nat) (t : Nat) (c : Nat) (wf : Nat → Int32) (h : AH), KR ((md, mt, c), nw, stf, wf) h0 h → (t ≤ mt) → (c ≤ t) → (∀ i, i < c → ∃ j, j < 12 ∧ wf i = nI j ∧ stf j = 0) → mt - t ≤ k0 → Go sc false false (d + 0) bc bs mMo_findWaiting 7 [vO 5 (0), vI (nI (t))] [] h Q := by
  intro k0
  induction k0 using Nat.strongRecOn with
  | _ k0 ih =>
    intro t c wf h K ht hc hw hk0
    have b_md : md ≤ 4 := K.doors_le
    have b_mt : mt ≤ 12 := K.trucks_le
    have b_c : c ≤ 12 := K.waits_le
    refine Go.iload_n dMo_findWaiting_7 rfl ?_
    refine Go.aload_n dMo_findWaiting_8 rfl (Nat.ne_of_beq_eq_false rfl) ?_
    refine Go.getIv (v := nI (mt)) dMo_findWaiting_9 flMo_36 (Nat.le_of_ble_eq_true rfl) rfl K.trucks ?_
    refine Go.icmp_ge (tgt := 50) dMo_findWaiting_12 (by decide) (fun q29 => ?_) (fun q29 => ?_)
    · replace q29 := tle q29 (by omega) (by omega)
      exact Go.weak (kont0  (c) (wf) _ _ K hw)
    · replace q29 := tnle q29 (by omega) (by omega)
      refine Go.aload_n dMo_findWaiting_15 rfl (Nat.ne_of_beq_eq_false rfl) ?_
      refine Go.getR dMo_findWaiting_16 flMo_39 (Nat.le_of_ble_eq_true rfl) rfl K.r_state ?_
      refine Go.iload_n dMo_findWaiting_19 rfl ?_
      refine Go.ialdv (v := ((stf (t)))) (jn := t) dMo_findWaiting_20 rfl (Nat.lt_of_lt_of_eq (by omega) (K.l_state).symm) (by omega) (K.state (t)) ?_
      refine Go.if_ne (tgt := 44) dMo_findWaiting_21 (by decide) (fun q31 => ?_) (fun q31 => ?_)
      · refine Go.iinc (v := nI (t + 1)) dMo_findWaiting_44 (by decide) rfl (nI_inc _) rfl ?_
        refine Go.goto (tgt := 7) dMo_findWaiting_47 (by decide) ?_
        exact Go.weak (ih (mt - ((t + 1))) (by omega) ((t + 1)) (c) (wf)  _ K (by omega) (by omega) hw (Nat.le_refl _))
      · refine Go.aload_n dMo_findWaiting_24 rfl (Nat.ne_of_beq_eq_false rfl) ?_
        refine Go.getR dMo_findWaiting_25 flMo_82 (Nat.le_of_ble_eq_true rfl) rfl K.r_waiting ?_
        refine Go.aload_n dMo_findWaiting_28 rfl (Nat.ne_of_beq_eq_false rfl) ?_
        refine Go.getIv (v := nI (c)) dMo_findWaiting_29 flMo_79 (Nat.le_of_ble_eq_true rfl) rfl K.waits ?_
        refine Go.iload_n dMo_findWaiting_32 rfl ?_
        refine Go.iast (jn := c) dMo_findWaiting_33 rfl (Nat.lt_of_lt_of_eq (by omega) (K.l_waiting).symm) (by omega) ?_
        refine Go.hav (Kp := KR ((md, mt, c), nw, stf, (f_up wf c (nI t))) h0) (K.upWaiting (x := c) ⟨t, by omega, rfl⟩) (fun hh7 K => ?_)
        refine Go.aload_n dMo_findWaiting_34 rfl (Nat.ne_of_beq_eq_false rfl) ?_
        refine Go.dup trivial dMo_findWaiting_35 ?_
        refine Go.getIv (v := nI (c)) dMo_findWaiting_36 flMo_79 (Nat.le_of_ble_eq_true rfl) rfl K.waits ?_
        refine Go.iconst (v := nI 1) dMo_findWaiting_39 (by decide) ?_
        refine Go.iadd dMo_findWaiting_40 ?_
        refine Go.cvt (v' := nI (c + 1)) (nI_add _ _) ?_
        refine Go.putI dMo_findWaiting_41 fwMo_findWaiting_79 (Nat.le_of_ble_eq_true rfl) rfl ⟨rfl, rfl⟩ ?_
        refine Go.hav (Kp := KR ((md, mt, (c + 1)), nw, stf, (f_up wf c (nI t))) h0) (K.upWaits (w := c + 1) rfl (by omega)) (fun hh8 K => ?_)
        refine Go.iinc (v := nI (t + 1)) dMo_findWaiting_44 (by decide) rfl (nI_inc _) rfl ?_
        refine Go.goto (tgt := 7) dMo_findWaiting_47 (by decide) ?_
        exact Go.weak (ih (mt - ((t + 1))) (by omega) ((t + 1)) ((c + 1)) ((f_up wf c (nI t)))  _ K (by omega) (by omega) (fun i hi => by
                  rcases Nat.lt_succ_iff_lt_or_eq.mp hi with z | z
                  · obtain ⟨j, z1, z2, z3⟩ := hw i z
                    exact ⟨j, z1, (f_up_ne (by omega)).trans z2, z3⟩
                  · subst z
                    exact ⟨t, by omega, f_up_self _ _ _, q31⟩) (Nat.le_refl _))
set_option maxHeartbeats 2000000 in
theorem g_Mo_findWaiting {sc : Nat × (Nat → Int32)} {d bc bs : Nat} {md mt wn : Nat} {nw : Int32} {stf wtf : Nat → Int32} {h0 : AH} {h : AH} (K : KR ((md, mt, wn), nw, stf, wtf) h0 h)  : Go sc true false (d + 0) bc bs mMo_findWaiting 0 [vO 5 (0), vU] [] h (PN (fun h' => ∃ c wf, (∀ i, i < c → ∃ j, j < 12 ∧ wf i = nI j ∧ stf j = 0) ∧ KR ((md, mt, c), nw, stf, wf) h0 h')) := by
  have b_md : md ≤ 4 := K.doors_le
  have b_mt : mt ≤ 12 := K.trucks_le
  have b_wn : wn ≤ 12 := K.waits_le
  refine Go.aload_n dMo_findWaiting_0 rfl (Nat.ne_of_beq_eq_false rfl) ?_
  refine Go.iconst (v := nI 0) dMo_findWaiting_1 (by decide) ?_
  refine Go.putI dMo_findWaiting_2 fwMo_findWaiting_79 (Nat.le_of_ble_eq_true rfl) rfl ⟨rfl, rfl⟩ ?_
  refine Go.hav (Kp := KR ((md, mt, 0), nw, stf, wtf) h0) (K.upWaits (w := 0) rfl (by omega)) (fun hh9 K => ?_)
  refine Go.iconst (v := nI 0) dMo_findWaiting_5 (by decide) ?_
  refine Go.istore_n dMo_findWaiting_6 (by decide) rfl ?_
  refine Go.weak (lp_Mo_findWaiting_7  (fun c32 wf32 z32 h32 K hw32 => ?_) _ (0) (0) (wtf)  _ K (by omega) (by omega) (fun i hi => absurd hi (by omega)) (Nat.le_refl _))
  refine Go.vret dMo_findWaiting_50 rfl (by decide) ?_
  exact ⟨rfl, _, _, hw32, K⟩
set_option maxHeartbeats 2000000 in
theorem lp_Mo_assign_73 {sc : Nat × (Nat → Int32)} {d bc bs : Nat} {md mt wn : Nat} {nw : Int32} {stf wtf : Nat → Int32} {h0 : AH} {Q : GO → AH → Prop} (x : Int32) (hw : ∀ i, i < wn → ∃ j, j < 12 ∧ wtf i = nI j ∧ stf j = 0) (kont0 : ∀ (z2 z3 : AV) (h1 : AH), (KR ((md, mt, wn), nw, stf, wtf) h0 h1) → Go sc false false (d + 5) bc bs mMo_assign 158 [vO 5 (0), vI x, z2, z3] [] h1 Q) : ∀ (k0 : Nat) (i : Nat) (z3 : AV) (h : AH), KR ((md, mt, wn), nw, stf, wtf) h0 h → (i ≤ wn) → wn - i ≤ k0 → Go sc false false (d + 5) bc bs mMo_assign 73 [vO 5 (0), vI x, vI (nI (i)), z3] [] h Q := by
  intro k0
  induction k0 using Nat.strongRecOn with
  | _ k0 ih =>
    intro i z3 h K hi hk0
    have b_md : md ≤ 4 := K.doors_le
    have b_mt : mt ≤ 12 := K.trucks_le
    have b_wn : wn ≤ 12 := K.waits_le
    refine Go.iload_n dMo_assign_73 rfl ?_
    refine Go.aload_n dMo_assign_74 rfl (Nat.ne_of_beq_eq_false rfl) ?_
    refine Go.getIv (v := nI (wn)) dMo_assign_75 flMo_79 (Nat.le_of_ble_eq_true rfl) rfl K.waits ?_
    refine Go.icmp_ge (tgt := 158) dMo_assign_78 (by decide) (fun q33 => ?_) (fun q33 => ?_)
    · replace q33 := tle q33 (by omega) (by omega)
      exact Go.weak (kont0  _ _ _ K )
    · replace q33 := tnle q33 (by omega) (by omega)
      refine Go.aload_n dMo_assign_81 rfl (Nat.ne_of_beq_eq_false rfl) ?_
      refine Go.getR dMo_assign_82 flMo_82 (Nat.le_of_ble_eq_true rfl) rfl K.r_waiting ?_
      refine Go.iload_n dMo_assign_85 rfl ?_
      obtain ⟨j, hj, ej, sj⟩ := hw (i) (by omega)
      refine Go.ialdv (v := nI (j)) (jn := i) dMo_assign_86 rfl (Nat.lt_of_lt_of_eq (by omega) (K.l_waiting).symm) (by omega) ((K.waiting _).trans ej) ?_
      refine Go.istore_n dMo_assign_87 (by decide) rfl ?_
      refine Go.aload_n dMo_assign_88 rfl (Nat.ne_of_beq_eq_false rfl) ?_
      refine Go.getR dMo_assign_89 flMo_54 (Nat.le_of_ble_eq_true rfl) rfl K.r_doorOf ?_
      refine Go.iload_n dMo_assign_92 rfl ?_
      refine Go.iald (jn := j) dMo_assign_93 rfl (Nat.lt_of_lt_of_eq (by omega) (K.l_doorOf).symm) (by omega) ?_
      refine Go.aload_n dMo_assign_94 rfl (Nat.ne_of_beq_eq_false rfl) ?_
      refine Go.getR dMo_assign_95 flMo_85 (Nat.le_of_ble_eq_true rfl) rfl K.r_newDoor ?_
      refine Go.iload_n dMo_assign_98 rfl ?_
      refine Go.iald (jn := i) dMo_assign_99 rfl (Nat.lt_of_lt_of_eq (by omega) (K.l_newDoor).symm) (by omega) ?_
      refine Go.icmp_ne (tgt := 118) dMo_assign_100 (by decide) (fun q35 => ?_) (fun q35 => ?_)
      · refine Go.aload_n dMo_assign_118 rfl (Nat.ne_of_beq_eq_false rfl) ?_
        refine Go.dup trivial dMo_assign_119 ?_
        refine Go.getI dMo_assign_120 flMo_76 (Nat.le_of_ble_eq_true rfl) rfl ?_
        refine Go.iconst (v := nI 1) dMo_assign_123 (by decide) ?_
        refine Go.iadd dMo_assign_124 ?_
        refine Go.putI dMo_assign_125 fwMo_assign_76 (Nat.le_of_ble_eq_true rfl) rfl ⟨rfl, rfl⟩ ?_
        refine Go.hav (Kp := KR ((md, mt, wn), nw, stf, wtf) h0) (K.up (by omega)) (fun hh10 K => ?_)
        refine Go.aload_n dMo_assign_128 rfl (Nat.ne_of_beq_eq_false rfl) ?_
        refine Go.getR dMo_assign_129 flMo_54 (Nat.le_of_ble_eq_true rfl) rfl K.r_doorOf ?_
        refine Go.iload_n dMo_assign_132 rfl ?_
        refine Go.aload_n dMo_assign_133 rfl (Nat.ne_of_beq_eq_false rfl) ?_
        refine Go.getR dMo_assign_134 flMo_85 (Nat.le_of_ble_eq_true rfl) rfl K.r_newDoor ?_
        refine Go.iload_n dMo_assign_137 rfl ?_
        refine Go.iald (jn := i) dMo_assign_138 rfl (Nat.lt_of_lt_of_eq (by omega) (K.l_newDoor).symm) (by omega) ?_
        refine Go.iast (jn := j) dMo_assign_139 rfl (Nat.lt_of_lt_of_eq (by omega) (K.l_doorOf).symm) (by omega) ?_
        refine Go.hav (Kp := KR ((md, mt, wn), nw, stf, wtf) h0) (K.upDoorOf (x := j) (K.newDoor _ (by omega)) (fun z => absurd (sj.symm.trans z) (by decide))) (fun hh11 K => ?_)
        refine Go.aload_n dMo_assign_140 rfl (Nat.ne_of_beq_eq_false rfl) ?_
        refine Go.getR dMo_assign_141 flMo_57 (Nat.le_of_ble_eq_true rfl) rfl K.r_start ?_
        refine Go.iload_n dMo_assign_144 rfl ?_
        refine Go.aload_n dMo_assign_145 rfl (Nat.ne_of_beq_eq_false rfl) ?_
        refine Go.getR dMo_assign_146 flMo_88 (Nat.le_of_ble_eq_true rfl) rfl K.r_newStart ?_
        refine Go.iload_n dMo_assign_149 rfl ?_
        refine Go.iald (jn := i) dMo_assign_150 rfl (Nat.lt_of_lt_of_eq (by omega) (K.l_newStart).symm) (by omega) ?_
        refine Go.iast (jn := j) dMo_assign_151 rfl (Nat.lt_of_lt_of_eq (by omega) (K.l_start).symm) (by omega) ?_
        refine Go.hav (Kp := KR ((md, mt, wn), nw, stf, wtf) h0) (K.up (by omega)) (fun hh12 K => ?_)
        refine Go.iinc (v := nI (i + 1)) dMo_assign_152 (by decide) rfl (nI_inc _) rfl ?_
        refine Go.goto (tgt := 73) dMo_assign_155 (by decide) ?_
        exact Go.weak (ih (wn - ((i + 1))) (by omega) ((i + 1)) _ _ K (by omega) (Nat.le_refl _))
      · refine Go.aload_n dMo_assign_103 rfl (Nat.ne_of_beq_eq_false rfl) ?_
        refine Go.getR dMo_assign_104 flMo_57 (Nat.le_of_ble_eq_true rfl) rfl K.r_start ?_
        refine Go.iload_n dMo_assign_107 rfl ?_
        refine Go.iald (jn := j) dMo_assign_108 rfl (Nat.lt_of_lt_of_eq (by omega) (K.l_start).symm) (by omega) ?_
        refine Go.aload_n dMo_assign_109 rfl (Nat.ne_of_beq_eq_false rfl) ?_
        refine Go.getR dMo_assign_110 flMo_88 (Nat.le_of_ble_eq_true rfl) rfl K.r_newStart ?_
        refine Go.iload_n dMo_assign_113 rfl ?_
        refine Go.iald (jn := i) dMo_assign_114 rfl (Nat.lt_of_lt_of_eq (by omega) (K.l_newStart).symm) (by omega) ?_
        refine Go.icmp_eq (tgt := 128) dMo_assign_115 (by decide) (fun q36 => ?_) (fun q36 => ?_)
        · refine Go.aload_n dMo_assign_128 rfl (Nat.ne_of_beq_eq_false rfl) ?_
          refine Go.getR dMo_assign_129 flMo_54 (Nat.le_of_ble_eq_true rfl) rfl K.r_doorOf ?_
          refine Go.iload_n dMo_assign_132 rfl ?_
          refine Go.aload_n dMo_assign_133 rfl (Nat.ne_of_beq_eq_false rfl) ?_
          refine Go.getR dMo_assign_134 flMo_85 (Nat.le_of_ble_eq_true rfl) rfl K.r_newDoor ?_
          refine Go.iload_n dMo_assign_137 rfl ?_
          refine Go.iald (jn := i) dMo_assign_138 rfl (Nat.lt_of_lt_of_eq (by omega) (K.l_newDoor).symm) (by omega) ?_
          refine Go.iast (jn := j) dMo_assign_139 rfl (Nat.lt_of_lt_of_eq (by omega) (K.l_doorOf).symm) (by omega) ?_
          refine Go.hav (Kp := KR ((md, mt, wn), nw, stf, wtf) h0) (K.upDoorOf (x := j) (K.newDoor _ (by omega)) (fun z => absurd (sj.symm.trans z) (by decide))) (fun hh13 K => ?_)
          refine Go.aload_n dMo_assign_140 rfl (Nat.ne_of_beq_eq_false rfl) ?_
          refine Go.getR dMo_assign_141 flMo_57 (Nat.le_of_ble_eq_true rfl) rfl K.r_start ?_
          refine Go.iload_n dMo_assign_144 rfl ?_
          refine Go.aload_n dMo_assign_145 rfl (Nat.ne_of_beq_eq_false rfl) ?_
          refine Go.getR dMo_assign_146 flMo_88 (Nat.le_of_ble_eq_true rfl) rfl K.r_newStart ?_
          refine Go.iload_n dMo_assign_149 rfl ?_
          refine Go.iald (jn := i) dMo_assign_150 rfl (Nat.lt_of_lt_of_eq (by omega) (K.l_newStart).symm) (by omega) ?_
          refine Go.iast (jn := j) dMo_assign_151 rfl (Nat.lt_of_lt_of_eq (by omega) (K.l_start).symm) (by omega) ?_
          refine Go.hav (Kp := KR ((md, mt, wn), nw, stf, wtf) h0) (K.up (by omega)) (fun hh14 K => ?_)
          refine Go.iinc (v := nI (i + 1)) dMo_assign_152 (by decide) rfl (nI_inc _) rfl ?_
          refine Go.goto (tgt := 73) dMo_assign_155 (by decide) ?_
          exact Go.weak (ih (wn - ((i + 1))) (by omega) ((i + 1)) _ _ K (by omega) (Nat.le_refl _))
        · refine Go.aload_n dMo_assign_118 rfl (Nat.ne_of_beq_eq_false rfl) ?_
          refine Go.dup trivial dMo_assign_119 ?_
          refine Go.getI dMo_assign_120 flMo_76 (Nat.le_of_ble_eq_true rfl) rfl ?_
          refine Go.iconst (v := nI 1) dMo_assign_123 (by decide) ?_
          refine Go.iadd dMo_assign_124 ?_
          refine Go.putI dMo_assign_125 fwMo_assign_76 (Nat.le_of_ble_eq_true rfl) rfl ⟨rfl, rfl⟩ ?_
          refine Go.hav (Kp := KR ((md, mt, wn), nw, stf, wtf) h0) (K.up (by omega)) (fun hh15 K => ?_)
          refine Go.aload_n dMo_assign_128 rfl (Nat.ne_of_beq_eq_false rfl) ?_
          refine Go.getR dMo_assign_129 flMo_54 (Nat.le_of_ble_eq_true rfl) rfl K.r_doorOf ?_
          refine Go.iload_n dMo_assign_132 rfl ?_
          refine Go.aload_n dMo_assign_133 rfl (Nat.ne_of_beq_eq_false rfl) ?_
          refine Go.getR dMo_assign_134 flMo_85 (Nat.le_of_ble_eq_true rfl) rfl K.r_newDoor ?_
          refine Go.iload_n dMo_assign_137 rfl ?_
          refine Go.iald (jn := i) dMo_assign_138 rfl (Nat.lt_of_lt_of_eq (by omega) (K.l_newDoor).symm) (by omega) ?_
          refine Go.iast (jn := j) dMo_assign_139 rfl (Nat.lt_of_lt_of_eq (by omega) (K.l_doorOf).symm) (by omega) ?_
          refine Go.hav (Kp := KR ((md, mt, wn), nw, stf, wtf) h0) (K.upDoorOf (x := j) (K.newDoor _ (by omega)) (fun z => absurd (sj.symm.trans z) (by decide))) (fun hh16 K => ?_)
          refine Go.aload_n dMo_assign_140 rfl (Nat.ne_of_beq_eq_false rfl) ?_
          refine Go.getR dMo_assign_141 flMo_57 (Nat.le_of_ble_eq_true rfl) rfl K.r_start ?_
          refine Go.iload_n dMo_assign_144 rfl ?_
          refine Go.aload_n dMo_assign_145 rfl (Nat.ne_of_beq_eq_false rfl) ?_
          refine Go.getR dMo_assign_146 flMo_88 (Nat.le_of_ble_eq_true rfl) rfl K.r_newStart ?_
          refine Go.iload_n dMo_assign_149 rfl ?_
          refine Go.iald (jn := i) dMo_assign_150 rfl (Nat.lt_of_lt_of_eq (by omega) (K.l_newStart).symm) (by omega) ?_
          refine Go.iast (jn := j) dMo_assign_151 rfl (Nat.lt_of_lt_of_eq (by omega) (K.l_start).symm) (by omega) ?_
          refine Go.hav (Kp := KR ((md, mt, wn), nw, stf, wtf) h0) (K.up (by omega)) (fun hh17 K => ?_)
          refine Go.iinc (v := nI (i + 1)) dMo_assign_152 (by decide) rfl (nI_inc _) rfl ?_
          refine Go.goto (tgt := 73) dMo_assign_155 (by decide) ?_
          exact Go.weak (ih (wn - ((i + 1))) (by omega) ((i + 1)) _ _ K (by omega) (Nat.le_refl _))
set_option maxHeartbeats 2000000 in
theorem g_Mo_assign {sc : Nat × (Nat → Int32)} {d bc bs : Nat} {md mt wn : Nat} {nw : Int32} {stf wtf : Nat → Int32} {h0 : AH} {h : AH} (K : KR ((md, mt, wn), nw, stf, wtf) h0 h) (x : Int32) : Go sc true false (d + 5) bc bs mMo_assign 0 [vO 5 (0), vI x, vU, vU] [] h (PV (fun _ h' => ∃ w2 t2, KR ((md, mt, w2), nw, stf, t2) h0 h')) := by
  have b_md : md ≤ 4 := K.doors_le
  have b_mt : mt ≤ 12 := K.trucks_le
  have b_wn : wn ≤ 12 := K.waits_le
  refine Go.aload_n dMo_assign_0 rfl (Nat.ne_of_beq_eq_false rfl) ?_
  refine Go.iload_n dMo_assign_1 rfl ?_
  refine Go.iconst (v := nI 0) dMo_assign_2 (by decide) ?_
  refine Go.iconst (v := nI 5) dMo_assign_3 (by decide) ?_
  refine Go.cSr mMo_not [vI x, vI (nI (0)), vI (nI (5))] dMo_assign_4 vwMo_131 rfl rfl (Nat.le_of_ble_eq_true rfl) rfl (Nat.le_of_ble_eq_true rfl) (g_Mo_not _ _ _) ?_
  rintro v37 (⟨rfl, hq37⟩ | ⟨rfl, hq37⟩)
  · refine Go.if_eq (tgt := 14) dMo_assign_7 (by decide) (fun q38 => ?_) (fun q38 => ?_)
    · refine Go.iconst (v := nI 0) dMo_assign_14 (by decide) ?_
      refine Go.putI dMo_assign_15 fwMo_assign_7 (Nat.le_of_ble_eq_true rfl) rfl ⟨rfl, rfl⟩ ?_
      refine Go.hav (Kp := fun z => KR ((md, mt, wn), nw, stf, wtf) h0 z ∧ z.1 5 0 0 = nI (0) ∧ (∀ c i k, c ≠ 5 → z.1 c i k = h.1 c i k)) ⟨K.up (by omega), up_self, fun _ _ _ hc => up_ne (Or.inl hc)⟩ (fun hh18 K0 => ?_)
      obtain ⟨K, e0, ek⟩ := K0
      refine Go.aload_n dMo_assign_18 rfl (Nat.ne_of_beq_eq_false rfl) ?_
      refine Go.getIv (v := nI (0)) dMo_assign_19 flMo_7 (Nat.le_of_ble_eq_true rfl) rfl e0 ?_
      refine Go.if_eq (tgt := 27) dMo_assign_22 (by decide) (fun q39 => ?_) (fun q39 => ?_)
      · refine Go.aload_n dMo_assign_27 rfl (Nat.ne_of_beq_eq_false rfl) ?_
        refine Go.cVn mMo_findWaiting [] dMo_assign_28 vwMo_139 (Nat.le_of_ble_eq_true rfl) rfl rfl (Nat.le_of_ble_eq_true rfl) rfl (Nat.le_of_ble_eq_true rfl) (g_Mo_findWaiting K) (fun hh19 K0 => ?_)
        obtain ⟨c, wf, hw, K⟩ := K0
        have b_c : c ≤ 12 := K.waits_le
        refine Go.aload_n dMo_assign_31 rfl (Nat.ne_of_beq_eq_false rfl) ?_
        refine Go.aload_n dMo_assign_32 rfl (Nat.ne_of_beq_eq_false rfl) ?_
        refine Go.getIv (v := nI (c)) dMo_assign_33 flMo_79 (Nat.le_of_ble_eq_true rfl) rfl K.waits ?_
        refine Go.iload_n dMo_assign_36 rfl ?_
        refine Go.icmp_gt (tgt := 44) dMo_assign_37 (by decide) (fun q40 => ?_) (fun q40 => ?_)
        · refine Go.iconst (v := nI 0) dMo_assign_44 (by decide) ?_
          refine Go.putI dMo_assign_45 fwMo_assign_72 (Nat.le_of_ble_eq_true rfl) rfl ⟨rfl, rfl⟩ ?_
          refine Go.hav (Kp := fun z => KR ((md, mt, c), nw, stf, wf) h0 z ∧ z.1 5 0 20 = nI (0)) ⟨K.upEx (by first | exact Or.inl rfl | exact Or.inr rfl), up_self⟩ (fun hh20 K0 => ?_)
          obtain ⟨K, e20⟩ := K0
          refine Go.aload_n dMo_assign_48 rfl (Nat.ne_of_beq_eq_false rfl) ?_
          refine Go.getIv (v := nI (0)) dMo_assign_49 flMo_72 (Nat.le_of_ble_eq_true rfl) rfl e20 ?_
          refine Go.if_eq (tgt := 62) dMo_assign_52 (by decide) (fun q41 => ?_) (fun q41 => ?_)
          · refine Go.aload_n dMo_assign_62 rfl (Nat.ne_of_beq_eq_false rfl) ?_
            refine Go.cVn mMo_byRule [] dMo_assign_63 vwMo_145 (Nat.le_of_ble_eq_true rfl) rfl rfl (Nat.le_of_ble_eq_true rfl) rfl (Nat.le_of_ble_eq_true rfl) (g_Mo_byRule K   ) (fun hh21 K => ?_)
            refine Go.aload_n dMo_assign_66 rfl (Nat.ne_of_beq_eq_false rfl) ?_
            refine Go.iconst (v := nI 0) dMo_assign_67 (by decide) ?_
            refine Go.putI dMo_assign_68 fwMo_assign_76 (Nat.le_of_ble_eq_true rfl) rfl ⟨rfl, rfl⟩ ?_
            refine Go.hav (Kp := KR ((md, mt, c), nw, stf, wf) h0) (K.up (by omega)) (fun hh22 K => ?_)
            refine Go.iconst (v := nI 0) dMo_assign_71 (by decide) ?_
            refine Go.istore_n dMo_assign_72 (by decide) rfl ?_
            refine Go.weak (lp_Mo_assign_73 _ hw (fun z242 z342 h42 K => ?_) _ (0) _ _ K (by omega) (Nat.le_refl _))
            refine Go.aload_n dMo_assign_158 rfl (Nat.ne_of_beq_eq_false rfl) ?_
            refine Go.cVr mMo_costNow [] dMo_assign_159 vwMo_148 (Nat.le_of_ble_eq_true rfl) rfl rfl (Nat.le_of_ble_eq_true rfl) rfl (Nat.le_of_ble_eq_true rfl) (g_Mo_costNow K   ) (fun v43 _ => ?_)
            refine Go.iret dMo_assign_162 rfl rfl (by decide) ?_
            exact ⟨_, rfl, _, _, K⟩
          · exact absurd q41 (by decide)
        · refine Go.iconst (v := nI 1) dMo_assign_40 (by decide) ?_
          refine Go.goto (tgt := 45) dMo_assign_41 (by decide) ?_
          refine Go.putI dMo_assign_45 fwMo_assign_72 (Nat.le_of_ble_eq_true rfl) rfl ⟨rfl, rfl⟩ ?_
          refine Go.hav (Kp := fun z => KR ((md, mt, c), nw, stf, wf) h0 z ∧ z.1 5 0 20 = nI (1)) ⟨K.upEx (by first | exact Or.inl rfl | exact Or.inr rfl), up_self⟩ (fun hh23 K0 => ?_)
          obtain ⟨K, e20⟩ := K0
          refine Go.aload_n dMo_assign_48 rfl (Nat.ne_of_beq_eq_false rfl) ?_
          refine Go.getIv (v := nI (1)) dMo_assign_49 flMo_72 (Nat.le_of_ble_eq_true rfl) rfl e20 ?_
          refine Go.if_eq (tgt := 62) dMo_assign_52 (by decide) (fun q44 => ?_) (fun q44 => ?_)
          · exact absurd q44 (by decide)
          · have h5 : c ≤ 5 := tle (b := 5) (Int32.le_trans (Int32.not_lt.mp q40) hq37.2) (by omega) (by decide)
            refine Go.aload_n dMo_assign_55 rfl (Nat.ne_of_beq_eq_false rfl) ?_
            refine Go.cVn mMo_exactly [] dMo_assign_56 vwMo_142 (Nat.le_of_ble_eq_true rfl) rfl rfl (Nat.le_of_ble_eq_true rfl) rfl (Nat.le_of_ble_eq_true rfl) (g_Mo_exactly K   (by omega)) (fun hh24 K => ?_)
            refine Go.goto (tgt := 66) dMo_assign_59 (by decide) ?_
            refine Go.aload_n dMo_assign_66 rfl (Nat.ne_of_beq_eq_false rfl) ?_
            refine Go.iconst (v := nI 0) dMo_assign_67 (by decide) ?_
            refine Go.putI dMo_assign_68 fwMo_assign_76 (Nat.le_of_ble_eq_true rfl) rfl ⟨rfl, rfl⟩ ?_
            refine Go.hav (Kp := KR ((md, mt, c), nw, stf, wf) h0) (K.up (by omega)) (fun hh25 K => ?_)
            refine Go.iconst (v := nI 0) dMo_assign_71 (by decide) ?_
            refine Go.istore_n dMo_assign_72 (by decide) rfl ?_
            refine Go.weak (lp_Mo_assign_73 _ hw (fun z245 z345 h45 K => ?_) _ (0) _ _ K (by omega) (Nat.le_refl _))
            refine Go.aload_n dMo_assign_158 rfl (Nat.ne_of_beq_eq_false rfl) ?_
            refine Go.cVr mMo_costNow [] dMo_assign_159 vwMo_148 (Nat.le_of_ble_eq_true rfl) rfl rfl (Nat.le_of_ble_eq_true rfl) rfl (Nat.le_of_ble_eq_true rfl) (g_Mo_costNow K   ) (fun v46 _ => ?_)
            refine Go.iret dMo_assign_162 rfl rfl (by decide) ?_
            exact ⟨_, rfl, _, _, K⟩
      · exact absurd q39 (by decide)
    · exact absurd q38 (by decide)
  · refine Go.if_eq (tgt := 14) dMo_assign_7 (by decide) (fun q47 => ?_) (fun q47 => ?_)
    · exact absurd q47 (by decide)
    · refine Go.iconst (v := nI 1) dMo_assign_10 (by decide) ?_
      refine Go.goto (tgt := 15) dMo_assign_11 (by decide) ?_
      refine Go.putI dMo_assign_15 fwMo_assign_7 (Nat.le_of_ble_eq_true rfl) rfl ⟨rfl, rfl⟩ ?_
      refine Go.hav (Kp := fun z => KR ((md, mt, wn), nw, stf, wtf) h0 z ∧ z.1 5 0 0 = nI (1) ∧ (∀ c i k, c ≠ 5 → z.1 c i k = h.1 c i k)) ⟨K.up (by omega), up_self, fun _ _ _ hc => up_ne (Or.inl hc)⟩ (fun hh26 K0 => ?_)
      obtain ⟨K, e0, ek⟩ := K0
      refine Go.aload_n dMo_assign_18 rfl (Nat.ne_of_beq_eq_false rfl) ?_
      refine Go.getIv (v := nI (1)) dMo_assign_19 flMo_7 (Nat.le_of_ble_eq_true rfl) rfl e0 ?_
      refine Go.if_eq (tgt := 27) dMo_assign_22 (by decide) (fun q48 => ?_) (fun q48 => ?_)
      · exact absurd q48 (by decide)
      · refine Go.iconst (v := nI 0) dMo_assign_25 (by decide) ?_
        refine Go.iret dMo_assign_26 rfl rfl (by decide) ?_
        exact ⟨_, rfl, _, _, K⟩
