/-! THE REFERENCE, 3: planning -/
/-- the bits below i that are set -/
def bn (r : Nat) : Nat → Nat
  | 0 => 0
  | i + 1 => bn r i + r / 2 ^ i % 2
theorem bn_le (r : Nat) : ∀ i, bn r i ≤ i
  | 0 => Nat.le_refl 0
  | i + 1 => by
    have h1 := bn_le r i
    have h2 : r / 2 ^ i % 2 < 2 := Nat.mod_lt _ (by decide)
    show bn r i + r / 2 ^ i % 2 ≤ i + 1
    omega
theorem bn_sub : ∀ r, r < 32 → ∀ i, i < 5 → r / 2 ^ i % 2 = 1 → nI r &&& (nI (2 ^ i) ^^^ (-1)) = nI (r - 2 ^ i) ∧ bn (r - 2 ^ i) 5 + 1 = bn r 5 := by decide +kernel
theorem bn_full {r : Nat} : ∀ i, (∀ j, j < i → r / 2 ^ j % 2 = 1) → bn r i = i
  | 0, _ => rfl
  | i + 1, h => by
    show bn r i + r / 2 ^ i % 2 = i + 1
    rw [bn_full i (fun j hj => h j (by omega)), h i (by omega)]
theorem bt_or {r o j : Nat} : (r ||| 2 ^ o) / 2 ^ j % 2 = if j = o then 1 else r / 2 ^ j % 2 := by
  rw [← Nat.toNat_testBit, ← Nat.toNat_testBit, Nat.testBit_or, Nat.testBit_two_pow]
  by_cases e : j = o
  · subst e; simp
  · simp [e, Ne.symm e]
theorem bn_or {r o : Nat} (h : r / 2 ^ o % 2 = 0) : ∀ w, bn (r ||| 2 ^ o) w = bn r w + (if o < w then 1 else 0)
  | 0 => by simp [bn]
  | w + 1 => by
    show bn (r ||| 2 ^ o) w + (r ||| 2 ^ o) / 2 ^ w % 2 = bn r w + r / 2 ^ w % 2 + _
    rw [bn_or h w, bt_or]
    by_cases e : w = o
    · subst e
      rw [if_pos rfl, h, if_neg (by omega), if_pos (by omega)]
    · rw [if_neg e]
      by_cases e2 : o < w
      · rw [if_pos e2, if_pos (by omega)]; omega
      · rw [if_neg e2, if_neg (by omega)]; omega
theorem or12 {r o : Nat} (h : r < 4096) (ho : o < 12) : r ||| 2 ^ o < 4096 := Nat.or_lt_two_pow (n := 12) h (Nat.pow_lt_pow_right (by decide) ho)
theorem lt_toInt {x : Int32} {k : Nat} (q : ¬ x ≤ nI k) (hk : k < 2 ^ 31) : k < x.toInt.toNat ∧ x.toInt.toNat < 2 ^ 31 := by
  have h1 : nI k < x := Int32.not_le.mp q
  rw [Int32.lt_iff_toInt_lt, nI_toInt hk] at h1
  have h2 := Int32.toInt_lt x
  omega
theorem pow5 : ∀ w, w ≤ 5 → 2 ^ w ≤ 32 := by decide
set_option maxHeartbeats 2000000 in
theorem lp_Mo_inOrder_22 {sc : Nat × (Nat → Int32)} {d bc bs : Nat} {md mt wn : Nat} {nw : Int32} {stf wtf : Nat → Int32} {h0 : AH} {h : AH} {Q : GO → AH → Prop} (q s c0 : Nat) (hs : s < 32) (f x : Int32) (K : KR ((md, mt, wn), nw, stf, wtf) h0 h) (kont0 : ∀ (n : Nat) (z0 z1 z2 z3 : AV), (n = bn s 5) → Go sc false false (d + 2) bc bs mMo_inOrder 45 [vO 5 (0), vI (nI (q)), vI (nI (s)), vI (nI (c0)), vI (nI (s)), vI (nI (c0)), vI f, vI x, vI (nI (n)), z0, z1, z2, z3] [] h Q) : ∀ (k0 : Nat) (i : Nat) (z1 z2 z3 : AV), (i ≤ 5) → 5 - i ≤ k0 → Go sc false false (d + 2) bc bs mMo_inOrder 22 [vO 5 (0), vI (nI (q)), vI (nI (s)), vI (nI (c0)), vI (nI (s)), vI (nI (c0)), vI f, vI x, vI (nI (bn s i)), vI (nI (i)), z1, z2, z3] [] h Q := by
  intro k0
  induction k0 using Nat.strongRecOn with
  | _ k0 ih =>
    intro i z1 z2 z3 hi hk0
    have b_md : md ≤ 4 := K.doors_le
    have b_mt : mt ≤ 12 := K.trucks_le
    have b_wn : wn ≤ 12 := K.waits_le
    have hb1 := bn_le s i
    have hb2 : s / 2 ^ i % 2 < 2 := Nat.mod_lt _ (by decide)
    refine Go.iload dMo_inOrder_22 rfl ?_
    refine Go.iconst (v := nI 5) dMo_inOrder_24 (by decide) ?_
    refine Go.icmp_ge (tgt := 45) dMo_inOrder_25 (by decide) (fun q1 => ?_) (fun q1 => ?_)
    · replace q1 := tle q1 (by omega) (by omega)
      exact Go.weak (kont0 (bn s i) _ _ _ _ (show bn s i = bn s 5 from congrArg (bn s) (by omega)))
    · replace q1 := tnle q1 (by omega) (by omega)
      refine Go.iload dMo_inOrder_28 rfl ?_
      refine Go.iload_n dMo_inOrder_30 rfl ?_
      refine Go.iload dMo_inOrder_31 rfl ?_
      refine Go.ishr dMo_inOrder_33 ?_
      refine Go.cvt (v' := nI (s / 2 ^ i)) (nI_shr (by omega) (by omega)) ?_
      refine Go.iconst (v := nI 1) dMo_inOrder_34 (by decide) ?_
      refine Go.iand dMo_inOrder_35 ?_
      refine Go.cvt (v' := nI ((s / 2 ^ i) % 2)) (nI_an1 (Nat.lt_of_le_of_lt (Nat.div_le_self _ _) (by omega))) ?_
      refine Go.iadd dMo_inOrder_36 ?_
      refine Go.cvt (v' := nI (bn s i + ((s / 2 ^ i) % 2))) (nI_add _ _) ?_
      refine Go.istore dMo_inOrder_37 (by decide) rfl ?_
      refine Go.iinc (v := nI (i + 1)) dMo_inOrder_39 (by decide) rfl (nI_inc _) rfl ?_
      refine Go.goto (tgt := 22) dMo_inOrder_42 (by decide) ?_
      exact Go.weak (ih (5 - ((i + 1))) (by omega) ((i + 1)) _ _ _ (by omega) (Nat.le_refl _))
set_option maxHeartbeats 2000000 in
theorem lp_Mo_inOrder_67 {sc : Nat × (Nat → Int32)} {d bc bs : Nat} {md mt wn : Nat} {nw : Int32} {stf wtf : Nat → Int32} {h0 : AH} {h : AH} {Q : GO → AH → Prop} (q s c0 r c n : Nat) (hr : r < 32) (f x : Int32) (z2 z3 : AV) (K : KR ((md, mt, wn), nw, stf, wtf) h0 h) (kont0 : ∀ (k i : Nat), (i < 5) → (r / 2 ^ i % 2 = 1) → Go sc false false (d + 2) bc bs mMo_inOrder 102 [vO 5 (0), vI (nI (q)), vI (nI (s)), vI (nI (c0)), vI (nI (r)), vI (nI (c)), vI f, vI x, vI (nI (n)), vI (nI (k)), vI (nI (i)), z2, z3] [] h Q) : ∀ (k0 : Nat) (k i : Nat), (i ≤ 5) → (k < bn r 5 - bn r i) → 5 - i ≤ k0 → Go sc false false (d + 2) bc bs mMo_inOrder 67 [vO 5 (0), vI (nI (q)), vI (nI (s)), vI (nI (c0)), vI (nI (r)), vI (nI (c)), vI f, vI x, vI (nI (n)), vI (nI (k)), vI (nI (i)), z2, z3] [] h Q := by
  intro k0
  induction k0 using Nat.strongRecOn with
  | _ k0 ih =>
    intro k i hi hk hk0
    have b_md : md ≤ 4 := K.doors_le
    have b_mt : mt ≤ 12 := K.trucks_le
    have b_wn : wn ≤ 12 := K.waits_le
    have hb1 : bn r (i + 1) = bn r i + r / 2 ^ i % 2 := rfl
    have hb2 : r / 2 ^ i % 2 < 2 := Nat.mod_lt _ (by decide)
    have hb3 := bn_le r 5
    have hi5 : i < 5 := by
      rcases Nat.lt_or_ge i 5 with z | z
      · exact z
      · have e : i = 5 := by omega
        subst e
        omega
    refine Go.iload dMo_inOrder_67 rfl ?_
    refine Go.iload dMo_inOrder_69 rfl ?_
    refine Go.ishr dMo_inOrder_71 ?_
    refine Go.cvt (v' := nI (r / 2 ^ i)) (nI_shr (by omega) (by omega)) ?_
    refine Go.iconst (v := nI 1) dMo_inOrder_72 (by decide) ?_
    refine Go.iand dMo_inOrder_73 ?_
    refine Go.cvt (v' := nI ((r / 2 ^ i) % 2)) (nI_an1 (Nat.lt_of_le_of_lt (Nat.div_le_self _ _) (by omega))) ?_
    refine Go.if_eq (tgt := 82) dMo_inOrder_74 (by decide) (fun q2 => ?_) (fun q2 => ?_)
    · replace q2 := zeq q2 (by omega)
      refine Go.iload dMo_inOrder_82 rfl ?_
      refine Go.iload dMo_inOrder_84 rfl ?_
      refine Go.ishr dMo_inOrder_86 ?_
      refine Go.cvt (v' := nI (r / 2 ^ i)) (nI_shr (by omega) (by omega)) ?_
      refine Go.iconst (v := nI 1) dMo_inOrder_87 (by decide) ?_
      refine Go.iand dMo_inOrder_88 ?_
      refine Go.cvt (v' := nI ((r / 2 ^ i) % 2)) (nI_an1 (Nat.lt_of_le_of_lt (Nat.div_le_self _ _) (by omega))) ?_
      refine Go.iconst (v := nI 1) dMo_inOrder_89 (by decide) ?_
      refine Go.icmp_ne (tgt := 96) dMo_inOrder_90 (by decide) (fun q3 => ?_) (fun q3 => ?_)
      · replace q3 := tne q3 (by omega) (by omega)
        refine Go.iinc (v := nI (i + 1)) dMo_inOrder_96 (by decide) rfl (nI_inc _) rfl ?_
        refine Go.goto (tgt := 67) dMo_inOrder_99 (by decide) ?_
        exact Go.weak (ih (5 - ((i + 1))) (by omega) (k) ((i + 1))  (by omega) (by omega) (Nat.le_refl _))
      · replace q3 := teq q3 (by omega) (by omega)
        refine Go.iinc (v := nI (k - 1)) dMo_inOrder_93 (by decide) rfl (nI_dec (by omega)) rfl ?_
        refine Go.iinc (v := nI (i + 1)) dMo_inOrder_96 (by decide) rfl (nI_inc _) rfl ?_
        refine Go.goto (tgt := 67) dMo_inOrder_99 (by decide) ?_
        exact Go.weak (ih (5 - ((i + 1))) (by omega) ((k - 1)) ((i + 1))  (by omega) (by omega) (Nat.le_refl _))
    · replace q2 := zne q2 (by omega)
      refine Go.iload dMo_inOrder_77 rfl ?_
      refine Go.if_le (tgt := 102) dMo_inOrder_79 (by decide) (fun q4 => ?_) (fun q4 => ?_)
      · replace q4 := zle q4 (by omega)
        exact Go.weak (kont0 (k) (i)  (by omega) (by omega))
      · replace q4 := znle q4 (by omega)
        refine Go.iload dMo_inOrder_82 rfl ?_
        refine Go.iload dMo_inOrder_84 rfl ?_
        refine Go.ishr dMo_inOrder_86 ?_
        refine Go.cvt (v' := nI (r / 2 ^ i)) (nI_shr (by omega) (by omega)) ?_
        refine Go.iconst (v := nI 1) dMo_inOrder_87 (by decide) ?_
        refine Go.iand dMo_inOrder_88 ?_
        refine Go.cvt (v' := nI ((r / 2 ^ i) % 2)) (nI_an1 (Nat.lt_of_le_of_lt (Nat.div_le_self _ _) (by omega))) ?_
        refine Go.iconst (v := nI 1) dMo_inOrder_89 (by decide) ?_
        refine Go.icmp_ne (tgt := 96) dMo_inOrder_90 (by decide) (fun q5 => ?_) (fun q5 => ?_)
        · replace q5 := tne q5 (by omega) (by omega)
          refine Go.iinc (v := nI (i + 1)) dMo_inOrder_96 (by decide) rfl (nI_inc _) rfl ?_
          refine Go.goto (tgt := 67) dMo_inOrder_99 (by decide) ?_
          exact Go.weak (ih (5 - ((i + 1))) (by omega) (k) ((i + 1))  (by omega) (by omega) (Nat.le_refl _))
        · replace q5 := teq q5 (by omega) (by omega)
          refine Go.iinc (v := nI (k - 1)) dMo_inOrder_93 (by decide) rfl (nI_dec (by omega)) rfl ?_
          refine Go.iinc (v := nI (i + 1)) dMo_inOrder_96 (by decide) rfl (nI_inc _) rfl ?_
          refine Go.goto (tgt := 67) dMo_inOrder_99 (by decide) ?_
          exact Go.weak (ih (5 - ((i + 1))) (by omega) ((k - 1)) ((i + 1))  (by omega) (by omega) (Nat.le_refl _))
set_option maxHeartbeats 2000000 in
theorem lp_Mo_inOrder_45 {sc : Nat × (Nat → Int32)} {d bc bs : Nat} {md mt wn : Nat} {nw : Int32} {stf wtf : Nat → Int32} {h0 : AH} {Q : GO → AH → Prop} (q s c0 : Nat) (hq : q < 4) (hret : ∀ h1, (KR ((md, mt, wn), nw, stf, wtf) h0 h1) → Q (.inl (some (vI (-1)))) h1) (kont0 : ∀ (x : Int32) (y1 y2 y3 y4 z0 z1 z2 z3 : AV) (h1 : AH), (KR ((md, mt, wn), nw, stf, wtf) h0 h1) → Go sc false false (d + 2) bc bs mMo_inOrder 182 [vO 5 (0), vI (nI (q)), vI (nI (s)), vI (nI (c0)), y1, y2, y3, vI x, y4, z0, z1, z2, z3] [] h1 Q) : ∀ (k0 : Nat) (r c n : Nat) (f x : Int32) (z0 z1 z2 z3 : AV) (h : AH), KR ((md, mt, wn), nw, stf, wtf) h0 h → (r < 32) → (c < 2 ^ 31) → (n = bn r 5) → n ≤ k0 → Go sc false false (d + 2) bc bs mMo_inOrder 45 [vO 5 (0), vI (nI (q)), vI (nI (s)), vI (nI (c0)), vI (nI (r)), vI (nI (c)), vI f, vI x, vI (nI (n)), z0, z1, z2, z3] [] h Q := by
  intro k0
  induction k0 using Nat.strongRecOn with
  | _ k0 ih =>
    intro r c n f x z0 z1 z2 z3 h K hr hc hn hk0
    have b_md : md ≤ 4 := K.doors_le
    have b_mt : mt ≤ 12 := K.trucks_le
    have b_wn : wn ≤ 12 := K.waits_le
    have hb3 := bn_le r 5
    refine Go.iload dMo_inOrder_45 rfl ?_
    refine Go.if_le (tgt := 182) dMo_inOrder_47 (by decide) (fun q6 => ?_) (fun q6 => ?_)
    · replace q6 := zle q6 (by omega)
      exact Go.weak (kont0  _ _ _ _ _ _ _ _ _ _ K )
    · replace q6 := znle q6 (by omega)
      refine Go.iload dMo_inOrder_50 rfl ?_
      refine Go.iload dMo_inOrder_52 rfl ?_
      refine Go.irem dMo_inOrder_54 (nI_nz (by omega)) ?_
      refine Go.cvt (v' := nI (c % n)) (pk_rem (by omega) (by omega) (by omega)) ?_
      refine Go.istore dMo_inOrder_55 (by decide) rfl ?_
      refine Go.iload dMo_inOrder_57 rfl ?_
      refine Go.iload dMo_inOrder_59 rfl ?_
      refine Go.idiv dMo_inOrder_61 (nI_nz (by omega)) ?_
      refine Go.cvt (v' := nI (c / n)) (pk_div (by omega) (by omega) (by omega)) ?_
      refine Go.istore dMo_inOrder_62 (by decide) rfl ?_
      refine Go.iconst (v := nI 0) dMo_inOrder_64 (by decide) ?_
      refine Go.istore dMo_inOrder_65 (by decide) rfl ?_
      refine Go.weak (lp_Mo_inOrder_67 _ _ _ (r) _ _ (by omega) _ _ _ _ K (fun k7 i7 hi7 hb7 => ?_) _ ((c % n)) (0)  (by omega) (show c % n < bn r 5 - 0 from by have z : c % n < n := Nat.mod_lt _ (by omega); omega) (Nat.le_refl _))
      have hc2 : c / n < 2 ^ 31 := Nat.lt_of_le_of_lt (Nat.div_le_self _ _) hc
      have hbs := (bn_sub r (by omega) (i7) (by omega) hb7).2
      refine Go.iload dMo_inOrder_102 rfl ?_
      refine Go.iconst (v := nI 1) dMo_inOrder_104 (by decide) ?_
      refine Go.iload dMo_inOrder_105 rfl ?_
      refine Go.ishl dMo_inOrder_107 ?_
      refine Go.cvt (v' := nI (2 ^ i7)) (nI_shl (by omega)) ?_
      refine Go.iconst (v := -1) dMo_inOrder_108 (by decide) ?_
      refine Go.ixor dMo_inOrder_109 ?_
      refine Go.iand dMo_inOrder_110 ?_
      refine Go.cvt (v' := nI (r - 2 ^ i7)) ((bn_sub _ (by omega) _ (by omega) hb7).1) ?_
      refine Go.istore dMo_inOrder_111 (by decide) rfl ?_
      refine Go.aload_n dMo_inOrder_113 rfl (Nat.ne_of_beq_eq_false rfl) ?_
      refine Go.getR dMo_inOrder_114 flMo_82 (Nat.le_of_ble_eq_true rfl) rfl K.r_waiting ?_
      refine Go.iload dMo_inOrder_117 rfl ?_
      obtain ⟨j8, hj8, ej8⟩ := K.wt12 (i7) (by omega)
      refine Go.ialdv (v := nI (j8)) (jn := i7) dMo_inOrder_119 rfl (Nat.lt_of_lt_of_eq (by omega) (K.l_waiting).symm) (by omega) ((K.waiting (i7)).trans ej8) ?_
      refine Go.istore dMo_inOrder_120 (by decide) rfl ?_
      refine Go.aload_n dMo_inOrder_122 rfl (Nat.ne_of_beq_eq_false rfl) ?_
      refine Go.iload dMo_inOrder_123 rfl ?_
      refine Go.iload_n dMo_inOrder_125 rfl ?_
      refine Go.iload dMo_inOrder_126 rfl ?_
      refine Go.cVr mMo_startAt [vI (nI (j8)), vI (nI (q)), vI f] dMo_inOrder_128 vwMo_110 (Nat.le_of_ble_eq_true rfl) rfl rfl (Nat.le_of_ble_eq_true rfl) rfl (Nat.le_of_ble_eq_true rfl) (g_Mo_startAt K (j8) (q) _ (by omega) (by omega) ) (fun v9 _ => ?_)
      refine Go.istore dMo_inOrder_131 (by decide) rfl ?_
      refine Go.iload dMo_inOrder_133 rfl ?_
      refine Go.if_ge (tgt := 140) dMo_inOrder_135 (by decide) (fun q10 => ?_) (fun q10 => ?_)
      · refine Go.aload_n dMo_inOrder_140 rfl (Nat.ne_of_beq_eq_false rfl) ?_
        refine Go.getR dMo_inOrder_141 flMo_97 (Nat.le_of_ble_eq_true rfl) rfl K.r_trial ?_
        refine Go.iload dMo_inOrder_144 rfl ?_
        refine Go.iload dMo_inOrder_146 rfl ?_
        refine Go.iast (jn := i7) dMo_inOrder_148 rfl (Nat.lt_of_lt_of_eq (by omega) (K.l_trial).symm) (by omega) ?_
        refine Go.hav (Kp := KR ((md, mt, wn), nw, stf, wtf) h0) (K.up (by omega)) (fun hh1 K => ?_)
        refine Go.iload dMo_inOrder_149 rfl ?_
        refine Go.iload dMo_inOrder_151 rfl ?_
        refine Go.aload_n dMo_inOrder_153 rfl (Nat.ne_of_beq_eq_false rfl) ?_
        refine Go.getR dMo_inOrder_154 flMo_45 (Nat.le_of_ble_eq_true rfl) rfl K.r_arrival ?_
        refine Go.iload dMo_inOrder_157 rfl ?_
        refine Go.iald (jn := j8) dMo_inOrder_159 rfl (Nat.lt_of_lt_of_eq (by omega) (K.l_arrival).symm) (by omega) ?_
        refine Go.isub dMo_inOrder_160 ?_
        refine Go.iadd dMo_inOrder_161 ?_
        refine Go.istore dMo_inOrder_162 (by decide) rfl ?_
        refine Go.iload dMo_inOrder_164 rfl ?_
        refine Go.aload_n dMo_inOrder_166 rfl (Nat.ne_of_beq_eq_false rfl) ?_
        refine Go.getR dMo_inOrder_167 flMo_48 (Nat.le_of_ble_eq_true rfl) rfl K.r_need ?_
        refine Go.iload dMo_inOrder_170 rfl ?_
        refine Go.iald (jn := j8) dMo_inOrder_172 rfl (Nat.lt_of_lt_of_eq (by omega) (K.l_need).symm) (by omega) ?_
        refine Go.iadd dMo_inOrder_173 ?_
        refine Go.istore dMo_inOrder_174 (by decide) rfl ?_
        refine Go.iinc (v := nI (n - 1)) dMo_inOrder_176 (by decide) rfl (nI_dec (by omega)) rfl ?_
        refine Go.goto (tgt := 45) dMo_inOrder_179 (by decide) ?_
        exact Go.weak (ih (((n - 1))) (by omega) ((r - 2 ^ i7)) ((c / n)) ((n - 1)) _ _ _ _ _ _ _ K (Nat.lt_of_le_of_lt (Nat.sub_le _ _) hr) (by omega) (by omega) (Nat.le_refl _))
      · refine Go.iconst (v := -1) dMo_inOrder_138 (by decide) ?_
        refine Go.iret dMo_inOrder_139 rfl rfl (by decide) ?_
        exact hret _ K
set_option maxHeartbeats 2000000 in
theorem g_Mo_inOrder {sc : Nat × (Nat → Int32)} {d bc bs : Nat} {md mt wn : Nat} {nw : Int32} {stf wtf : Nat → Int32} {h0 : AH} {h : AH} (K : KR ((md, mt, wn), nw, stf, wtf) h0 h) (q s c0 : Nat) (hq : q < 4) (hs : s < 32) (hc0 : c0 < 2 ^ 31) : Go sc true false (d + 2) bc bs mMo_inOrder 0 [vO 5 (0), vI (nI (q)), vI (nI (s)), vI (nI (c0)), vU, vU, vU, vU, vU, vU, vU, vU, vU] [] h (PV (fun _ => KR ((md, mt, wn), nw, stf, wtf) h0)) := by
  have b_md : md ≤ 4 := K.doors_le
  have b_mt : mt ≤ 12 := K.trucks_le
  have b_wn : wn ≤ 12 := K.waits_le
  refine Go.iload_n dMo_inOrder_0 rfl ?_
  refine Go.istore dMo_inOrder_1 (by decide) rfl ?_
  refine Go.iload_n dMo_inOrder_3 rfl ?_
  refine Go.istore dMo_inOrder_4 (by decide) rfl ?_
  refine Go.aload_n dMo_inOrder_6 rfl (Nat.ne_of_beq_eq_false rfl) ?_
  refine Go.iload_n dMo_inOrder_7 rfl ?_
  refine Go.cVr mMo_freeFrom [vI (nI (q))] dMo_inOrder_8 vwMo_107 (Nat.le_of_ble_eq_true rfl) rfl rfl (Nat.le_of_ble_eq_true rfl) rfl (Nat.le_of_ble_eq_true rfl) (g_Mo_freeFrom K _  ) (fun v11 _ => ?_)
  refine Go.istore dMo_inOrder_11 (by decide) rfl ?_
  refine Go.iconst (v := nI 0) dMo_inOrder_13 (by decide) ?_
  refine Go.istore dMo_inOrder_14 (by decide) rfl ?_
  refine Go.iconst (v := nI 0) dMo_inOrder_16 (by decide) ?_
  refine Go.istore dMo_inOrder_17 (by decide) rfl ?_
  refine Go.iconst (v := nI 0) dMo_inOrder_19 (by decide) ?_
  refine Go.istore dMo_inOrder_20 (by decide) rfl ?_
  refine Go.weak (lp_Mo_inOrder_22 _ _ _ (by omega) _ _ K (fun n12 z012 z112 z212 z312 hn12 => ?_) _ (0) _ _ _ (by omega) (Nat.le_refl _))
  refine Go.weak (lp_Mo_inOrder_45 _ _ _ (by omega) (fun _ K => ⟨_, rfl, K⟩) (fun x13 y113 y213 y313 y413 z013 z113 z213 z313 h13 K => ?_) _ (s) (c0) (n12) _ _ _ _ _ _ _ K (by omega) (by omega) hn12 (Nat.le_refl _))
  refine Go.iload dMo_inOrder_182 rfl ?_
  refine Go.iret dMo_inOrder_184 rfl rfl (by decide) ?_
  exact ⟨_, rfl, K⟩
set_option maxHeartbeats 2000000 in
theorem lp_Mo_findSet_16 {sc : Nat × (Nat → Int32)} {d bc bs : Nat} {md mt wn : Nat} {nw : Int32} {stf wtf : Nat → Int32} {h0 : AH} {h : AH} {Q : GO → AH → Prop} (q s a : Nat) (hs : s < 32) (K : KR ((md, mt, wn), nw, stf, wtf) h0 h) (kont0 : ∀ (x : Int32) (z0 z5 z1 z2 z3 : AV), Go sc false false (d + 3) bc bs mMo_findSet 48 [vO 5 (0), vI (nI (q)), vI (nI (s)), vI (nI (a)), vI x, z0, z5, z1, z2, z3] [] h Q) : ∀ (k0 : Nat) (i : Nat) (x n : Int32) (z1 z2 z3 : AV), (i ≤ 5) → 5 - i ≤ k0 → Go sc false false (d + 3) bc bs mMo_findSet 16 [vO 5 (0), vI (nI (q)), vI (nI (s)), vI (nI (a)), vI x, vI n, vI (nI (i)), z1, z2, z3] [] h Q := by
  intro k0
  induction k0 using Nat.strongRecOn with
  | _ k0 ih =>
    intro i x n z1 z2 z3 hi hk0
    have b_md : md ≤ 4 := K.doors_le
    have b_mt : mt ≤ 12 := K.trucks_le
    have b_wn : wn ≤ 12 := K.waits_le
    refine Go.iload dMo_findSet_16 rfl ?_
    refine Go.iconst (v := nI 5) dMo_findSet_18 (by decide) ?_
    refine Go.icmp_ge (tgt := 48) dMo_findSet_19 (by decide) (fun q14 => ?_) (fun q14 => ?_)
    · replace q14 := tle q14 (by omega) (by omega)
      exact Go.weak (kont0  _ _ _ _ _ _ )
    · replace q14 := tnle q14 (by omega) (by omega)
      refine Go.iload_n dMo_findSet_22 rfl ?_
      refine Go.iload dMo_findSet_23 rfl ?_
      refine Go.ishr dMo_findSet_25 ?_
      refine Go.cvt (v' := nI (s / 2 ^ i)) (nI_shr (by omega) (by omega)) ?_
      refine Go.iconst (v := nI 1) dMo_findSet_26 (by decide) ?_
      refine Go.iand dMo_findSet_27 ?_
      refine Go.cvt (v' := nI ((s / 2 ^ i) % 2)) (nI_an1 (Nat.lt_of_le_of_lt (Nat.div_le_self _ _) (by omega))) ?_
      refine Go.iconst (v := nI 1) dMo_findSet_28 (by decide) ?_
      refine Go.icmp_ne (tgt := 42) dMo_findSet_29 (by decide) (fun q15 => ?_) (fun q15 => ?_)
      · replace q15 := tne q15 (by omega) (by omega)
        refine Go.iinc (v := nI (i + 1)) dMo_findSet_42 (by decide) rfl (nI_inc _) rfl ?_
        refine Go.goto (tgt := 16) dMo_findSet_45 (by decide) ?_
        exact Go.weak (ih (5 - ((i + 1))) (by omega) ((i + 1)) _ _ _ _ _ (by omega) (Nat.le_refl _))
      · replace q15 := teq q15 (by omega) (by omega)
        refine Go.iinc dMo_findSet_32 (by decide) rfl rfl rfl ?_
        refine Go.iload dMo_findSet_35 rfl ?_
        refine Go.iload dMo_findSet_37 rfl ?_
        refine Go.imul dMo_findSet_39 ?_
        refine Go.istore dMo_findSet_40 (by decide) rfl ?_
        refine Go.iinc (v := nI (i + 1)) dMo_findSet_42 (by decide) rfl (nI_inc _) rfl ?_
        refine Go.goto (tgt := 16) dMo_findSet_45 (by decide) ?_
        exact Go.weak (ih (5 - ((i + 1))) (by omega) ((i + 1)) _ _ _ _ _ (by omega) (Nat.le_refl _))
set_option maxHeartbeats 2000000 in
theorem lp_Mo_findSet_126 {sc : Nat × (Nat → Int32)} {d bc bs : Nat} {md mt wn : Nat} {nw : Int32} {stf wtf : Nat → Int32} {h0 : AH} {h : AH} {Q : GO → AH → Prop} (q s a k : Nat) (x c b : Int32) (z1 : AV) (hs : s < 32) (ha : a < 128) (K : KR ((md, mt, wn), nw, stf, wtf) h0 h) (kont0 : ∀ (i : Nat), (i ≤ 5) → Go sc false false (d + 3) bc bs mMo_findSet 168 [vO 5 (0), vI (nI (q)), vI (nI (s)), vI (nI (a)), vI x, z1, vI (nI (k)), vI c, vI b, vI (nI (i))] [] h Q) : ∀ (k0 : Nat) (i : Nat), (i ≤ 5) → 5 - i ≤ k0 → Go sc false false (d + 3) bc bs mMo_findSet 126 [vO 5 (0), vI (nI (q)), vI (nI (s)), vI (nI (a)), vI x, z1, vI (nI (k)), vI c, vI b, vI (nI (i))] [] h Q := by
  intro k0
  induction k0 using Nat.strongRecOn with
  | _ k0 ih =>
    intro i hi hk0
    have b_md : md ≤ 4 := K.doors_le
    have b_mt : mt ≤ 12 := K.trucks_le
    have b_wn : wn ≤ 12 := K.waits_le
    refine Go.iload dMo_findSet_126 rfl ?_
    refine Go.iconst (v := nI 5) dMo_findSet_128 (by decide) ?_
    refine Go.icmp_ge (tgt := 168) dMo_findSet_129 (by decide) (fun q16 => ?_) (fun q16 => ?_)
    · replace q16 := tle q16 (by omega) (by omega)
      exact Go.weak (kont0 (i)  (by omega))
    · replace q16 := tnle q16 (by omega) (by omega)
      refine Go.iload_n dMo_findSet_132 rfl ?_
      refine Go.iload dMo_findSet_133 rfl ?_
      refine Go.ishr dMo_findSet_135 ?_
      refine Go.cvt (v' := nI (s / 2 ^ i)) (nI_shr (by omega) (by omega)) ?_
      refine Go.iconst (v := nI 1) dMo_findSet_136 (by decide) ?_
      refine Go.iand dMo_findSet_137 ?_
      refine Go.cvt (v' := nI ((s / 2 ^ i) % 2)) (nI_an1 (Nat.lt_of_le_of_lt (Nat.div_le_self _ _) (by omega))) ?_
      refine Go.if_eq (tgt := 162) dMo_findSet_138 (by decide) (fun q17 => ?_) (fun q17 => ?_)
      · replace q17 := zeq q17 (by omega)
        refine Go.iinc (v := nI (i + 1)) dMo_findSet_162 (by decide) rfl (nI_inc _) rfl ?_
        refine Go.goto (tgt := 126) dMo_findSet_165 (by decide) ?_
        exact Go.weak (ih (5 - ((i + 1))) (by omega) ((i + 1))  (by omega) (Nat.le_refl _))
      · replace q17 := zne q17 (by omega)
        refine Go.aload_n dMo_findSet_141 rfl (Nat.ne_of_beq_eq_false rfl) ?_
        refine Go.getR dMo_findSet_142 flMo_97 (Nat.le_of_ble_eq_true rfl) rfl K.r_trial ?_
        refine Go.iload dMo_findSet_145 rfl ?_
        refine Go.iald (jn := i) dMo_findSet_147 rfl (Nat.lt_of_lt_of_eq (by omega) (K.l_trial).symm) (by omega) ?_
        refine Go.aload_n dMo_findSet_148 rfl (Nat.ne_of_beq_eq_false rfl) ?_
        refine Go.getR dMo_findSet_149 flMo_94 (Nat.le_of_ble_eq_true rfl) rfl K.r_setStart ?_
        refine Go.iconst (v := nI 5) dMo_findSet_152 (by decide) ?_
        refine Go.iload_n dMo_findSet_153 rfl ?_
        refine Go.imul dMo_findSet_154 ?_
        refine Go.cvt (v' := nI (5 * a)) (pk_mul _ _) ?_
        refine Go.iload dMo_findSet_155 rfl ?_
        refine Go.iadd dMo_findSet_157 ?_
        refine Go.cvt (v' := nI ((5 * a) + i)) (nI_add _ _) ?_
        refine Go.iald (jn := ((5 * a) + i)) dMo_findSet_158 rfl (Nat.lt_of_lt_of_eq (by omega) (K.l_setStart).symm) (by omega) ?_
        refine Go.icmp_ne (tgt := 168) dMo_findSet_159 (by decide) (fun q18 => ?_) (fun q18 => ?_)
        · exact Go.weak (kont0 (i)  (by omega))
        · refine Go.iinc (v := nI (i + 1)) dMo_findSet_162 (by decide) rfl (nI_inc _) rfl ?_
          refine Go.goto (tgt := 126) dMo_findSet_165 (by decide) ?_
          exact Go.weak (ih (5 - ((i + 1))) (by omega) ((i + 1))  (by omega) (Nat.le_refl _))
set_option maxHeartbeats 2000000 in
theorem lp_Mo_findSet_218 {sc : Nat × (Nat → Int32)} {d bc bs : Nat} {md mt wn : Nat} {nw : Int32} {stf wtf : Nat → Int32} {h0 : AH} {Q : GO → AH → Prop} (q s a k : Nat) (x c b : Int32) (z1 : AV) (ha : a < 128) (kont0 : ∀ (z2 : AV) (h1 : AH), (KR ((md, mt, wn), nw, stf, wtf) h0 h1) → Go sc false false (d + 3) bc bs mMo_findSet 248 [vO 5 (0), vI (nI (q)), vI (nI (s)), vI (nI (a)), vI x, z1, vI (nI (k)), vI c, vI b, z2] [] h1 Q) : ∀ (k0 : Nat) (i : Nat) (h : AH), KR ((md, mt, wn), nw, stf, wtf) h0 h → (i ≤ 5) → 5 - i ≤ k0 → Go sc false false (d + 3) bc bs mMo_findSet 218 [vO 5 (0), vI (nI (q)), vI (nI (s)), vI (nI (a)), vI x, z1, vI (nI (k)), vI c, vI b, vI (nI (i))] [] h Q := by
  intro k0
  induction k0 using Nat.strongRecOn with
  | _ k0 ih =>
    intro i h K hi hk0
    have b_md : md ≤ 4 := K.doors_le
    have b_mt : mt ≤ 12 := K.trucks_le
    have b_wn : wn ≤ 12 := K.waits_le
    refine Go.iload dMo_findSet_218 rfl ?_
    refine Go.iconst (v := nI 5) dMo_findSet_220 (by decide) ?_
    refine Go.icmp_ge (tgt := 248) dMo_findSet_221 (by decide) (fun q19 => ?_) (fun q19 => ?_)
    · replace q19 := tle q19 (by omega) (by omega)
      exact Go.weak (kont0  _ _ K )
    · replace q19 := tnle q19 (by omega) (by omega)
      refine Go.aload_n dMo_findSet_224 rfl (Nat.ne_of_beq_eq_false rfl) ?_
      refine Go.getR dMo_findSet_225 flMo_94 (Nat.le_of_ble_eq_true rfl) rfl K.r_setStart ?_
      refine Go.iconst (v := nI 5) dMo_findSet_228 (by decide) ?_
      refine Go.iload_n dMo_findSet_229 rfl ?_
      refine Go.imul dMo_findSet_230 ?_
      refine Go.cvt (v' := nI (5 * a)) (pk_mul _ _) ?_
      refine Go.iload dMo_findSet_231 rfl ?_
      refine Go.iadd dMo_findSet_233 ?_
      refine Go.cvt (v' := nI ((5 * a) + i)) (nI_add _ _) ?_
      refine Go.aload_n dMo_findSet_234 rfl (Nat.ne_of_beq_eq_false rfl) ?_
      refine Go.getR dMo_findSet_235 flMo_97 (Nat.le_of_ble_eq_true rfl) rfl K.r_trial ?_
      refine Go.iload dMo_findSet_238 rfl ?_
      refine Go.iald (jn := i) dMo_findSet_240 rfl (Nat.lt_of_lt_of_eq (by omega) (K.l_trial).symm) (by omega) ?_
      refine Go.iast (jn := ((5 * a) + i)) dMo_findSet_241 rfl (Nat.lt_of_lt_of_eq (by omega) (K.l_setStart).symm) (by omega) ?_
      refine Go.hav (Kp := KR ((md, mt, wn), nw, stf, wtf) h0) (K.up (by omega)) (fun hh2 K => ?_)
      refine Go.iinc (v := nI (i + 1)) dMo_findSet_242 (by decide) rfl (nI_inc _) rfl ?_
      refine Go.goto (tgt := 218) dMo_findSet_245 (by decide) ?_
      exact Go.weak (ih (5 - ((i + 1))) (by omega) ((i + 1))  _ K (by omega) (Nat.le_refl _))
set_option maxHeartbeats 2000000 in
theorem lp_Mo_findSet_58 {sc : Nat × (Nat → Int32)} {d bc bs : Nat} {md mt wn : Nat} {nw : Int32} {stf wtf : Nat → Int32} {h0 : AH} {Q : GO → AH → Prop} (q s a : Nat) (x : Int32) (hq : q < 4) (hs : s < 32) (ha : a < 128) (kont0 : ∀ (z1 z5 z2 z3 z4 : AV) (h1 : AH), (KR ((md, mt, wn), nw, stf, wtf) h0 h1) → Go sc false false (d + 3) bc bs mMo_findSet 254 [vO 5 (0), vI (nI (q)), vI (nI (s)), vI (nI (a)), vI x, z1, z5, z2, z3, z4] [] h1 Q) : ∀ (k0 : Nat) (k : Nat) (z1 z2 z3 z4 : AV) (h : AH), KR ((md, mt, wn), nw, stf, wtf) h0 h → (k < 2 ^ 31) → x.toInt.toNat - k ≤ k0 → Go sc false false (d + 3) bc bs mMo_findSet 58 [vO 5 (0), vI (nI (q)), vI (nI (s)), vI (nI (a)), vI x, z1, vI (nI (k)), z2, z3, z4] [] h Q := by
  intro k0
  induction k0 using Nat.strongRecOn with
  | _ k0 ih =>
    intro k z1 z2 z3 z4 h K hk hk0
    have b_md : md ≤ 4 := K.doors_le
    have b_mt : mt ≤ 12 := K.trucks_le
    have b_wn : wn ≤ 12 := K.waits_le
    refine Go.iload dMo_findSet_58 rfl ?_
    refine Go.iload dMo_findSet_60 rfl ?_
    refine Go.icmp_ge (tgt := 254) dMo_findSet_62 (by decide) (fun q20 => ?_) (fun q20 => ?_)
    · exact Go.weak (kont0  _ _ _ _ _ _ K )
    · obtain ⟨hk1, hk2⟩ := lt_toInt q20 (by omega)
      refine Go.aload_n dMo_findSet_65 rfl (Nat.ne_of_beq_eq_false rfl) ?_
      refine Go.iload_n dMo_findSet_66 rfl ?_
      refine Go.iload_n dMo_findSet_67 rfl ?_
      refine Go.iload dMo_findSet_68 rfl ?_
      refine Go.cVp mMo_inOrder [vI (nI (q)), vI (nI (s)), vI (nI (k))] dMo_findSet_70 vwMo_114 (Nat.le_of_ble_eq_true rfl) rfl rfl (Nat.le_of_ble_eq_true rfl) rfl (Nat.le_of_ble_eq_true rfl) (g_Mo_inOrder K (q) (s) (k) (by omega) (by omega) (by omega) ) (fun v21 hh3 K => ?_)
      refine Go.istore dMo_findSet_73 (by decide) rfl ?_
      have J22 : ∀ x23 : Int32, Go sc false false (d + 3) bc bs mMo_findSet 105 [vO 5 (0), vI (nI (q)), vI (nI (s)), vI (nI (a)), vI x, z1, vI (nI (k)), vI v21, z3, z4] [vI x23] hh3 (Q) := by
        intro x23
        refine Go.istore dMo_findSet_105 (by decide) rfl ?_
        have J24 : ∀ x25 : Int32, ∀ z26 : AV, Go sc false false (d + 3) bc bs mMo_findSet 202 [vO 5 (0), vI (nI (q)), vI (nI (s)), vI (nI (a)), vI x, z1, vI (nI (k)), vI v21, vI x25, z26] [] hh3 (Q) := by
          intro x25 z26
          refine Go.iload dMo_findSet_202 rfl ?_
          refine Go.if_eq (tgt := 248) dMo_findSet_204 (by decide) (fun q27 => ?_) (fun q27 => ?_)
          · refine Go.iinc (v := nI (k + 1)) dMo_findSet_248 (by decide) rfl (nI_inc _) rfl ?_
            refine Go.goto (tgt := 58) dMo_findSet_251 (by decide) ?_
            exact Go.weak (ih (x.toInt.toNat - ((k + 1))) (by omega) ((k + 1)) _ _ _ _ _ K (by omega) (Nat.le_refl _))
          · refine Go.aload_n dMo_findSet_207 rfl (Nat.ne_of_beq_eq_false rfl) ?_
            refine Go.getR dMo_findSet_208 flMo_91 (Nat.le_of_ble_eq_true rfl) rfl K.r_setCost ?_
            refine Go.iload_n dMo_findSet_211 rfl ?_
            refine Go.iload dMo_findSet_212 rfl ?_
            refine Go.iast (jn := a) dMo_findSet_214 rfl (Nat.lt_of_lt_of_eq (by omega) (K.l_setCost).symm) (by omega) ?_
            refine Go.hav (Kp := KR ((md, mt, wn), nw, stf, wtf) h0) (K.up (by omega)) (fun hh4 K => ?_)
            refine Go.iconst (v := nI 0) dMo_findSet_215 (by decide) ?_
            refine Go.istore dMo_findSet_216 (by decide) rfl ?_
            refine Go.weak (lp_Mo_findSet_218 _ _ _ _ _ _ _ _ (by omega) (fun z228 h28 K => ?_) _ (0)  _ K (by omega) (Nat.le_refl _))
            refine Go.iinc (v := nI (k + 1)) dMo_findSet_248 (by decide) rfl (nI_inc _) rfl ?_
            refine Go.goto (tgt := 58) dMo_findSet_251 (by decide) ?_
            exact Go.weak (ih (x.toInt.toNat - ((k + 1))) (by omega) ((k + 1)) _ _ _ _ _ K (by omega) (Nat.le_refl _))
        refine Go.iload dMo_findSet_107 rfl ?_
        refine Go.if_lt (tgt := 202) dMo_findSet_109 (by decide) (fun q29 => ?_) (fun q29 => ?_)
        · exact Go.weak (J24 _ _)
        · refine Go.iload dMo_findSet_112 rfl ?_
          refine Go.aload_n dMo_findSet_114 rfl (Nat.ne_of_beq_eq_false rfl) ?_
          refine Go.getR dMo_findSet_115 flMo_91 (Nat.le_of_ble_eq_true rfl) rfl K.r_setCost ?_
          refine Go.iload_n dMo_findSet_118 rfl ?_
          refine Go.iald (jn := a) dMo_findSet_119 rfl (Nat.lt_of_lt_of_eq (by omega) (K.l_setCost).symm) (by omega) ?_
          refine Go.icmp_ne (tgt := 202) dMo_findSet_120 (by decide) (fun q30 => ?_) (fun q30 => ?_)
          · exact Go.weak (J24 _ _)
          · refine Go.iconst (v := nI 0) dMo_findSet_123 (by decide) ?_
            refine Go.istore dMo_findSet_124 (by decide) rfl ?_
            refine Go.weak (lp_Mo_findSet_126 _ _ _ _ _ _ _ _ (by omega) (by omega) K (fun i31 hi31 => ?_) _ (0)  (by omega) (Nat.le_refl _))
            refine Go.iload dMo_findSet_168 rfl ?_
            refine Go.iconst (v := nI 5) dMo_findSet_170 (by decide) ?_
            refine Go.icmp_ge (tgt := 199) dMo_findSet_171 (by decide) (fun q32 => ?_) (fun q32 => ?_)
            · replace q32 := tle q32 (by omega) (by omega)
              refine Go.iconst (v := nI 0) dMo_findSet_199 (by decide) ?_
              refine Go.istore dMo_findSet_200 (by decide) rfl ?_
              exact Go.weak (J24 _ _)
            · replace q32 := tnle q32 (by omega) (by omega)
              refine Go.aload_n dMo_findSet_174 rfl (Nat.ne_of_beq_eq_false rfl) ?_
              refine Go.getR dMo_findSet_175 flMo_97 (Nat.le_of_ble_eq_true rfl) rfl K.r_trial ?_
              refine Go.iload dMo_findSet_178 rfl ?_
              refine Go.iald (jn := i31) dMo_findSet_180 rfl (Nat.lt_of_lt_of_eq (by omega) (K.l_trial).symm) (by omega) ?_
              refine Go.aload_n dMo_findSet_181 rfl (Nat.ne_of_beq_eq_false rfl) ?_
              refine Go.getR dMo_findSet_182 flMo_94 (Nat.le_of_ble_eq_true rfl) rfl K.r_setStart ?_
              refine Go.iconst (v := nI 5) dMo_findSet_185 (by decide) ?_
              refine Go.iload_n dMo_findSet_186 rfl ?_
              refine Go.imul dMo_findSet_187 ?_
              refine Go.cvt (v' := nI (5 * a)) (pk_mul _ _) ?_
              refine Go.iload dMo_findSet_188 rfl ?_
              refine Go.iadd dMo_findSet_190 ?_
              refine Go.cvt (v' := nI ((5 * a) + i31)) (nI_add _ _) ?_
              refine Go.iald (jn := ((5 * a) + i31)) dMo_findSet_191 rfl (Nat.lt_of_lt_of_eq (by omega) (K.l_setStart).symm) (by omega) ?_
              refine Go.icmp_ge (tgt := 199) dMo_findSet_192 (by decide) (fun q33 => ?_) (fun q33 => ?_)
              · refine Go.iconst (v := nI 0) dMo_findSet_199 (by decide) ?_
                refine Go.istore dMo_findSet_200 (by decide) rfl ?_
                exact Go.weak (J24 _ _)
              · refine Go.iconst (v := nI 1) dMo_findSet_195 (by decide) ?_
                refine Go.goto (tgt := 200) dMo_findSet_196 (by decide) ?_
                refine Go.istore dMo_findSet_200 (by decide) rfl ?_
                exact Go.weak (J24 _ _)
      refine Go.iload dMo_findSet_75 rfl ?_
      refine Go.if_lt (tgt := 104) dMo_findSet_77 (by decide) (fun q34 => ?_) (fun q34 => ?_)
      · refine Go.iconst (v := nI 0) dMo_findSet_104 (by decide) ?_
        exact Go.weak (J22 _)
      · refine Go.aload_n dMo_findSet_80 rfl (Nat.ne_of_beq_eq_false rfl) ?_
        refine Go.getR dMo_findSet_81 flMo_91 (Nat.le_of_ble_eq_true rfl) rfl K.r_setCost ?_
        refine Go.iload_n dMo_findSet_84 rfl ?_
        refine Go.iald (jn := a) dMo_findSet_85 rfl (Nat.lt_of_lt_of_eq (by omega) (K.l_setCost).symm) (by omega) ?_
        refine Go.if_lt (tgt := 100) dMo_findSet_86 (by decide) (fun q35 => ?_) (fun q35 => ?_)
        · refine Go.iconst (v := nI 1) dMo_findSet_100 (by decide) ?_
          refine Go.goto (tgt := 105) dMo_findSet_101 (by decide) ?_
          exact Go.weak (J22 _)
        · refine Go.iload dMo_findSet_89 rfl ?_
          refine Go.aload_n dMo_findSet_91 rfl (Nat.ne_of_beq_eq_false rfl) ?_
          refine Go.getR dMo_findSet_92 flMo_91 (Nat.le_of_ble_eq_true rfl) rfl K.r_setCost ?_
          refine Go.iload_n dMo_findSet_95 rfl ?_
          refine Go.iald (jn := a) dMo_findSet_96 rfl (Nat.lt_of_lt_of_eq (by omega) (K.l_setCost).symm) (by omega) ?_
          refine Go.icmp_ge (tgt := 104) dMo_findSet_97 (by decide) (fun q36 => ?_) (fun q36 => ?_)
          · refine Go.iconst (v := nI 0) dMo_findSet_104 (by decide) ?_
            exact Go.weak (J22 _)
          · refine Go.iconst (v := nI 1) dMo_findSet_100 (by decide) ?_
            refine Go.goto (tgt := 105) dMo_findSet_101 (by decide) ?_
            exact Go.weak (J22 _)
set_option maxHeartbeats 2000000 in
theorem g_Mo_findSet {sc : Nat × (Nat → Int32)} {d bc bs : Nat} {md mt wn : Nat} {nw : Int32} {stf wtf : Nat → Int32} {h0 : AH} {h : AH} (K : KR ((md, mt, wn), nw, stf, wtf) h0 h) (q s : Nat) (hq : q < 4) (hs : s < 32) : Go sc true false (d + 3) bc bs mMo_findSet 0 [vO 5 (0), vI (nI (q)), vI (nI (s)), vU, vU, vU, vU, vU, vU, vU] [] h (PN (KR ((md, mt, wn), nw, stf, wtf) h0)) := by
  have b_md : md ≤ 4 := K.doors_le
  have b_mt : mt ≤ 12 := K.trucks_le
  have b_wn : wn ≤ 12 := K.waits_le
  refine Go.bipush (v := nI 32) dMo_findSet_0 (by decide) ?_
  refine Go.iload_n dMo_findSet_2 rfl ?_
  refine Go.imul dMo_findSet_3 ?_
  refine Go.cvt (v' := nI (32 * q)) (pk_mul _ _) ?_
  refine Go.iload_n dMo_findSet_4 rfl ?_
  refine Go.iadd dMo_findSet_5 ?_
  refine Go.cvt (v' := nI ((32 * q) + s)) (nI_add _ _) ?_
  refine Go.istore_n dMo_findSet_6 (by decide) rfl ?_
  refine Go.iconst (v := nI 1) dMo_findSet_7 (by decide) ?_
  refine Go.istore dMo_findSet_8 (by decide) rfl ?_
  refine Go.iconst (v := nI 0) dMo_findSet_10 (by decide) ?_
  refine Go.istore dMo_findSet_11 (by decide) rfl ?_
  refine Go.iconst (v := nI 0) dMo_findSet_13 (by decide) ?_
  refine Go.istore dMo_findSet_14 (by decide) rfl ?_
  refine Go.weak (lp_Mo_findSet_16 _ _ _ (by omega) K (fun x37 z037 z537 z137 z237 z337 => ?_) _ (0) _ _ _ _ _ (by omega) (Nat.le_refl _))
  refine Go.aload_n dMo_findSet_48 rfl (Nat.ne_of_beq_eq_false rfl) ?_
  refine Go.getR dMo_findSet_49 flMo_91 (Nat.le_of_ble_eq_true rfl) rfl K.r_setCost ?_
  refine Go.iload_n dMo_findSet_52 rfl ?_
  refine Go.iconst (v := -1) dMo_findSet_53 (by decide) ?_
  refine Go.iast (jn := ((32 * q) + s)) dMo_findSet_54 rfl (Nat.lt_of_lt_of_eq (by omega) (K.l_setCost).symm) (by omega) ?_
  refine Go.hav (Kp := KR ((md, mt, wn), nw, stf, wtf) h0) (K.up (by omega)) (fun hh5 K => ?_)
  refine Go.iconst (v := nI 0) dMo_findSet_55 (by decide) ?_
  refine Go.istore dMo_findSet_56 (by decide) rfl ?_
  refine Go.weak (lp_Mo_findSet_58 _ _ _ _ (by omega) (by omega) (by omega) (fun z138 z538 z238 z338 z438 h38 K => ?_) _ (0) _ _ _ _ _ K (by omega) (Nat.le_refl _))
  refine Go.vret dMo_findSet_254 rfl (by decide) ?_
  exact ⟨rfl, K⟩
set_option maxHeartbeats 2000000 in
theorem lp_Mo_setOf_4 {sc : Nat × (Nat → Int32)} {d bc bs : Nat} {md mt wn : Nat} {nw : Int32} {stf wtf : Nat → Int32} {h0 : AH} {h : AH} {Q : GO → AH → Prop} (x : Int32) (h5 : wn ≤ 5) (K : KR ((md, mt, wn), nw, stf, wtf) h0 h) (kont0 : ∀ (s : Nat) (z : AV), (s < 32) → Go sc false false (d + 0) bc bs mMo_setOf 38 [vO 5 (0), vI x, vI (nI (s)), z] [] h Q) : ∀ (k0 : Nat) (s i : Nat), (s < 32) → (i ≤ wn) → wn - i ≤ k0 → Go sc false false (d + 0) bc bs mMo_setOf 4 [vO 5 (0), vI x, vI (nI (s)), vI (nI (i))] [] h Q := by
  intro k0
  induction k0 using Nat.strongRecOn with
  | _ k0 ih =>
    intro s i hs hi hk0
    have b_md : md ≤ 4 := K.doors_le
    have b_mt : mt ≤ 12 := K.trucks_le
    have b_wn : wn ≤ 12 := K.waits_le
    refine Go.iload_n dMo_setOf_4 rfl ?_
    refine Go.aload_n dMo_setOf_5 rfl (Nat.ne_of_beq_eq_false rfl) ?_
    refine Go.getIv (v := nI (wn)) dMo_setOf_6 flMo_79 (Nat.le_of_ble_eq_true rfl) rfl K.waits ?_
    refine Go.icmp_ge (tgt := 38) dMo_setOf_9 (by decide) (fun q39 => ?_) (fun q39 => ?_)
    · replace q39 := tle q39 (by omega) (by omega)
      exact Go.weak (kont0 (s) _ (by omega))
    · replace q39 := tnle q39 (by omega) (by omega)
      refine Go.aload_n dMo_setOf_12 rfl (Nat.ne_of_beq_eq_false rfl) ?_
      refine Go.getR dMo_setOf_13 flMo_85 (Nat.le_of_ble_eq_true rfl) rfl K.r_newDoor ?_
      refine Go.iload_n dMo_setOf_16 rfl ?_
      refine Go.iald (jn := i) dMo_setOf_17 rfl (Nat.lt_of_lt_of_eq (by omega) (K.l_newDoor).symm) (by omega) ?_
      refine Go.iload_n dMo_setOf_18 rfl ?_
      refine Go.icmp_ne (tgt := 30) dMo_setOf_19 (by decide) (fun q40 => ?_) (fun q40 => ?_)
      · refine Go.iload_n dMo_setOf_30 rfl ?_
        refine Go.istore_n dMo_setOf_31 (by decide) rfl ?_
        refine Go.iinc (v := nI (i + 1)) dMo_setOf_32 (by decide) rfl (nI_inc _) rfl ?_
        refine Go.goto (tgt := 4) dMo_setOf_35 (by decide) ?_
        exact Go.weak (ih (wn - ((i + 1))) (by omega) (s) ((i + 1))  hs (by omega) (Nat.le_refl _))
      · refine Go.iload_n dMo_setOf_22 rfl ?_
        refine Go.iconst (v := nI 1) dMo_setOf_23 (by decide) ?_
        refine Go.iload_n dMo_setOf_24 rfl ?_
        refine Go.ishl dMo_setOf_25 ?_
        refine Go.cvt (v' := nI (2 ^ i)) (nI_shl (by omega)) ?_
        refine Go.ior dMo_setOf_26 ?_
        refine Go.cvt (v' := nI (s ||| (2 ^ i))) (nI_or _ _) ?_
        refine Go.goto (tgt := 31) dMo_setOf_27 (by decide) ?_
        refine Go.istore_n dMo_setOf_31 (by decide) rfl ?_
        refine Go.iinc (v := nI (i + 1)) dMo_setOf_32 (by decide) rfl (nI_inc _) rfl ?_
        refine Go.goto (tgt := 4) dMo_setOf_35 (by decide) ?_
        exact Go.weak (ih (wn - ((i + 1))) (by omega) ((s ||| (2 ^ i))) ((i + 1))  (or32 _ hs _ (by omega)) (by omega) (Nat.le_refl _))
set_option maxHeartbeats 2000000 in
theorem g_Mo_setOf {sc : Nat × (Nat → Int32)} {d bc bs : Nat} {md mt wn : Nat} {nw : Int32} {stf wtf : Nat → Int32} {h0 : AH} {h : AH} (K : KR ((md, mt, wn), nw, stf, wtf) h0 h) (x : Int32) (h5 : wn ≤ 5) : Go sc true false (d + 0) bc bs mMo_setOf 0 [vO 5 (0), vI x, vU, vU] [] h (rP (fun v => ∃ s : Nat, s < 32 ∧ v = nI s) h) := by
  have b_md : md ≤ 4 := K.doors_le
  have b_mt : mt ≤ 12 := K.trucks_le
  have b_wn : wn ≤ 12 := K.waits_le
  refine Go.iconst (v := nI 0) dMo_setOf_0 (by decide) ?_
  refine Go.istore_n dMo_setOf_1 (by decide) rfl ?_
  refine Go.iconst (v := nI 0) dMo_setOf_2 (by decide) ?_
  refine Go.istore_n dMo_setOf_3 (by decide) rfl ?_
  refine Go.weak (lp_Mo_setOf_4 _ h5 K (fun s41 z41 hs41 => ?_) _ (0) (0)  (by omega) (by omega) (Nat.le_refl _))
  refine Go.iload_n dMo_setOf_38 rfl ?_
  refine Go.iret dMo_setOf_39 rfl rfl (by decide) ?_
  exact ⟨_, rfl, ⟨_, hs41, rfl⟩, rfl⟩
set_option maxHeartbeats 2000000 in
theorem lp_Mo_costOf_12 {sc : Nat × (Nat → Int32)} {d bc bs : Nat} {md mt wn : Nat} {nw : Int32} {stf wtf : Nat → Int32} {h0 : AH} {Q : GO → AH → Prop} (hret : ∀ h1, (KR ((md, mt, wn), nw, stf, wtf) h0 h1) → Q (.inl (some (vI (-1)))) h1) (kont0 : ∀ (x : Int32) (y0 y1 z0 z1 : AV) (h1 : AH), (KR ((md, mt, wn), nw, stf, wtf) h0 h1) → Go sc false false (d + 1) bc bs mMo_costOf 84 [vO 5 (0), y0, y1, vI x, z0, z1] [] h1 Q) : ∀ (k0 : Nat) (b c : Nat) (x : Int32) (y0 z1 : AV) (h : AH), KR ((md, mt, wn), nw, stf, wtf) h0 h → (b < 2 ^ 31) → (c ≤ wn) → c ≤ k0 → Go sc false false (d + 1) bc bs mMo_costOf 12 [vO 5 (0), y0, vI (nI (b)), vI x, vI (im c), z1] [] h Q := by
  intro k0
  induction k0 using Nat.strongRecOn with
  | _ k0 ih =>
    intro b c x y0 z1 h K hb hc hk0
    have b_md : md ≤ 4 := K.doors_le
    have b_mt : mt ≤ 12 := K.trucks_le
    have b_wn : wn ≤ 12 := K.waits_le
    rcases c with _ | c
    · rw [im_0]
      refine Go.iload dMo_costOf_12 rfl ?_
      refine Go.if_lt (tgt := 84) dMo_costOf_14 (by decide) (fun q42 => ?_) (fun q42 => ?_)
      · exact Go.weak (kont0  _ _ _ _ _ _ K )
      · exact absurd q42 (by decide)
    · rw [im_s]
      have hb5 : b / 5 < 2 ^ 31 := by omega
      refine Go.iload dMo_costOf_12 rfl ?_
      refine Go.if_lt (tgt := 84) dMo_costOf_14 (by decide) (fun q43 => ?_) (fun q43 => ?_)
      · exact absurd q43 (nI_pos (by omega))
      · refine Go.iload_n dMo_costOf_17 rfl ?_
        refine Go.iconst (v := nI 5) dMo_costOf_18 (by decide) ?_
        refine Go.irem dMo_costOf_19 (nI_nz (by omega)) ?_
        refine Go.cvt (v' := nI (b % 5)) (pk_rem (by omega) (by omega) (by omega)) ?_
        refine Go.istore dMo_costOf_20 (by decide) rfl ?_
        refine Go.iload_n dMo_costOf_22 rfl ?_
        refine Go.iconst (v := nI 5) dMo_costOf_23 (by decide) ?_
        refine Go.idiv dMo_costOf_24 (nI_nz (by omega)) ?_
        refine Go.cvt (v' := nI (b / 5)) (pk_div (by omega) (by omega) (by omega)) ?_
        refine Go.istore_n dMo_costOf_25 (by decide) rfl ?_
        refine Go.iload dMo_costOf_26 rfl ?_
        refine Go.iconst (v := nI 4) dMo_costOf_28 (by decide) ?_
        refine Go.icmp_ge (tgt := 43) dMo_costOf_29 (by decide) (fun q44 => ?_) (fun q44 => ?_)
        · replace q44 := tle q44 (by omega) (by omega)
          refine Go.aload_n dMo_costOf_43 rfl (Nat.ne_of_beq_eq_false rfl) ?_
          refine Go.getR dMo_costOf_44 flMo_85 (Nat.le_of_ble_eq_true rfl) rfl K.r_newDoor ?_
          refine Go.iload dMo_costOf_47 rfl ?_
          refine Go.iload dMo_costOf_49 rfl ?_
          refine Go.iconst (v := nI 4) dMo_costOf_51 (by decide) ?_
          refine Go.icmp_ne (tgt := 59) dMo_costOf_52 (by decide) (fun q45 => ?_) (fun q45 => ?_)
          · replace q45 := tne q45 (by omega) (by omega)
            refine Go.iload dMo_costOf_59 rfl ?_
            refine Go.iast (jn := c) dMo_costOf_61 rfl (Nat.lt_of_lt_of_eq (by omega) (K.l_newDoor).symm) (by omega) ?_
            refine Go.hav (Kp := KR ((md, mt, wn), nw, stf, wtf) h0) (K.upNewDoor (Or.inr ⟨(b % 5), by omega, rfl⟩)) (fun hh6 K => ?_)
            refine Go.iload_n dMo_costOf_62 rfl ?_
            refine Go.iload dMo_costOf_63 rfl ?_
            refine Go.iconst (v := nI 4) dMo_costOf_65 (by decide) ?_
            refine Go.icmp_ne (tgt := 75) dMo_costOf_66 (by decide) (fun q46 => ?_) (fun q46 => ?_)
            · replace q46 := tne q46 (by omega) (by omega)
              refine Go.iconst (v := nI 0) dMo_costOf_75 (by decide) ?_
              refine Go.iadd dMo_costOf_76 ?_
              refine Go.istore_n dMo_costOf_77 (by decide) rfl ?_
              refine Go.iinc (v := im (c)) dMo_costOf_78 (by decide) rfl rfl rfl ?_
              refine Go.goto (tgt := 12) dMo_costOf_81 (by decide) ?_
              exact Go.weak (ih (c) (by omega) ((b / 5)) (c) _ _ _ _ K (by omega) (by omega) (Nat.le_refl _))
            · replace q46 := teq q46 (by omega) (by omega)
              refine Go.sipush (v := nI 5000) dMo_costOf_69 (by decide) ?_
              refine Go.goto (tgt := 76) dMo_costOf_72 (by decide) ?_
              refine Go.iadd dMo_costOf_76 ?_
              refine Go.istore_n dMo_costOf_77 (by decide) rfl ?_
              refine Go.iinc (v := im (c)) dMo_costOf_78 (by decide) rfl rfl rfl ?_
              refine Go.goto (tgt := 12) dMo_costOf_81 (by decide) ?_
              exact Go.weak (ih (c) (by omega) ((b / 5)) (c) _ _ _ _ K (by omega) (by omega) (Nat.le_refl _))
          · replace q45 := teq q45 (by omega) (by omega)
            refine Go.iconst (v := -1) dMo_costOf_55 (by decide) ?_
            refine Go.goto (tgt := 61) dMo_costOf_56 (by decide) ?_
            refine Go.iast (jn := c) dMo_costOf_61 rfl (Nat.lt_of_lt_of_eq (by omega) (K.l_newDoor).symm) (by omega) ?_
            refine Go.hav (Kp := KR ((md, mt, wn), nw, stf, wtf) h0) (K.upNewDoor (Or.inl rfl)) (fun hh7 K => ?_)
            refine Go.iload_n dMo_costOf_62 rfl ?_
            refine Go.iload dMo_costOf_63 rfl ?_
            refine Go.iconst (v := nI 4) dMo_costOf_65 (by decide) ?_
            refine Go.icmp_ne (tgt := 75) dMo_costOf_66 (by decide) (fun q47 => ?_) (fun q47 => ?_)
            · replace q47 := tne q47 (by omega) (by omega)
              refine Go.iconst (v := nI 0) dMo_costOf_75 (by decide) ?_
              refine Go.iadd dMo_costOf_76 ?_
              refine Go.istore_n dMo_costOf_77 (by decide) rfl ?_
              refine Go.iinc (v := im (c)) dMo_costOf_78 (by decide) rfl rfl rfl ?_
              refine Go.goto (tgt := 12) dMo_costOf_81 (by decide) ?_
              exact Go.weak (ih (c) (by omega) ((b / 5)) (c) _ _ _ _ K (by omega) (by omega) (Nat.le_refl _))
            · replace q47 := teq q47 (by omega) (by omega)
              refine Go.sipush (v := nI 5000) dMo_costOf_69 (by decide) ?_
              refine Go.goto (tgt := 76) dMo_costOf_72 (by decide) ?_
              refine Go.iadd dMo_costOf_76 ?_
              refine Go.istore_n dMo_costOf_77 (by decide) rfl ?_
              refine Go.iinc (v := im (c)) dMo_costOf_78 (by decide) rfl rfl rfl ?_
              refine Go.goto (tgt := 12) dMo_costOf_81 (by decide) ?_
              exact Go.weak (ih (c) (by omega) ((b / 5)) (c) _ _ _ _ K (by omega) (by omega) (Nat.le_refl _))
        · replace q44 := tnle q44 (by omega) (by omega)
          refine Go.iload dMo_costOf_32 rfl ?_
          refine Go.aload_n dMo_costOf_34 rfl (Nat.ne_of_beq_eq_false rfl) ?_
          refine Go.getIv (v := nI (md)) dMo_costOf_35 flMo_16 (Nat.le_of_ble_eq_true rfl) rfl K.doors ?_
          refine Go.icmp_lt (tgt := 43) dMo_costOf_38 (by decide) (fun q48 => ?_) (fun q48 => ?_)
          · replace q48 := tlt q48 (by omega) (by omega)
            refine Go.aload_n dMo_costOf_43 rfl (Nat.ne_of_beq_eq_false rfl) ?_
            refine Go.getR dMo_costOf_44 flMo_85 (Nat.le_of_ble_eq_true rfl) rfl K.r_newDoor ?_
            refine Go.iload dMo_costOf_47 rfl ?_
            refine Go.iload dMo_costOf_49 rfl ?_
            refine Go.iconst (v := nI 4) dMo_costOf_51 (by decide) ?_
            refine Go.icmp_ne (tgt := 59) dMo_costOf_52 (by decide) (fun q49 => ?_) (fun q49 => ?_)
            · replace q49 := tne q49 (by omega) (by omega)
              refine Go.iload dMo_costOf_59 rfl ?_
              refine Go.iast (jn := c) dMo_costOf_61 rfl (Nat.lt_of_lt_of_eq (by omega) (K.l_newDoor).symm) (by omega) ?_
              refine Go.hav (Kp := KR ((md, mt, wn), nw, stf, wtf) h0) (K.upNewDoor (Or.inr ⟨(b % 5), by omega, rfl⟩)) (fun hh8 K => ?_)
              refine Go.iload_n dMo_costOf_62 rfl ?_
              refine Go.iload dMo_costOf_63 rfl ?_
              refine Go.iconst (v := nI 4) dMo_costOf_65 (by decide) ?_
              refine Go.icmp_ne (tgt := 75) dMo_costOf_66 (by decide) (fun q50 => ?_) (fun q50 => ?_)
              · replace q50 := tne q50 (by omega) (by omega)
                refine Go.iconst (v := nI 0) dMo_costOf_75 (by decide) ?_
                refine Go.iadd dMo_costOf_76 ?_
                refine Go.istore_n dMo_costOf_77 (by decide) rfl ?_
                refine Go.iinc (v := im (c)) dMo_costOf_78 (by decide) rfl rfl rfl ?_
                refine Go.goto (tgt := 12) dMo_costOf_81 (by decide) ?_
                exact Go.weak (ih (c) (by omega) ((b / 5)) (c) _ _ _ _ K (by omega) (by omega) (Nat.le_refl _))
              · replace q50 := teq q50 (by omega) (by omega)
                refine Go.sipush (v := nI 5000) dMo_costOf_69 (by decide) ?_
                refine Go.goto (tgt := 76) dMo_costOf_72 (by decide) ?_
                refine Go.iadd dMo_costOf_76 ?_
                refine Go.istore_n dMo_costOf_77 (by decide) rfl ?_
                refine Go.iinc (v := im (c)) dMo_costOf_78 (by decide) rfl rfl rfl ?_
                refine Go.goto (tgt := 12) dMo_costOf_81 (by decide) ?_
                exact Go.weak (ih (c) (by omega) ((b / 5)) (c) _ _ _ _ K (by omega) (by omega) (Nat.le_refl _))
            · replace q49 := teq q49 (by omega) (by omega)
              refine Go.iconst (v := -1) dMo_costOf_55 (by decide) ?_
              refine Go.goto (tgt := 61) dMo_costOf_56 (by decide) ?_
              refine Go.iast (jn := c) dMo_costOf_61 rfl (Nat.lt_of_lt_of_eq (by omega) (K.l_newDoor).symm) (by omega) ?_
              refine Go.hav (Kp := KR ((md, mt, wn), nw, stf, wtf) h0) (K.upNewDoor (Or.inl rfl)) (fun hh9 K => ?_)
              refine Go.iload_n dMo_costOf_62 rfl ?_
              refine Go.iload dMo_costOf_63 rfl ?_
              refine Go.iconst (v := nI 4) dMo_costOf_65 (by decide) ?_
              refine Go.icmp_ne (tgt := 75) dMo_costOf_66 (by decide) (fun q51 => ?_) (fun q51 => ?_)
              · replace q51 := tne q51 (by omega) (by omega)
                refine Go.iconst (v := nI 0) dMo_costOf_75 (by decide) ?_
                refine Go.iadd dMo_costOf_76 ?_
                refine Go.istore_n dMo_costOf_77 (by decide) rfl ?_
                refine Go.iinc (v := im (c)) dMo_costOf_78 (by decide) rfl rfl rfl ?_
                refine Go.goto (tgt := 12) dMo_costOf_81 (by decide) ?_
                exact Go.weak (ih (c) (by omega) ((b / 5)) (c) _ _ _ _ K (by omega) (by omega) (Nat.le_refl _))
              · replace q51 := teq q51 (by omega) (by omega)
                refine Go.sipush (v := nI 5000) dMo_costOf_69 (by decide) ?_
                refine Go.goto (tgt := 76) dMo_costOf_72 (by decide) ?_
                refine Go.iadd dMo_costOf_76 ?_
                refine Go.istore_n dMo_costOf_77 (by decide) rfl ?_
                refine Go.iinc (v := im (c)) dMo_costOf_78 (by decide) rfl rfl rfl ?_
                refine Go.goto (tgt := 12) dMo_costOf_81 (by decide) ?_
                exact Go.weak (ih (c) (by omega) ((b / 5)) (c) _ _ _ _ K (by omega) (by omega) (Nat.le_refl _))
          · replace q48 := tnlt q48 (by omega) (by omega)
            refine Go.iconst (v := -1) dMo_costOf_41 (by decide) ?_
            refine Go.iret dMo_costOf_42 rfl rfl (by decide) ?_
            exact hret _ K
set_option maxHeartbeats 2000000 in
theorem lp_Mo_costOf_87 {sc : Nat × (Nat → Int32)} {d bc bs : Nat} {md mt wn : Nat} {nw : Int32} {stf wtf : Nat → Int32} {h0 : AH} {h : AH} {Q : GO → AH → Prop} (h5 : wn ≤ 5) (hret : Q (.inl (some (vI (-1)))) h) (K : KR ((md, mt, wn), nw, stf, wtf) h0 h) (kont0 : ∀ (x : Int32) (y0 y1 z0 z1 : AV), Go sc false false (d + 1) bc bs mMo_costOf 133 [vO 5 (0), y0, y1, vI x, z0, z1] [] h Q) : ∀ (k0 : Nat) (q : Nat) (x : Int32) (y0 y1 z1 : AV), (q ≤ md) → md - q ≤ k0 → Go sc false false (d + 1) bc bs mMo_costOf 87 [vO 5 (0), y0, y1, vI x, vI (nI (q)), z1] [] h Q := by
  intro k0
  induction k0 using Nat.strongRecOn with
  | _ k0 ih =>
    intro q x y0 y1 z1 hq hk0
    have b_md : md ≤ 4 := K.doors_le
    have b_mt : mt ≤ 12 := K.trucks_le
    have b_wn : wn ≤ 12 := K.waits_le
    refine Go.iload dMo_costOf_87 rfl ?_
    refine Go.aload_n dMo_costOf_89 rfl (Nat.ne_of_beq_eq_false rfl) ?_
    refine Go.getIv (v := nI (md)) dMo_costOf_90 flMo_16 (Nat.le_of_ble_eq_true rfl) rfl K.doors ?_
    refine Go.icmp_ge (tgt := 133) dMo_costOf_93 (by decide) (fun q52 => ?_) (fun q52 => ?_)
    · replace q52 := tle q52 (by omega) (by omega)
      exact Go.weak (kont0  _ _ _ _ _ )
    · replace q52 := tnle q52 (by omega) (by omega)
      refine Go.aload_n dMo_costOf_96 rfl (Nat.ne_of_beq_eq_false rfl) ?_
      refine Go.getR dMo_costOf_97 flMo_91 (Nat.le_of_ble_eq_true rfl) rfl K.r_setCost ?_
      refine Go.bipush (v := nI 32) dMo_costOf_100 (by decide) ?_
      refine Go.iload dMo_costOf_102 rfl ?_
      refine Go.imul dMo_costOf_104 ?_
      refine Go.cvt (v' := nI (32 * q)) (pk_mul _ _) ?_
      refine Go.aload_n dMo_costOf_105 rfl (Nat.ne_of_beq_eq_false rfl) ?_
      refine Go.iload dMo_costOf_106 rfl ?_
      refine Go.cVr mMo_setOf [vI (nI (q))] dMo_costOf_108 vwMo_124 (Nat.le_of_ble_eq_true rfl) rfl rfl (Nat.le_of_ble_eq_true rfl) rfl (Nat.le_of_ble_eq_true rfl) (g_Mo_setOf K _  (by omega)) ?_
      rintro v53 (⟨s53, hs53, rfl⟩)
      · refine Go.iadd dMo_costOf_111 ?_
        refine Go.cvt (v' := nI ((32 * q) + s53)) (nI_add _ _) ?_
        refine Go.iald (jn := ((32 * q) + s53)) dMo_costOf_112 rfl (Nat.lt_of_lt_of_eq (by omega) (K.l_setCost).symm) (by omega) ?_
        refine Go.istore dMo_costOf_113 (by decide) rfl ?_
        refine Go.iload dMo_costOf_115 rfl ?_
        refine Go.if_ge (tgt := 122) dMo_costOf_117 (by decide) (fun q54 => ?_) (fun q54 => ?_)
        · refine Go.iload_n dMo_costOf_122 rfl ?_
          refine Go.iload dMo_costOf_123 rfl ?_
          refine Go.iadd dMo_costOf_125 ?_
          refine Go.istore_n dMo_costOf_126 (by decide) rfl ?_
          refine Go.iinc (v := nI (q + 1)) dMo_costOf_127 (by decide) rfl (nI_inc _) rfl ?_
          refine Go.goto (tgt := 87) dMo_costOf_130 (by decide) ?_
          exact Go.weak (ih (md - ((q + 1))) (by omega) ((q + 1)) _ _ _ _ (by omega) (Nat.le_refl _))
        · refine Go.iconst (v := -1) dMo_costOf_120 (by decide) ?_
          refine Go.iret dMo_costOf_121 rfl rfl (by decide) ?_
          exact hret
set_option maxHeartbeats 2000000 in
theorem g_Mo_costOf {sc : Nat × (Nat → Int32)} {d bc bs : Nat} {md mt wn : Nat} {nw : Int32} {stf wtf : Nat → Int32} {h0 : AH} {h : AH} (K : KR ((md, mt, wn), nw, stf, wtf) h0 h) (k : Nat) (hk : k < 2 ^ 31) (h5 : wn ≤ 5) : Go sc true false (d + 1) bc bs mMo_costOf 0 [vO 5 (0), vI (nI (k)), vU, vU, vU, vU] [] h (PV (fun _ => KR ((md, mt, wn), nw, stf, wtf) h0)) := by
  have b_md : md ≤ 4 := K.doors_le
  have b_mt : mt ≤ 12 := K.trucks_le
  have b_wn : wn ≤ 12 := K.waits_le
  refine Go.iload_n dMo_costOf_0 rfl ?_
  refine Go.istore_n dMo_costOf_1 (by decide) rfl ?_
  refine Go.iconst (v := nI 0) dMo_costOf_2 (by decide) ?_
  refine Go.istore_n dMo_costOf_3 (by decide) rfl ?_
  refine Go.aload_n dMo_costOf_4 rfl (Nat.ne_of_beq_eq_false rfl) ?_
  refine Go.getIv (v := nI (wn)) dMo_costOf_5 flMo_79 (Nat.le_of_ble_eq_true rfl) rfl K.waits ?_
  refine Go.iconst (v := nI 1) dMo_costOf_8 (by decide) ?_
  refine Go.isub dMo_costOf_9 ?_
  refine Go.cvt (v' := im wn) (im_e _) ?_
  refine Go.istore dMo_costOf_10 (by decide) rfl ?_
  refine Go.weak (lp_Mo_costOf_12 (fun _ K => ⟨_, rfl, K⟩) (fun x55 y055 y155 z055 z155 h55 K => ?_) _ (k) (wn) _ _ _ _ K (by omega) (by omega) (Nat.le_refl _))
  refine Go.iconst (v := nI 0) dMo_costOf_84 (by decide) ?_
  refine Go.istore dMo_costOf_85 (by decide) rfl ?_
  refine Go.weak (lp_Mo_costOf_87 h5 ⟨_, rfl, K⟩ K (fun x56 y056 y156 z056 z156 => ?_) _ (0) _ _ _ _ (by omega) (Nat.le_refl _))
  refine Go.iload_n dMo_costOf_133 rfl ?_
  refine Go.iret dMo_costOf_134 rfl rfl (by decide) ?_
  exact ⟨_, rfl, K⟩
