/-! THE LAW, 3: its loop -/
theorem Go.cSb {sc : Nat × (Nat → Int32)} {cl rd : Bool} {d2 bc bs : Nat} {y : MD} {pc : Nat} {ls st stk ls2 : List AV} {h : AH} {Q : GO → AH → Prop} (y2 : MD) (vs : List AV) {idx : Nat} (hd : decode y.2.1 pc = .ok (.invokestatic idx, 3)) (hvw : ma_SW y.1.cls idx y2 vs.length) (hs : vs.reverse ++ st = stk) (hl2 : vs ++ List.replicate (y2.2.2.1 - vs.length) vU = ls2) (hN : vs.length ≤ y2.2.2.1) (hnl : vs.all ma_nlb = true) (h8 : st.length ≤ 10) {P : Int32 → AH → Prop} (G2 : Go sc true false d2 5 30 y2 0 ls2 [] h (PV P)) (kk : ∀ v h1, P v h1 → Go sc false rd (d2 + 1) bc bs y (pc + 3) ls (vI v :: st) h1 Q) : Go sc cl rd (d2 + 1) (bc + 5) (bs + 30) y pc ls stk h Q :=
  Go.callS (bc2 := 5) (bs2 := 30) (rd2 := false) false y2 vs hd hvw hs hl2 hN (ma_nls hnl) h8 (fun hc => nomatch hc) G2 (fun _ hq => by obtain ⟨_, e1, _⟩ := hq; cases e1) (fun v' h1 hq => by obtain ⟨v, e1, e2⟩ := hq; cases e1; exact kk v h1 e2) (fun _ _ hq => by obtain ⟨_, e1, _⟩ := hq; cases e1)
theorem law_le {L i : Nat} (hL : L ≤ 2560) (hi : i ≤ L) (q : ¬ nI L - nI 5 < nI i) : i + 5 ≤ L := by
  rcases Nat.lt_or_ge L 5 with z | z
  · have h1 : nI L - nI 5 < 0 := pk_sneg (by omega) z
    exact absurd (Int32.lt_of_lt_of_le h1 (nI_pos' (by omega))) q
  · rw [pk_sub z] at q
    have := tnlt q (by omega) (by omega)
    omega
theorem w_Mo_thrown {sc : Nat × (Nat → Int32)} {d bc bs : Nat} {G : GR} {h0 h : AH} (R : KR G h0 h) : Go sc true false (d + 20) bc bs mMo_thrown 0 [vO 5 0] [] h (rP (fun v => v = h.1 5 0 0) h) := by
  obtain ⟨⟨md, mt, wn⟩, nw, stf, wtf⟩ := G
  exact Go.mono (fun g h1 q => ⟨_, q.1, rfl, q.2⟩) (g_Mo_thrown (d := d + 20) R)
theorem lg_cmp_self (a : Int64) : lg_cmp a a = 0 := by
  simp [lg_cmp]
set_option maxHeartbeats 4000000 in
theorem lp_law {L : Nat} {xs : Nat → Int32} {d : Nat} (hL : L ≤ 2560) : ∀ (k i : Nat) (z5 z6 : AV) (h : AH), LI h → L < i + 5 * k → i ≤ L → Go (L, xs) false false (d + 22) (5 * k) (30 * k) mLw_law 23 [vO 99 0, vO 4 0, vO 5 0, vO 101 0, vI (nI i), z5, z6] [] h (fun g _ => g = .inl (some (vI 1))) := by
  intro k
  induction k with
  | zero => intro i z5 z6 h hI hk hi; omega
  | succ k ih =>
    intro i z5 z6 h hI hk hi
    obtain ⟨⟨⟨nd, nt⟩, nw⟩, ⟨⟨md, mt, wn⟩, nw2, stf, wtf⟩, K, R, l, e1, e2⟩ := hI
    have e1 : nt = mt := e1
    have e2 : nw = nw2 := e2
    subst e1
    subst e2
    rw [show 5 * (k + 1) = 5 * k + 5 from rfl, show 30 * (k + 1) = 30 * k + 30 from rfl]
    refine Go.iload dLw_law_23 rfl ?_
    refine Go.aload_n dLw_law_25 rfl (Nat.ne_of_beq_eq_false rfl) ?_
    refine Go.slen dLw_law_26 ?_
    refine Go.iconst (v := nI 5) dLw_law_27 (by decide) ?_
    refine Go.isub dLw_law_28 ?_
    refine Go.icmp_gt (tgt := 760) dLw_law_29 (by decide) (fun q1 => ?_) (fun q1 => ?_)
    · refine Go.iconst (v := nI 1) dLw_law_760 (by decide) ?_
      refine Go.iret dLw_law_761 rfl rfl (by decide) ?_
      exact rfl
    · have hi5 := law_le hL hi q1
      refine Go.aload_n dLw_law_32 rfl (Nat.ne_of_beq_eq_false rfl) ?_
      refine Go.iload dLw_law_33 rfl ?_
      refine Go.sald (jn := i) dLw_law_35 rfl (show i < L from by omega) (by omega) ?_
      refine Go.bipush (v := nI 31) dLw_law_36 (by decide) ?_
      refine Go.iand dLw_law_38 ?_
      rcases sw18 (xs (i) &&& nI 31) with qs | qs | qs | qs | qs | qs | qs | qs | qs | qs | qs | qs | qs | qs | qs | qs | qs | qs | qs
      · refine Go.tabOut (tgt := 754) dLw_law_39 qs (by decide) ?_
        have hI2 : LI h := ⟨_, _, K, R, l, rfl, rfl⟩
        refine Go.iinc (v := nI (i + 5)) dLw_law_754 (by decide) rfl (nI_inc5 _) rfl ?_
        refine Go.goto (tgt := 23) dLw_law_757 (by decide) ?_
        exact Go.weak (Go.wide (ih (i + 5) _ _ _ hI2 (by omega) (by omega)) (Nat.le_refl _) (by omega) (by omega))
      · rw [qs]
        refine Go.tabIn (off := 85) (tgt := 124) dLw_law_39 (by decide) (by decide) rfl (by decide) ?_
        refine Go.aload_n dLw_law_124 rfl (Nat.ne_of_beq_eq_false rfl) ?_
        refine Go.aload_n dLw_law_125 rfl (Nat.ne_of_beq_eq_false rfl) ?_
        refine Go.iload dLw_law_126 rfl ?_
        refine Go.iconst (v := nI 1) dLw_law_128 (by decide) ?_
        refine Go.iadd dLw_law_129 ?_
        refine Go.cvt (v' := nI (i + 1)) (nI_add _ _) ?_
        refine Go.sald (jn := (i + 1)) dLw_law_130 rfl (show (i + 1) < L from by omega) (by omega) ?_
        refine Go.aload_n dLw_law_131 rfl (Nat.ne_of_beq_eq_false rfl) ?_
        refine Go.iload dLw_law_132 rfl ?_
        refine Go.iconst (v := nI 2) dLw_law_134 (by decide) ?_
        refine Go.iadd dLw_law_135 ?_
        refine Go.cvt (v' := nI (i + 2)) (nI_add _ _) ?_
        refine Go.sald (jn := (i + 2)) dLw_law_136 rfl (show (i + 2) < L from by omega) (by omega) ?_
        refine Go.aload_n dLw_law_137 rfl (Nat.ne_of_beq_eq_false rfl) ?_
        refine Go.iload dLw_law_138 rfl ?_
        refine Go.iconst (v := nI 3) dLw_law_140 (by decide) ?_
        refine Go.iadd dLw_law_141 ?_
        refine Go.cvt (v' := nI (i + 3)) (nI_add _ _) ?_
        refine Go.sald (jn := (i + 3)) dLw_law_142 rfl (show (i + 3) < L from by omega) (by omega) ?_
        refine Go.aload_n dLw_law_143 rfl (Nat.ne_of_beq_eq_false rfl) ?_
        refine Go.cSb mLw_door [vO 4 (0), vI (xs ((i + 1))), vI (xs ((i + 2))), vI (xs ((i + 3))), vO 101 0] dLw_law_144 vwLw_71 rfl rfl (Nat.le_of_ble_eq_true rfl) rfl (Nat.le_of_ble_eq_true rfl) (g_Lw_door (d := d) K R l _ _ _) (fun v1 h2 q3 => ?_)
        obtain ⟨G2, K2, R2, l2, e3, e4⟩ := id q3
        refine Go.istore dLw_law_147 (by decide) rfl ?_
        refine Go.aload_n dLw_law_149 rfl (Nat.ne_of_beq_eq_false rfl) ?_
        refine Go.aload_n dLw_law_150 rfl (Nat.ne_of_beq_eq_false rfl) ?_
        refine Go.iload dLw_law_151 rfl ?_
        refine Go.iconst (v := nI 1) dLw_law_153 (by decide) ?_
        refine Go.iadd dLw_law_154 ?_
        refine Go.cvt (v' := nI (i + 1)) (nI_add _ _) ?_
        refine Go.sald (jn := (i + 1)) dLw_law_155 rfl (show (i + 1) < L from by omega) (by omega) ?_
        refine Go.aload_n dLw_law_156 rfl (Nat.ne_of_beq_eq_false rfl) ?_
        refine Go.iload dLw_law_157 rfl ?_
        refine Go.iconst (v := nI 2) dLw_law_159 (by decide) ?_
        refine Go.iadd dLw_law_160 ?_
        refine Go.cvt (v' := nI (i + 2)) (nI_add _ _) ?_
        refine Go.sald (jn := (i + 2)) dLw_law_161 rfl (show (i + 2) < L from by omega) (by omega) ?_
        refine Go.aload_n dLw_law_162 rfl (Nat.ne_of_beq_eq_false rfl) ?_
        refine Go.iload dLw_law_163 rfl ?_
        refine Go.iconst (v := nI 3) dLw_law_165 (by decide) ?_
        refine Go.iadd dLw_law_166 ?_
        refine Go.cvt (v' := nI (i + 3)) (nI_add _ _) ?_
        refine Go.sald (jn := (i + 3)) dLw_law_167 rfl (show (i + 3) < L from by omega) (by omega) ?_
        refine Go.cVp mMo_door [vI (xs ((i + 1))), vI (xs ((i + 2))), vI (xs ((i + 3)))] dLw_law_168 vwLw_76 (Nat.le_of_ble_eq_true rfl) rfl rfl (Nat.le_of_ble_eq_true rfl) rfl (Nat.le_of_ble_eq_true rfl) (w_Mo_door (d := d + 1) R2 _ _ _) (fun v4 h5 q6 => ?_)
        refine Go.istore dLw_law_171 (by decide) rfl ?_
        refine Go.goto (tgt := 754) dLw_law_173 (by decide) ?_
        have hI2 : LI h5 := q3.li q6 rfl rfl
        refine Go.iinc (v := nI (i + 5)) dLw_law_754 (by decide) rfl (nI_inc5 _) rfl ?_
        refine Go.goto (tgt := 23) dLw_law_757 (by decide) ?_
        exact Go.weak (Go.wide (ih (i + 5) _ _ _ hI2 (by omega) (by omega)) (Nat.le_refl _) (by omega) (by omega))
      · rw [qs]
        refine Go.tabIn (off := 137) (tgt := 176) dLw_law_39 (by decide) (by decide) rfl (by decide) ?_
        refine Go.aload_n dLw_law_176 rfl (Nat.ne_of_beq_eq_false rfl) ?_
        refine Go.aload_n dLw_law_177 rfl (Nat.ne_of_beq_eq_false rfl) ?_
        refine Go.iload dLw_law_178 rfl ?_
        refine Go.iconst (v := nI 1) dLw_law_180 (by decide) ?_
        refine Go.iadd dLw_law_181 ?_
        refine Go.cvt (v' := nI (i + 1)) (nI_add _ _) ?_
        refine Go.sald (jn := (i + 1)) dLw_law_182 rfl (show (i + 1) < L from by omega) (by omega) ?_
        refine Go.aload_n dLw_law_183 rfl (Nat.ne_of_beq_eq_false rfl) ?_
        refine Go.iload dLw_law_184 rfl ?_
        refine Go.iconst (v := nI 2) dLw_law_186 (by decide) ?_
        refine Go.iadd dLw_law_187 ?_
        refine Go.cvt (v' := nI (i + 2)) (nI_add _ _) ?_
        refine Go.sald (jn := (i + 2)) dLw_law_188 rfl (show (i + 2) < L from by omega) (by omega) ?_
        refine Go.aload_n dLw_law_189 rfl (Nat.ne_of_beq_eq_false rfl) ?_
        refine Go.iload dLw_law_190 rfl ?_
        refine Go.iconst (v := nI 3) dLw_law_192 (by decide) ?_
        refine Go.iadd dLw_law_193 ?_
        refine Go.cvt (v' := nI (i + 3)) (nI_add _ _) ?_
        refine Go.sald (jn := (i + 3)) dLw_law_194 rfl (show (i + 3) < L from by omega) (by omega) ?_
        refine Go.aload_n dLw_law_195 rfl (Nat.ne_of_beq_eq_false rfl) ?_
        refine Go.iload dLw_law_196 rfl ?_
        refine Go.iconst (v := nI 4) dLw_law_198 (by decide) ?_
        refine Go.iadd dLw_law_199 ?_
        refine Go.cvt (v' := nI (i + 4)) (nI_add _ _) ?_
        refine Go.sald (jn := (i + 4)) dLw_law_200 rfl (show (i + 4) < L from by omega) (by omega) ?_
        refine Go.aload_n dLw_law_201 rfl (Nat.ne_of_beq_eq_false rfl) ?_
        refine Go.cSb mLw_truck [vO 4 (0), vI (xs ((i + 1))), vI (xs ((i + 2))), vI (xs ((i + 3))), vI (xs ((i + 4))), vO 101 0] dLw_law_202 vwLw_77 rfl rfl (Nat.le_of_ble_eq_true rfl) rfl (Nat.le_of_ble_eq_true rfl) (g_Lw_truck (d := d) K R l _ _ _ _) (fun v7 h8 q9 => ?_)
        rcases q9 with ⟨ok, hn, rfl, hl, K2, R2, l2⟩ | ⟨ok, hn, rfl, rfl⟩ | ⟨ok, rfl, rfl⟩
        · have hn : nt < 12 := hn
          refine Go.istore dLw_law_205 (by decide) rfl ?_
          refine Go.aload_n dLw_law_207 rfl (Nat.ne_of_beq_eq_false rfl) ?_
          refine Go.aload_n dLw_law_208 rfl (Nat.ne_of_beq_eq_false rfl) ?_
          refine Go.iload dLw_law_209 rfl ?_
          refine Go.iconst (v := nI 1) dLw_law_211 (by decide) ?_
          refine Go.iadd dLw_law_212 ?_
          refine Go.cvt (v' := nI (i + 1)) (nI_add _ _) ?_
          refine Go.sald (jn := (i + 1)) dLw_law_213 rfl (show (i + 1) < L from by omega) (by omega) ?_
          refine Go.aload_n dLw_law_214 rfl (Nat.ne_of_beq_eq_false rfl) ?_
          refine Go.iload dLw_law_215 rfl ?_
          refine Go.iconst (v := nI 2) dLw_law_217 (by decide) ?_
          refine Go.iadd dLw_law_218 ?_
          refine Go.cvt (v' := nI (i + 2)) (nI_add _ _) ?_
          refine Go.sald (jn := (i + 2)) dLw_law_219 rfl (show (i + 2) < L from by omega) (by omega) ?_
          refine Go.aload_n dLw_law_220 rfl (Nat.ne_of_beq_eq_false rfl) ?_
          refine Go.iload dLw_law_221 rfl ?_
          refine Go.iconst (v := nI 3) dLw_law_223 (by decide) ?_
          refine Go.iadd dLw_law_224 ?_
          refine Go.cvt (v' := nI (i + 3)) (nI_add _ _) ?_
          refine Go.sald (jn := (i + 3)) dLw_law_225 rfl (show (i + 3) < L from by omega) (by omega) ?_
          refine Go.aload_n dLw_law_226 rfl (Nat.ne_of_beq_eq_false rfl) ?_
          refine Go.iload dLw_law_227 rfl ?_
          refine Go.iconst (v := nI 4) dLw_law_229 (by decide) ?_
          refine Go.iadd dLw_law_230 ?_
          refine Go.cvt (v' := nI (i + 4)) (nI_add _ _) ?_
          refine Go.sald (jn := (i + 4)) dLw_law_231 rfl (show (i + 4) < L from by omega) (by omega) ?_
          refine Go.cVp mMo_truck [vI (xs ((i + 1))), vI (xs ((i + 2))), vI (xs ((i + 3))), vI (xs ((i + 4)))] dLw_law_232 vwLw_80 (Nat.le_of_ble_eq_true rfl) rfl rfl (Nat.le_of_ble_eq_true rfl) rfl (Nat.le_of_ble_eq_true rfl) (g_Mo_truck (d := d + 20) R2 _ _ _ _) (fun v10 h11 q12 => ?_)
          rcases q12 with ⟨ok2, hn2, rfl, e0, R3⟩ | ⟨ok2, hn2, e0, R3⟩ | ⟨ok2, e0, R3⟩
          · refine Go.istore dLw_law_235 (by decide) rfl ?_
            refine Go.goto (tgt := 754) dLw_law_237 (by decide) ?_
            have hI2 : LI h11 := ⟨((nd, nt + 1), nw), _, K2.keep R3.fr, R3.st0, R3.fr.len l2, rfl, rfl⟩
            refine Go.iinc (v := nI (i + 5)) dLw_law_754 (by decide) rfl (nI_inc5 _) rfl ?_
            refine Go.goto (tgt := 23) dLw_law_757 (by decide) ?_
            exact Go.weak (Go.wide (ih (i + 5) _ _ _ hI2 (by omega) (by omega)) (Nat.le_refl _) (by omega) (by omega))
          · exact absurd (show nt = 12 from hn2) (by omega)
          · exact absurd ok ok2
        · have hn : nt = 12 := hn
          have K2 := K
          have R2 := R
          have l2 := l
          refine Go.istore dLw_law_205 (by decide) rfl ?_
          refine Go.aload_n dLw_law_207 rfl (Nat.ne_of_beq_eq_false rfl) ?_
          refine Go.aload_n dLw_law_208 rfl (Nat.ne_of_beq_eq_false rfl) ?_
          refine Go.iload dLw_law_209 rfl ?_
          refine Go.iconst (v := nI 1) dLw_law_211 (by decide) ?_
          refine Go.iadd dLw_law_212 ?_
          refine Go.cvt (v' := nI (i + 1)) (nI_add _ _) ?_
          refine Go.sald (jn := (i + 1)) dLw_law_213 rfl (show (i + 1) < L from by omega) (by omega) ?_
          refine Go.aload_n dLw_law_214 rfl (Nat.ne_of_beq_eq_false rfl) ?_
          refine Go.iload dLw_law_215 rfl ?_
          refine Go.iconst (v := nI 2) dLw_law_217 (by decide) ?_
          refine Go.iadd dLw_law_218 ?_
          refine Go.cvt (v' := nI (i + 2)) (nI_add _ _) ?_
          refine Go.sald (jn := (i + 2)) dLw_law_219 rfl (show (i + 2) < L from by omega) (by omega) ?_
          refine Go.aload_n dLw_law_220 rfl (Nat.ne_of_beq_eq_false rfl) ?_
          refine Go.iload dLw_law_221 rfl ?_
          refine Go.iconst (v := nI 3) dLw_law_223 (by decide) ?_
          refine Go.iadd dLw_law_224 ?_
          refine Go.cvt (v' := nI (i + 3)) (nI_add _ _) ?_
          refine Go.sald (jn := (i + 3)) dLw_law_225 rfl (show (i + 3) < L from by omega) (by omega) ?_
          refine Go.aload_n dLw_law_226 rfl (Nat.ne_of_beq_eq_false rfl) ?_
          refine Go.iload dLw_law_227 rfl ?_
          refine Go.iconst (v := nI 4) dLw_law_229 (by decide) ?_
          refine Go.iadd dLw_law_230 ?_
          refine Go.cvt (v' := nI (i + 4)) (nI_add _ _) ?_
          refine Go.sald (jn := (i + 4)) dLw_law_231 rfl (show (i + 4) < L from by omega) (by omega) ?_
          refine Go.cVp mMo_truck [vI (xs ((i + 1))), vI (xs ((i + 2))), vI (xs ((i + 3))), vI (xs ((i + 4)))] dLw_law_232 vwLw_80 (Nat.le_of_ble_eq_true rfl) rfl rfl (Nat.le_of_ble_eq_true rfl) rfl (Nat.le_of_ble_eq_true rfl) (g_Mo_truck (d := d + 20) R2 _ _ _ _) (fun v13 h14 q15 => ?_)
          rcases q15 with ⟨ok2, hn2, rfl, e0, R3⟩ | ⟨ok2, hn2, e0, R3⟩ | ⟨ok2, e0, R3⟩
          · exact absurd (show nt < 12 from hn2) (by omega)
          · refine Go.istore dLw_law_235 (by decide) rfl ?_
            refine Go.goto (tgt := 754) dLw_law_237 (by decide) ?_
            have hI2 : LI h14 := ⟨_, _, K2.keep R3.fr, R3.st0, R3.fr.len l2, rfl, rfl⟩
            refine Go.iinc (v := nI (i + 5)) dLw_law_754 (by decide) rfl (nI_inc5 _) rfl ?_
            refine Go.goto (tgt := 23) dLw_law_757 (by decide) ?_
            exact Go.weak (Go.wide (ih (i + 5) _ _ _ hI2 (by omega) (by omega)) (Nat.le_refl _) (by omega) (by omega))
          · exact absurd ok ok2
        · have K2 := K
          have R2 := R
          have l2 := l
          refine Go.istore dLw_law_205 (by decide) rfl ?_
          refine Go.aload_n dLw_law_207 rfl (Nat.ne_of_beq_eq_false rfl) ?_
          refine Go.aload_n dLw_law_208 rfl (Nat.ne_of_beq_eq_false rfl) ?_
          refine Go.iload dLw_law_209 rfl ?_
          refine Go.iconst (v := nI 1) dLw_law_211 (by decide) ?_
          refine Go.iadd dLw_law_212 ?_
          refine Go.cvt (v' := nI (i + 1)) (nI_add _ _) ?_
          refine Go.sald (jn := (i + 1)) dLw_law_213 rfl (show (i + 1) < L from by omega) (by omega) ?_
          refine Go.aload_n dLw_law_214 rfl (Nat.ne_of_beq_eq_false rfl) ?_
          refine Go.iload dLw_law_215 rfl ?_
          refine Go.iconst (v := nI 2) dLw_law_217 (by decide) ?_
          refine Go.iadd dLw_law_218 ?_
          refine Go.cvt (v' := nI (i + 2)) (nI_add _ _) ?_
          refine Go.sald (jn := (i + 2)) dLw_law_219 rfl (show (i + 2) < L from by omega) (by omega) ?_
          refine Go.aload_n dLw_law_220 rfl (Nat.ne_of_beq_eq_false rfl) ?_
          refine Go.iload dLw_law_221 rfl ?_
          refine Go.iconst (v := nI 3) dLw_law_223 (by decide) ?_
          refine Go.iadd dLw_law_224 ?_
          refine Go.cvt (v' := nI (i + 3)) (nI_add _ _) ?_
          refine Go.sald (jn := (i + 3)) dLw_law_225 rfl (show (i + 3) < L from by omega) (by omega) ?_
          refine Go.aload_n dLw_law_226 rfl (Nat.ne_of_beq_eq_false rfl) ?_
          refine Go.iload dLw_law_227 rfl ?_
          refine Go.iconst (v := nI 4) dLw_law_229 (by decide) ?_
          refine Go.iadd dLw_law_230 ?_
          refine Go.cvt (v' := nI (i + 4)) (nI_add _ _) ?_
          refine Go.sald (jn := (i + 4)) dLw_law_231 rfl (show (i + 4) < L from by omega) (by omega) ?_
          refine Go.cVp mMo_truck [vI (xs ((i + 1))), vI (xs ((i + 2))), vI (xs ((i + 3))), vI (xs ((i + 4)))] dLw_law_232 vwLw_80 (Nat.le_of_ble_eq_true rfl) rfl rfl (Nat.le_of_ble_eq_true rfl) rfl (Nat.le_of_ble_eq_true rfl) (g_Mo_truck (d := d + 20) R2 _ _ _ _) (fun v16 h17 q18 => ?_)
          rcases q18 with ⟨ok2, hn2, rfl, e0, R3⟩ | ⟨ok2, hn2, e0, R3⟩ | ⟨ok2, e0, R3⟩
          · exact absurd ok2 ok
          · exact absurd ok2 ok
          · refine Go.istore dLw_law_235 (by decide) rfl ?_
            refine Go.goto (tgt := 754) dLw_law_237 (by decide) ?_
            have hI2 : LI h17 := ⟨_, _, K2.keep R3.fr, R3.st0, R3.fr.len l2, rfl, rfl⟩
            refine Go.iinc (v := nI (i + 5)) dLw_law_754 (by decide) rfl (nI_inc5 _) rfl ?_
            refine Go.goto (tgt := 23) dLw_law_757 (by decide) ?_
            exact Go.weak (Go.wide (ih (i + 5) _ _ _ hI2 (by omega) (by omega)) (Nat.le_refl _) (by omega) (by omega))
      · rw [qs]
        refine Go.tabIn (off := 201) (tgt := 240) dLw_law_39 (by decide) (by decide) rfl (by decide) ?_
        refine Go.aload_n dLw_law_240 rfl (Nat.ne_of_beq_eq_false rfl) ?_
        refine Go.aload_n dLw_law_241 rfl (Nat.ne_of_beq_eq_false rfl) ?_
        refine Go.iload dLw_law_242 rfl ?_
        refine Go.iconst (v := nI 1) dLw_law_244 (by decide) ?_
        refine Go.iadd dLw_law_245 ?_
        refine Go.cvt (v' := nI (i + 1)) (nI_add _ _) ?_
        refine Go.sald (jn := (i + 1)) dLw_law_246 rfl (show (i + 1) < L from by omega) (by omega) ?_
        refine Go.aload_n dLw_law_247 rfl (Nat.ne_of_beq_eq_false rfl) ?_
        refine Go.cSb mLw_assign [vO 4 (0), vI (xs ((i + 1))), vO 101 0] dLw_law_248 vwLw_81 rfl rfl (Nat.le_of_ble_eq_true rfl) rfl (Nat.le_of_ble_eq_true rfl) (g_Lw_assign (d := d) K R l _) (fun v19 h20 q21 => ?_)
        obtain ⟨G2, K2, R2, l2, e3, e4⟩ := id q21
        refine Go.istore dLw_law_251 (by decide) rfl ?_
        refine Go.aload_n dLw_law_253 rfl (Nat.ne_of_beq_eq_false rfl) ?_
        refine Go.aload_n dLw_law_254 rfl (Nat.ne_of_beq_eq_false rfl) ?_
        refine Go.iload dLw_law_255 rfl ?_
        refine Go.iconst (v := nI 1) dLw_law_257 (by decide) ?_
        refine Go.iadd dLw_law_258 ?_
        refine Go.cvt (v' := nI (i + 1)) (nI_add _ _) ?_
        refine Go.sald (jn := (i + 1)) dLw_law_259 rfl (show (i + 1) < L from by omega) (by omega) ?_
        refine Go.cVp mMo_assign [vI (xs ((i + 1)))] dLw_law_260 vwLw_84 (Nat.le_of_ble_eq_true rfl) rfl rfl (Nat.le_of_ble_eq_true rfl) rfl (Nat.le_of_ble_eq_true rfl) (w_Mo_assign (d := d + 1) R2 _) (fun v22 h23 q24 => ?_)
        refine Go.istore dLw_law_263 (by decide) rfl ?_
        refine Go.goto (tgt := 754) dLw_law_265 (by decide) ?_
        have hI2 : LI h23 := q21.li q24 rfl rfl
        refine Go.iinc (v := nI (i + 5)) dLw_law_754 (by decide) rfl (nI_inc5 _) rfl ?_
        refine Go.goto (tgt := 23) dLw_law_757 (by decide) ?_
        exact Go.weak (Go.wide (ih (i + 5) _ _ _ hI2 (by omega) (by omega)) (Nat.le_refl _) (by omega) (by omega))
      · rw [qs]
        refine Go.tabIn (off := 229) (tgt := 268) dLw_law_39 (by decide) (by decide) rfl (by decide) ?_
        refine Go.aload_n dLw_law_268 rfl (Nat.ne_of_beq_eq_false rfl) ?_
        refine Go.cVr mBk_exact [] dLw_law_269 vwLw_85 (Nat.le_of_ble_eq_true rfl) rfl rfl (Nat.le_of_ble_eq_true rfl) rfl (Nat.le_of_ble_eq_true rfl) (w_Bk_exact (d := d + 1) K ) (fun v25 _ => ?_)
        have R2 := R
        refine Go.pop trivial dLw_law_272 ?_
        refine Go.aload_n dLw_law_273 rfl (Nat.ne_of_beq_eq_false rfl) ?_
        refine Go.cVp mMo_exact [] dLw_law_274 vwLw_89 (Nat.le_of_ble_eq_true rfl) rfl rfl (Nat.le_of_ble_eq_true rfl) rfl (Nat.le_of_ble_eq_true rfl) (w_Mo_exact (d := d + 1) R2 ) (fun v26 h27 q28 => ?_)
        refine Go.pop trivial dLw_law_277 ?_
        refine Go.goto (tgt := 754) dLw_law_278 (by decide) ?_
        have hI2 : LI h27 := ((KB.wb K).lp R l).li q28 rfl rfl
        refine Go.iinc (v := nI (i + 5)) dLw_law_754 (by decide) rfl (nI_inc5 _) rfl ?_
        refine Go.goto (tgt := 23) dLw_law_757 (by decide) ?_
        exact Go.weak (Go.wide (ih (i + 5) _ _ _ hI2 (by omega) (by omega)) (Nat.le_refl _) (by omega) (by omega))
      · rw [qs]
        refine Go.tabIn (off := 242) (tgt := 281) dLw_law_39 (by decide) (by decide) rfl (by decide) ?_
        refine Go.aload_n dLw_law_281 rfl (Nat.ne_of_beq_eq_false rfl) ?_
        refine Go.cVr mBk_moved [] dLw_law_282 vwLw_90 (Nat.le_of_ble_eq_true rfl) rfl rfl (Nat.le_of_ble_eq_true rfl) rfl (Nat.le_of_ble_eq_true rfl) (w_Bk_moved (d := d + 1) K ) (fun v29 _ => ?_)
        have R2 := R
        refine Go.pop trivial dLw_law_285 ?_
        refine Go.aload_n dLw_law_286 rfl (Nat.ne_of_beq_eq_false rfl) ?_
        refine Go.cVp mMo_moved [] dLw_law_287 vwLw_94 (Nat.le_of_ble_eq_true rfl) rfl rfl (Nat.le_of_ble_eq_true rfl) rfl (Nat.le_of_ble_eq_true rfl) (w_Mo_moved (d := d + 1) R2 ) (fun v30 h31 q32 => ?_)
        refine Go.pop trivial dLw_law_290 ?_
        refine Go.goto (tgt := 754) dLw_law_291 (by decide) ?_
        have hI2 : LI h31 := ((KB.wb K).lp R l).li q32 rfl rfl
        refine Go.iinc (v := nI (i + 5)) dLw_law_754 (by decide) rfl (nI_inc5 _) rfl ?_
        refine Go.goto (tgt := 23) dLw_law_757 (by decide) ?_
        exact Go.weak (Go.wide (ih (i + 5) _ _ _ hI2 (by omega) (by omega)) (Nat.le_refl _) (by omega) (by omega))
      · rw [qs]
        refine Go.tabIn (off := 255) (tgt := 294) dLw_law_39 (by decide) (by decide) rfl (by decide) ?_
        refine Go.aload_n dLw_law_294 rfl (Nat.ne_of_beq_eq_false rfl) ?_
        refine Go.cVr mBk_bound [] dLw_law_295 vwLw_95 (Nat.le_of_ble_eq_true rfl) rfl rfl (Nat.le_of_ble_eq_true rfl) rfl (Nat.le_of_ble_eq_true rfl) (w_Bk_bound (d := d + 1) K ) (fun v33 _ => ?_)
        have R2 := R
        refine Go.pop trivial dLw_law_298 ?_
        refine Go.aload_n dLw_law_299 rfl (Nat.ne_of_beq_eq_false rfl) ?_
        refine Go.cVp mMo_bound [] dLw_law_300 vwLw_98 (Nat.le_of_ble_eq_true rfl) rfl rfl (Nat.le_of_ble_eq_true rfl) rfl (Nat.le_of_ble_eq_true rfl) (w_Mo_bound (d := d + 1) R2 ) (fun v34 h35 q36 => ?_)
        refine Go.pop trivial dLw_law_303 ?_
        refine Go.goto (tgt := 754) dLw_law_304 (by decide) ?_
        have hI2 : LI h35 := ((KB.wb K).lp R l).li q36 rfl rfl
        refine Go.iinc (v := nI (i + 5)) dLw_law_754 (by decide) rfl (nI_inc5 _) rfl ?_
        refine Go.goto (tgt := 23) dLw_law_757 (by decide) ?_
        exact Go.weak (Go.wide (ih (i + 5) _ _ _ hI2 (by omega) (by omega)) (Nat.le_refl _) (by omega) (by omega))
      · rw [qs]
        refine Go.tabIn (off := 268) (tgt := 307) dLw_law_39 (by decide) (by decide) rfl (by decide) ?_
        refine Go.aload_n dLw_law_307 rfl (Nat.ne_of_beq_eq_false rfl) ?_
        refine Go.aload_n dLw_law_308 rfl (Nat.ne_of_beq_eq_false rfl) ?_
        refine Go.iload dLw_law_309 rfl ?_
        refine Go.iconst (v := nI 1) dLw_law_311 (by decide) ?_
        refine Go.iadd dLw_law_312 ?_
        refine Go.cvt (v' := nI (i + 1)) (nI_add _ _) ?_
        refine Go.sald (jn := (i + 1)) dLw_law_313 rfl (show (i + 1) < L from by omega) (by omega) ?_
        refine Go.cSb mLw_call [vO 4 (0), vI (xs ((i + 1)))] dLw_law_314 vwLw_99 rfl rfl (Nat.le_of_ble_eq_true rfl) rfl (Nat.le_of_ble_eq_true rfl) (g_Lw_call (d := d) K R l _) (fun v37 h38 q39 => ?_)
        obtain ⟨G2, K2, R2, l2, e3, e4⟩ := id q39
        refine Go.istore dLw_law_317 (by decide) rfl ?_
        refine Go.aload_n dLw_law_319 rfl (Nat.ne_of_beq_eq_false rfl) ?_
        refine Go.aload_n dLw_law_320 rfl (Nat.ne_of_beq_eq_false rfl) ?_
        refine Go.iload dLw_law_321 rfl ?_
        refine Go.iconst (v := nI 1) dLw_law_323 (by decide) ?_
        refine Go.iadd dLw_law_324 ?_
        refine Go.cvt (v' := nI (i + 1)) (nI_add _ _) ?_
        refine Go.sald (jn := (i + 1)) dLw_law_325 rfl (show (i + 1) < L from by omega) (by omega) ?_
        refine Go.cVn mMo_call [vI (xs ((i + 1)))] dLw_law_326 vwLw_102 (Nat.le_of_ble_eq_true rfl) rfl rfl (Nat.le_of_ble_eq_true rfl) rfl (Nat.le_of_ble_eq_true rfl) (w_Mo_call (d := d + 1) R2 _) (fun h41 q42 => ?_)
        refine Go.goto (tgt := 754) dLw_law_329 (by decide) ?_
        have hI2 : LI h41 := q39.li q42 rfl rfl
        refine Go.iinc (v := nI (i + 5)) dLw_law_754 (by decide) rfl (nI_inc5 _) rfl ?_
        refine Go.goto (tgt := 23) dLw_law_757 (by decide) ?_
        exact Go.weak (Go.wide (ih (i + 5) _ _ _ hI2 (by omega) (by omega)) (Nat.le_refl _) (by omega) (by omega))
      · rw [qs]
        refine Go.tabIn (off := 293) (tgt := 332) dLw_law_39 (by decide) (by decide) rfl (by decide) ?_
        refine Go.aload_n dLw_law_332 rfl (Nat.ne_of_beq_eq_false rfl) ?_
        refine Go.aload_n dLw_law_333 rfl (Nat.ne_of_beq_eq_false rfl) ?_
        refine Go.iload dLw_law_334 rfl ?_
        refine Go.iconst (v := nI 1) dLw_law_336 (by decide) ?_
        refine Go.iadd dLw_law_337 ?_
        refine Go.cvt (v' := nI (i + 1)) (nI_add _ _) ?_
        refine Go.sald (jn := (i + 1)) dLw_law_338 rfl (show (i + 1) < L from by omega) (by omega) ?_
        refine Go.aload_n dLw_law_339 rfl (Nat.ne_of_beq_eq_false rfl) ?_
        refine Go.iload dLw_law_340 rfl ?_
        refine Go.iconst (v := nI 2) dLw_law_342 (by decide) ?_
        refine Go.iadd dLw_law_343 ?_
        refine Go.cvt (v' := nI (i + 2)) (nI_add _ _) ?_
        refine Go.sald (jn := (i + 2)) dLw_law_344 rfl (show (i + 2) < L from by omega) (by omega) ?_
        refine Go.aload_n dLw_law_345 rfl (Nat.ne_of_beq_eq_false rfl) ?_
        refine Go.cSb mLw_seal [vO 4 (0), vI (xs ((i + 1))), vI (xs ((i + 2))), vO 101 0] dLw_law_346 vwLw_103 rfl rfl (Nat.le_of_ble_eq_true rfl) rfl (Nat.le_of_ble_eq_true rfl) (g_Lw_seal (d := d) K R l _ _) (fun v43 h44 q45 => ?_)
        obtain ⟨G2, K2, R2, l2, e3, e4⟩ := id q45
        refine Go.istore dLw_law_349 (by decide) rfl ?_
        refine Go.aload_n dLw_law_351 rfl (Nat.ne_of_beq_eq_false rfl) ?_
        refine Go.aload_n dLw_law_352 rfl (Nat.ne_of_beq_eq_false rfl) ?_
        refine Go.iload dLw_law_353 rfl ?_
        refine Go.iconst (v := nI 1) dLw_law_355 (by decide) ?_
        refine Go.iadd dLw_law_356 ?_
        refine Go.cvt (v' := nI (i + 1)) (nI_add _ _) ?_
        refine Go.sald (jn := (i + 1)) dLw_law_357 rfl (show (i + 1) < L from by omega) (by omega) ?_
        refine Go.aload_n dLw_law_358 rfl (Nat.ne_of_beq_eq_false rfl) ?_
        refine Go.iload dLw_law_359 rfl ?_
        refine Go.iconst (v := nI 2) dLw_law_361 (by decide) ?_
        refine Go.iadd dLw_law_362 ?_
        refine Go.cvt (v' := nI (i + 2)) (nI_add _ _) ?_
        refine Go.sald (jn := (i + 2)) dLw_law_363 rfl (show (i + 2) < L from by omega) (by omega) ?_
        refine Go.cVp mMo_seal [vI (xs ((i + 1))), vI (xs ((i + 2)))] dLw_law_364 vwLw_106 (Nat.le_of_ble_eq_true rfl) rfl rfl (Nat.le_of_ble_eq_true rfl) rfl (Nat.le_of_ble_eq_true rfl) (w_Mo_seal (d := d + 1) R2 _ _) (fun v46 h47 q48 => ?_)
        refine Go.istore dLw_law_367 (by decide) rfl ?_
        refine Go.goto (tgt := 754) dLw_law_369 (by decide) ?_
        have hI2 : LI h47 := q45.li q48 rfl rfl
        refine Go.iinc (v := nI (i + 5)) dLw_law_754 (by decide) rfl (nI_inc5 _) rfl ?_
        refine Go.goto (tgt := 23) dLw_law_757 (by decide) ?_
        exact Go.weak (Go.wide (ih (i + 5) _ _ _ hI2 (by omega) (by omega)) (Nat.le_refl _) (by omega) (by omega))
      · rw [qs]
        refine Go.tabIn (off := 333) (tgt := 372) dLw_law_39 (by decide) (by decide) rfl (by decide) ?_
        refine Go.aload_n dLw_law_372 rfl (Nat.ne_of_beq_eq_false rfl) ?_
        refine Go.aload_n dLw_law_373 rfl (Nat.ne_of_beq_eq_false rfl) ?_
        refine Go.iload dLw_law_374 rfl ?_
        refine Go.iconst (v := nI 1) dLw_law_376 (by decide) ?_
        refine Go.iadd dLw_law_377 ?_
        refine Go.cvt (v' := nI (i + 1)) (nI_add _ _) ?_
        refine Go.sald (jn := (i + 1)) dLw_law_378 rfl (show (i + 1) < L from by omega) (by omega) ?_
        refine Go.aload_n dLw_law_379 rfl (Nat.ne_of_beq_eq_false rfl) ?_
        refine Go.iload dLw_law_380 rfl ?_
        refine Go.iconst (v := nI 2) dLw_law_382 (by decide) ?_
        refine Go.iadd dLw_law_383 ?_
        refine Go.cvt (v' := nI (i + 2)) (nI_add _ _) ?_
        refine Go.sald (jn := (i + 2)) dLw_law_384 rfl (show (i + 2) < L from by omega) (by omega) ?_
        refine Go.aload_n dLw_law_385 rfl (Nat.ne_of_beq_eq_false rfl) ?_
        refine Go.iload dLw_law_386 rfl ?_
        refine Go.iconst (v := nI 3) dLw_law_388 (by decide) ?_
        refine Go.iadd dLw_law_389 ?_
        refine Go.cvt (v' := nI (i + 3)) (nI_add _ _) ?_
        refine Go.sald (jn := (i + 3)) dLw_law_390 rfl (show (i + 3) < L from by omega) (by omega) ?_
        refine Go.aload_n dLw_law_391 rfl (Nat.ne_of_beq_eq_false rfl) ?_
        refine Go.cSb mLw_load [vO 4 (0), vI (xs ((i + 1))), vI (xs ((i + 2))), vI (xs ((i + 3))), vO 101 0] dLw_law_392 vwLw_107 rfl rfl (Nat.le_of_ble_eq_true rfl) rfl (Nat.le_of_ble_eq_true rfl) (g_Lw_load (d := d) K R l _ _ _) (fun v49 h50 q51 => ?_)
        obtain ⟨G2, K2, R2, l2, e3, e4⟩ := id q51
        refine Go.istore dLw_law_395 (by decide) rfl ?_
        refine Go.aload_n dLw_law_397 rfl (Nat.ne_of_beq_eq_false rfl) ?_
        refine Go.aload_n dLw_law_398 rfl (Nat.ne_of_beq_eq_false rfl) ?_
        refine Go.iload dLw_law_399 rfl ?_
        refine Go.iconst (v := nI 1) dLw_law_401 (by decide) ?_
        refine Go.iadd dLw_law_402 ?_
        refine Go.cvt (v' := nI (i + 1)) (nI_add _ _) ?_
        refine Go.sald (jn := (i + 1)) dLw_law_403 rfl (show (i + 1) < L from by omega) (by omega) ?_
        refine Go.aload_n dLw_law_404 rfl (Nat.ne_of_beq_eq_false rfl) ?_
        refine Go.iload dLw_law_405 rfl ?_
        refine Go.iconst (v := nI 2) dLw_law_407 (by decide) ?_
        refine Go.iadd dLw_law_408 ?_
        refine Go.cvt (v' := nI (i + 2)) (nI_add _ _) ?_
        refine Go.sald (jn := (i + 2)) dLw_law_409 rfl (show (i + 2) < L from by omega) (by omega) ?_
        refine Go.aload_n dLw_law_410 rfl (Nat.ne_of_beq_eq_false rfl) ?_
        refine Go.iload dLw_law_411 rfl ?_
        refine Go.iconst (v := nI 3) dLw_law_413 (by decide) ?_
        refine Go.iadd dLw_law_414 ?_
        refine Go.cvt (v' := nI (i + 3)) (nI_add _ _) ?_
        refine Go.sald (jn := (i + 3)) dLw_law_415 rfl (show (i + 3) < L from by omega) (by omega) ?_
        refine Go.cVp mMo_load [vI (xs ((i + 1))), vI (xs ((i + 2))), vI (xs ((i + 3)))] dLw_law_416 vwLw_109 (Nat.le_of_ble_eq_true rfl) rfl rfl (Nat.le_of_ble_eq_true rfl) rfl (Nat.le_of_ble_eq_true rfl) (w_Mo_load (d := d + 1) R2 _ _ _) (fun v52 h53 q54 => ?_)
        refine Go.istore dLw_law_419 (by decide) rfl ?_
        refine Go.goto (tgt := 754) dLw_law_421 (by decide) ?_
        have hI2 : LI h53 := q51.li q54 rfl rfl
        refine Go.iinc (v := nI (i + 5)) dLw_law_754 (by decide) rfl (nI_inc5 _) rfl ?_
        refine Go.goto (tgt := 23) dLw_law_757 (by decide) ?_
        exact Go.weak (Go.wide (ih (i + 5) _ _ _ hI2 (by omega) (by omega)) (Nat.le_refl _) (by omega) (by omega))
      · rw [qs]
        refine Go.tabIn (off := 385) (tgt := 424) dLw_law_39 (by decide) (by decide) rfl (by decide) ?_
        refine Go.aload_n dLw_law_424 rfl (Nat.ne_of_beq_eq_false rfl) ?_
        refine Go.aload_n dLw_law_425 rfl (Nat.ne_of_beq_eq_false rfl) ?_
        refine Go.iload dLw_law_426 rfl ?_
        refine Go.iconst (v := nI 1) dLw_law_428 (by decide) ?_
        refine Go.iadd dLw_law_429 ?_
        refine Go.cvt (v' := nI (i + 1)) (nI_add _ _) ?_
        refine Go.sald (jn := (i + 1)) dLw_law_430 rfl (show (i + 1) < L from by omega) (by omega) ?_
        refine Go.aload_n dLw_law_431 rfl (Nat.ne_of_beq_eq_false rfl) ?_
        refine Go.cSb mLw_depart [vO 4 (0), vI (xs ((i + 1))), vO 101 0] dLw_law_432 vwLw_110 rfl rfl (Nat.le_of_ble_eq_true rfl) rfl (Nat.le_of_ble_eq_true rfl) (g_Lw_depart (d := d) K R l _) (fun v55 h56 q57 => ?_)
        obtain ⟨G2, K2, R2, l2, e3, e4⟩ := id q57
        refine Go.istore dLw_law_435 (by decide) rfl ?_
        refine Go.aload_n dLw_law_437 rfl (Nat.ne_of_beq_eq_false rfl) ?_
        refine Go.aload_n dLw_law_438 rfl (Nat.ne_of_beq_eq_false rfl) ?_
        refine Go.iload dLw_law_439 rfl ?_
        refine Go.iconst (v := nI 1) dLw_law_441 (by decide) ?_
        refine Go.iadd dLw_law_442 ?_
        refine Go.cvt (v' := nI (i + 1)) (nI_add _ _) ?_
        refine Go.sald (jn := (i + 1)) dLw_law_443 rfl (show (i + 1) < L from by omega) (by omega) ?_
        refine Go.cVp mMo_depart [vI (xs ((i + 1)))] dLw_law_444 vwLw_112 (Nat.le_of_ble_eq_true rfl) rfl rfl (Nat.le_of_ble_eq_true rfl) rfl (Nat.le_of_ble_eq_true rfl) (w_Mo_depart (d := d + 1) R2 _) (fun v58 h59 q60 => ?_)
        refine Go.istore dLw_law_447 (by decide) rfl ?_
        refine Go.goto (tgt := 754) dLw_law_449 (by decide) ?_
        have hI2 : LI h59 := q57.li q60 rfl rfl
        refine Go.iinc (v := nI (i + 5)) dLw_law_754 (by decide) rfl (nI_inc5 _) rfl ?_
        refine Go.goto (tgt := 23) dLw_law_757 (by decide) ?_
        exact Go.weak (Go.wide (ih (i + 5) _ _ _ hI2 (by omega) (by omega)) (Nat.le_refl _) (by omega) (by omega))
      · rw [qs]
        refine Go.tabIn (off := 413) (tgt := 452) dLw_law_39 (by decide) (by decide) rfl (by decide) ?_
        refine Go.aload_n dLw_law_452 rfl (Nat.ne_of_beq_eq_false rfl) ?_
        refine Go.aload_n dLw_law_453 rfl (Nat.ne_of_beq_eq_false rfl) ?_
        refine Go.iload dLw_law_454 rfl ?_
        refine Go.iconst (v := nI 1) dLw_law_456 (by decide) ?_
        refine Go.iadd dLw_law_457 ?_
        refine Go.cvt (v' := nI (i + 1)) (nI_add _ _) ?_
        refine Go.sald (jn := (i + 1)) dLw_law_458 rfl (show (i + 1) < L from by omega) (by omega) ?_
        refine Go.aload_n dLw_law_459 rfl (Nat.ne_of_beq_eq_false rfl) ?_
        refine Go.iload dLw_law_460 rfl ?_
        refine Go.iconst (v := nI 2) dLw_law_462 (by decide) ?_
        refine Go.iadd dLw_law_463 ?_
        refine Go.cvt (v' := nI (i + 2)) (nI_add _ _) ?_
        refine Go.sald (jn := (i + 2)) dLw_law_464 rfl (show (i + 2) < L from by omega) (by omega) ?_
        refine Go.aload_n dLw_law_465 rfl (Nat.ne_of_beq_eq_false rfl) ?_
        refine Go.cSb mLw_late [vO 4 (0), vI (xs ((i + 1))), vI (xs ((i + 2))), vO 101 0] dLw_law_466 vwLw_113 rfl rfl (Nat.le_of_ble_eq_true rfl) rfl (Nat.le_of_ble_eq_true rfl) (g_Lw_late (d := d) K R l _ _) (fun v61 h62 q63 => ?_)
        obtain ⟨G2, K2, R2, l2, e3, e4⟩ := id q63
        refine Go.istore dLw_law_469 (by decide) rfl ?_
        refine Go.aload_n dLw_law_471 rfl (Nat.ne_of_beq_eq_false rfl) ?_
        refine Go.aload_n dLw_law_472 rfl (Nat.ne_of_beq_eq_false rfl) ?_
        refine Go.iload dLw_law_473 rfl ?_
        refine Go.iconst (v := nI 1) dLw_law_475 (by decide) ?_
        refine Go.iadd dLw_law_476 ?_
        refine Go.cvt (v' := nI (i + 1)) (nI_add _ _) ?_
        refine Go.sald (jn := (i + 1)) dLw_law_477 rfl (show (i + 1) < L from by omega) (by omega) ?_
        refine Go.aload_n dLw_law_478 rfl (Nat.ne_of_beq_eq_false rfl) ?_
        refine Go.iload dLw_law_479 rfl ?_
        refine Go.iconst (v := nI 2) dLw_law_481 (by decide) ?_
        refine Go.iadd dLw_law_482 ?_
        refine Go.cvt (v' := nI (i + 2)) (nI_add _ _) ?_
        refine Go.sald (jn := (i + 2)) dLw_law_483 rfl (show (i + 2) < L from by omega) (by omega) ?_
        refine Go.cVp mMo_late [vI (xs ((i + 1))), vI (xs ((i + 2)))] dLw_law_484 vwLw_115 (Nat.le_of_ble_eq_true rfl) rfl rfl (Nat.le_of_ble_eq_true rfl) rfl (Nat.le_of_ble_eq_true rfl) (w_Mo_late (d := d + 1) R2 _ _) (fun v64 h65 q66 => ?_)
        refine Go.istore dLw_law_487 (by decide) rfl ?_
        refine Go.goto (tgt := 754) dLw_law_489 (by decide) ?_
        have hI2 : LI h65 := q63.li q66 rfl rfl
        refine Go.iinc (v := nI (i + 5)) dLw_law_754 (by decide) rfl (nI_inc5 _) rfl ?_
        refine Go.goto (tgt := 23) dLw_law_757 (by decide) ?_
        exact Go.weak (Go.wide (ih (i + 5) _ _ _ hI2 (by omega) (by omega)) (Nat.le_refl _) (by omega) (by omega))
      · rw [qs]
        refine Go.tabIn (off := 453) (tgt := 492) dLw_law_39 (by decide) (by decide) rfl (by decide) ?_
        refine Go.aload_n dLw_law_492 rfl (Nat.ne_of_beq_eq_false rfl) ?_
        refine Go.aload_n dLw_law_493 rfl (Nat.ne_of_beq_eq_false rfl) ?_
        refine Go.iload dLw_law_494 rfl ?_
        refine Go.iconst (v := nI 1) dLw_law_496 (by decide) ?_
        refine Go.iadd dLw_law_497 ?_
        refine Go.cvt (v' := nI (i + 1)) (nI_add _ _) ?_
        refine Go.sald (jn := (i + 1)) dLw_law_498 rfl (show (i + 1) < L from by omega) (by omega) ?_
        refine Go.cSb mLw_cancel [vO 4 (0), vI (xs ((i + 1)))] dLw_law_499 vwLw_116 rfl rfl (Nat.le_of_ble_eq_true rfl) rfl (Nat.le_of_ble_eq_true rfl) (g_Lw_cancel (d := d) K R l _) (fun v67 h68 q69 => ?_)
        obtain ⟨G2, K2, R2, l2, e3, e4⟩ := id q69
        refine Go.istore dLw_law_502 (by decide) rfl ?_
        refine Go.aload_n dLw_law_504 rfl (Nat.ne_of_beq_eq_false rfl) ?_
        refine Go.aload_n dLw_law_505 rfl (Nat.ne_of_beq_eq_false rfl) ?_
        refine Go.iload dLw_law_506 rfl ?_
        refine Go.iconst (v := nI 1) dLw_law_508 (by decide) ?_
        refine Go.iadd dLw_law_509 ?_
        refine Go.cvt (v' := nI (i + 1)) (nI_add _ _) ?_
        refine Go.sald (jn := (i + 1)) dLw_law_510 rfl (show (i + 1) < L from by omega) (by omega) ?_
        refine Go.cVn mMo_cancel [vI (xs ((i + 1)))] dLw_law_511 vwLw_118 (Nat.le_of_ble_eq_true rfl) rfl rfl (Nat.le_of_ble_eq_true rfl) rfl (Nat.le_of_ble_eq_true rfl) (w_Mo_cancel (d := d + 1) R2 _) (fun h71 q72 => ?_)
        refine Go.goto (tgt := 754) dLw_law_514 (by decide) ?_
        have hI2 : LI h71 := q69.li q72 rfl rfl
        refine Go.iinc (v := nI (i + 5)) dLw_law_754 (by decide) rfl (nI_inc5 _) rfl ?_
        refine Go.goto (tgt := 23) dLw_law_757 (by decide) ?_
        exact Go.weak (Go.wide (ih (i + 5) _ _ _ hI2 (by omega) (by omega)) (Nat.le_refl _) (by omega) (by omega))
      · rw [qs]
        refine Go.tabIn (off := 478) (tgt := 517) dLw_law_39 (by decide) (by decide) rfl (by decide) ?_
        refine Go.aload_n dLw_law_517 rfl (Nat.ne_of_beq_eq_false rfl) ?_
        refine Go.aload_n dLw_law_518 rfl (Nat.ne_of_beq_eq_false rfl) ?_
        refine Go.iload dLw_law_519 rfl ?_
        refine Go.iconst (v := nI 1) dLw_law_521 (by decide) ?_
        refine Go.iadd dLw_law_522 ?_
        refine Go.cvt (v' := nI (i + 1)) (nI_add _ _) ?_
        refine Go.sald (jn := (i + 1)) dLw_law_523 rfl (show (i + 1) < L from by omega) (by omega) ?_
        refine Go.aload_n dLw_law_524 rfl (Nat.ne_of_beq_eq_false rfl) ?_
        refine Go.iload dLw_law_525 rfl ?_
        refine Go.iconst (v := nI 2) dLw_law_527 (by decide) ?_
        refine Go.iadd dLw_law_528 ?_
        refine Go.cvt (v' := nI (i + 2)) (nI_add _ _) ?_
        refine Go.sald (jn := (i + 2)) dLw_law_529 rfl (show (i + 2) < L from by omega) (by omega) ?_
        refine Go.if_eq (tgt := 537) dLw_law_530 (by decide) (fun q2 => ?_) (fun q2 => ?_)
        · refine Go.iconst (v := nI 0) dLw_law_537 (by decide) ?_
          refine Go.aload_n dLw_law_538 rfl (Nat.ne_of_beq_eq_false rfl) ?_
          refine Go.cSb mLw_out [vO 4 (0), vI (xs ((i + 1))), vI (nI (0)), vO 101 0] dLw_law_539 vwLw_119 rfl rfl (Nat.le_of_ble_eq_true rfl) rfl (Nat.le_of_ble_eq_true rfl) (g_Lw_out (d := d) K R l _ _ (Or.inl rfl)) (fun v73 h74 q75 => ?_)
          obtain ⟨G2, K2, R2, l2, e3, e4⟩ := id q75
          refine Go.istore dLw_law_542 (by decide) rfl ?_
          refine Go.aload_n dLw_law_544 rfl (Nat.ne_of_beq_eq_false rfl) ?_
          refine Go.aload_n dLw_law_545 rfl (Nat.ne_of_beq_eq_false rfl) ?_
          refine Go.iload dLw_law_546 rfl ?_
          refine Go.iconst (v := nI 1) dLw_law_548 (by decide) ?_
          refine Go.iadd dLw_law_549 ?_
          refine Go.cvt (v' := nI (i + 1)) (nI_add _ _) ?_
          refine Go.sald (jn := (i + 1)) dLw_law_550 rfl (show (i + 1) < L from by omega) (by omega) ?_
          refine Go.aload_n dLw_law_551 rfl (Nat.ne_of_beq_eq_false rfl) ?_
          refine Go.iload dLw_law_552 rfl ?_
          refine Go.iconst (v := nI 2) dLw_law_554 (by decide) ?_
          refine Go.iadd dLw_law_555 ?_
          refine Go.cvt (v' := nI (i + 2)) (nI_add _ _) ?_
          refine Go.sald (jn := (i + 2)) dLw_law_556 rfl (show (i + 2) < L from by omega) (by omega) ?_
          refine Go.if_eq (tgt := 564) dLw_law_557 (by decide) (fun q3 => ?_) (fun q3 => ?_)
          · refine Go.iconst (v := nI 0) dLw_law_564 (by decide) ?_
            refine Go.cVp mMo_out [vI (xs ((i + 1))), vI (nI (0))] dLw_law_565 vwLw_122 (Nat.le_of_ble_eq_true rfl) rfl rfl (Nat.le_of_ble_eq_true rfl) rfl (Nat.le_of_ble_eq_true rfl) (w_Mo_out (d := d + 1) R2 _ _ (Or.inl rfl)) (fun v76 h77 q78 => ?_)
            refine Go.istore dLw_law_568 (by decide) rfl ?_
            refine Go.goto (tgt := 754) dLw_law_570 (by decide) ?_
            have hI2 : LI h77 := q75.li q78 rfl rfl
            refine Go.iinc (v := nI (i + 5)) dLw_law_754 (by decide) rfl (nI_inc5 _) rfl ?_
            refine Go.goto (tgt := 23) dLw_law_757 (by decide) ?_
            exact Go.weak (Go.wide (ih (i + 5) _ _ _ hI2 (by omega) (by omega)) (Nat.le_refl _) (by omega) (by omega))
          · refine Go.iconst (v := nI 1) dLw_law_560 (by decide) ?_
            refine Go.goto (tgt := 565) dLw_law_561 (by decide) ?_
            refine Go.cVp mMo_out [vI (xs ((i + 1))), vI (nI (1))] dLw_law_565 vwLw_122 (Nat.le_of_ble_eq_true rfl) rfl rfl (Nat.le_of_ble_eq_true rfl) rfl (Nat.le_of_ble_eq_true rfl) (w_Mo_out (d := d + 1) R2 _ _ (Or.inr rfl)) (fun v79 h80 q81 => ?_)
            refine Go.istore dLw_law_568 (by decide) rfl ?_
            refine Go.goto (tgt := 754) dLw_law_570 (by decide) ?_
            have hI2 : LI h80 := q75.li q81 rfl rfl
            refine Go.iinc (v := nI (i + 5)) dLw_law_754 (by decide) rfl (nI_inc5 _) rfl ?_
            refine Go.goto (tgt := 23) dLw_law_757 (by decide) ?_
            exact Go.weak (Go.wide (ih (i + 5) _ _ _ hI2 (by omega) (by omega)) (Nat.le_refl _) (by omega) (by omega))
        · refine Go.iconst (v := nI 1) dLw_law_533 (by decide) ?_
          refine Go.goto (tgt := 538) dLw_law_534 (by decide) ?_
          refine Go.aload_n dLw_law_538 rfl (Nat.ne_of_beq_eq_false rfl) ?_
          refine Go.cSb mLw_out [vO 4 (0), vI (xs ((i + 1))), vI (nI (1)), vO 101 0] dLw_law_539 vwLw_119 rfl rfl (Nat.le_of_ble_eq_true rfl) rfl (Nat.le_of_ble_eq_true rfl) (g_Lw_out (d := d) K R l _ _ (Or.inr rfl)) (fun v82 h83 q84 => ?_)
          obtain ⟨G2, K2, R2, l2, e3, e4⟩ := id q84
          refine Go.istore dLw_law_542 (by decide) rfl ?_
          refine Go.aload_n dLw_law_544 rfl (Nat.ne_of_beq_eq_false rfl) ?_
          refine Go.aload_n dLw_law_545 rfl (Nat.ne_of_beq_eq_false rfl) ?_
          refine Go.iload dLw_law_546 rfl ?_
          refine Go.iconst (v := nI 1) dLw_law_548 (by decide) ?_
          refine Go.iadd dLw_law_549 ?_
          refine Go.cvt (v' := nI (i + 1)) (nI_add _ _) ?_
          refine Go.sald (jn := (i + 1)) dLw_law_550 rfl (show (i + 1) < L from by omega) (by omega) ?_
          refine Go.aload_n dLw_law_551 rfl (Nat.ne_of_beq_eq_false rfl) ?_
          refine Go.iload dLw_law_552 rfl ?_
          refine Go.iconst (v := nI 2) dLw_law_554 (by decide) ?_
          refine Go.iadd dLw_law_555 ?_
          refine Go.cvt (v' := nI (i + 2)) (nI_add _ _) ?_
          refine Go.sald (jn := (i + 2)) dLw_law_556 rfl (show (i + 2) < L from by omega) (by omega) ?_
          refine Go.if_eq (tgt := 564) dLw_law_557 (by decide) (fun q4 => ?_) (fun q4 => ?_)
          · refine Go.iconst (v := nI 0) dLw_law_564 (by decide) ?_
            refine Go.cVp mMo_out [vI (xs ((i + 1))), vI (nI (0))] dLw_law_565 vwLw_122 (Nat.le_of_ble_eq_true rfl) rfl rfl (Nat.le_of_ble_eq_true rfl) rfl (Nat.le_of_ble_eq_true rfl) (w_Mo_out (d := d + 1) R2 _ _ (Or.inl rfl)) (fun v85 h86 q87 => ?_)
            refine Go.istore dLw_law_568 (by decide) rfl ?_
            refine Go.goto (tgt := 754) dLw_law_570 (by decide) ?_
            have hI2 : LI h86 := q84.li q87 rfl rfl
            refine Go.iinc (v := nI (i + 5)) dLw_law_754 (by decide) rfl (nI_inc5 _) rfl ?_
            refine Go.goto (tgt := 23) dLw_law_757 (by decide) ?_
            exact Go.weak (Go.wide (ih (i + 5) _ _ _ hI2 (by omega) (by omega)) (Nat.le_refl _) (by omega) (by omega))
          · refine Go.iconst (v := nI 1) dLw_law_560 (by decide) ?_
            refine Go.goto (tgt := 565) dLw_law_561 (by decide) ?_
            refine Go.cVp mMo_out [vI (xs ((i + 1))), vI (nI (1))] dLw_law_565 vwLw_122 (Nat.le_of_ble_eq_true rfl) rfl rfl (Nat.le_of_ble_eq_true rfl) rfl (Nat.le_of_ble_eq_true rfl) (w_Mo_out (d := d + 1) R2 _ _ (Or.inr rfl)) (fun v88 h89 q90 => ?_)
            refine Go.istore dLw_law_568 (by decide) rfl ?_
            refine Go.goto (tgt := 754) dLw_law_570 (by decide) ?_
            have hI2 : LI h89 := q84.li q90 rfl rfl
            refine Go.iinc (v := nI (i + 5)) dLw_law_754 (by decide) rfl (nI_inc5 _) rfl ?_
            refine Go.goto (tgt := 23) dLw_law_757 (by decide) ?_
            exact Go.weak (Go.wide (ih (i + 5) _ _ _ hI2 (by omega) (by omega)) (Nat.le_refl _) (by omega) (by omega))
      · rw [qs]
        refine Go.tabIn (off := 534) (tgt := 573) dLw_law_39 (by decide) (by decide) rfl (by decide) ?_
        refine Go.aload_n dLw_law_573 rfl (Nat.ne_of_beq_eq_false rfl) ?_
        refine Go.aload_n dLw_law_574 rfl (Nat.ne_of_beq_eq_false rfl) ?_
        refine Go.iload dLw_law_575 rfl ?_
        refine Go.iconst (v := nI 1) dLw_law_577 (by decide) ?_
        refine Go.iadd dLw_law_578 ?_
        refine Go.cvt (v' := nI (i + 1)) (nI_add _ _) ?_
        refine Go.sald (jn := (i + 1)) dLw_law_579 rfl (show (i + 1) < L from by omega) (by omega) ?_
        refine Go.cSb mLw_pass [vO 4 (0), vI (xs ((i + 1)))] dLw_law_580 vwLw_123 rfl rfl (Nat.le_of_ble_eq_true rfl) rfl (Nat.le_of_ble_eq_true rfl) (g_Lw_pass (d := d) K R l _) (fun v91 h92 q93 => ?_)
        rcases q93 with ⟨ok, rfl, K2, R2, l2⟩ | ⟨ok, rfl, rfl⟩
        · refine Go.istore dLw_law_583 (by decide) rfl ?_
          refine Go.aload_n dLw_law_585 rfl (Nat.ne_of_beq_eq_false rfl) ?_
          refine Go.aload_n dLw_law_586 rfl (Nat.ne_of_beq_eq_false rfl) ?_
          refine Go.iload dLw_law_587 rfl ?_
          refine Go.iconst (v := nI 1) dLw_law_589 (by decide) ?_
          refine Go.iadd dLw_law_590 ?_
          refine Go.cvt (v' := nI (i + 1)) (nI_add _ _) ?_
          refine Go.sald (jn := (i + 1)) dLw_law_591 rfl (show (i + 1) < L from by omega) (by omega) ?_
          refine Go.cVn mMo_pass [vI (xs ((i + 1)))] dLw_law_592 vwLw_125 (Nat.le_of_ble_eq_true rfl) rfl rfl (Nat.le_of_ble_eq_true rfl) rfl (Nat.le_of_ble_eq_true rfl) (g_Mo_pass (d := d + 21) R2 _) (fun h95 q96 => ?_)
          rcases q96 with ⟨ok2, R3, e0⟩ | ⟨ok2, R3, e0⟩
          · refine Go.aload_n dLw_law_595 rfl (Nat.ne_of_beq_eq_false rfl) ?_
            refine Go.cVr mMo_thrown [] dLw_law_596 vwLw_126 (Nat.le_of_ble_eq_true rfl) rfl rfl (Nat.le_of_ble_eq_true rfl) rfl (Nat.le_of_ble_eq_true rfl) (w_Mo_thrown (d := d + 1) R3) (fun v97 e8 => ?_)
            refine Go.cvt (v' := nI 0) (e8.trans e0) ?_
            refine Go.iload dLw_law_599 rfl ?_
            refine Go.icmp_eq (tgt := 606) dLw_law_601 (by decide) (fun q5 => ?_) (fun q5 => ?_)
            · refine Go.goto (tgt := 754) dLw_law_606 (by decide) ?_
              have hI2 : LI h95 := ⟨_, _, K2.keep R3.fr, R3.st0, R3.fr.len l2, rfl, rfl⟩
              refine Go.iinc (v := nI (i + 5)) dLw_law_754 (by decide) rfl (nI_inc5 _) rfl ?_
              refine Go.goto (tgt := 23) dLw_law_757 (by decide) ?_
              exact Go.weak (Go.wide (ih (i + 5) _ _ _ hI2 (by omega) (by omega)) (Nat.le_refl _) (by omega) (by omega))
            · exact absurd q5 (by decide)
          · exact absurd ok ok2
        · have K2 := K
          have R2 := R
          have l2 := l
          refine Go.istore dLw_law_583 (by decide) rfl ?_
          refine Go.aload_n dLw_law_585 rfl (Nat.ne_of_beq_eq_false rfl) ?_
          refine Go.aload_n dLw_law_586 rfl (Nat.ne_of_beq_eq_false rfl) ?_
          refine Go.iload dLw_law_587 rfl ?_
          refine Go.iconst (v := nI 1) dLw_law_589 (by decide) ?_
          refine Go.iadd dLw_law_590 ?_
          refine Go.cvt (v' := nI (i + 1)) (nI_add _ _) ?_
          refine Go.sald (jn := (i + 1)) dLw_law_591 rfl (show (i + 1) < L from by omega) (by omega) ?_
          refine Go.cVn mMo_pass [vI (xs ((i + 1)))] dLw_law_592 vwLw_125 (Nat.le_of_ble_eq_true rfl) rfl rfl (Nat.le_of_ble_eq_true rfl) rfl (Nat.le_of_ble_eq_true rfl) (g_Mo_pass (d := d + 21) R2 _) (fun h99 q100 => ?_)
          rcases q100 with ⟨ok2, R3, e0⟩ | ⟨ok2, R3, e0⟩
          · exact absurd ok2 ok
          · refine Go.aload_n dLw_law_595 rfl (Nat.ne_of_beq_eq_false rfl) ?_
            refine Go.cVr mMo_thrown [] dLw_law_596 vwLw_126 (Nat.le_of_ble_eq_true rfl) rfl rfl (Nat.le_of_ble_eq_true rfl) rfl (Nat.le_of_ble_eq_true rfl) (w_Mo_thrown (d := d + 1) R3) (fun v101 e8 => ?_)
            refine Go.cvt (v' := nI 1) (e8.trans e0) ?_
            refine Go.iload dLw_law_599 rfl ?_
            refine Go.icmp_eq (tgt := 606) dLw_law_601 (by decide) (fun q6 => ?_) (fun q6 => ?_)
            · refine Go.goto (tgt := 754) dLw_law_606 (by decide) ?_
              have hI2 : LI h99 := ⟨_, _, K2.keep R3.fr, R3.st0, R3.fr.len l2, rfl, rfl⟩
              refine Go.iinc (v := nI (i + 5)) dLw_law_754 (by decide) rfl (nI_inc5 _) rfl ?_
              refine Go.goto (tgt := 23) dLw_law_757 (by decide) ?_
              exact Go.weak (Go.wide (ih (i + 5) _ _ _ hI2 (by omega) (by omega)) (Nat.le_refl _) (by omega) (by omega))
            · exact absurd q6 (by decide)
      · rw [qs]
        refine Go.tabIn (off := 570) (tgt := 609) dLw_law_39 (by decide) (by decide) rfl (by decide) ?_
        refine Go.aload_n dLw_law_609 rfl (Nat.ne_of_beq_eq_false rfl) ?_
        refine Go.aload_n dLw_law_610 rfl (Nat.ne_of_beq_eq_false rfl) ?_
        refine Go.iload dLw_law_611 rfl ?_
        refine Go.iconst (v := nI 1) dLw_law_613 (by decide) ?_
        refine Go.iadd dLw_law_614 ?_
        refine Go.cvt (v' := nI (i + 1)) (nI_add _ _) ?_
        refine Go.sald (jn := (i + 1)) dLw_law_615 rfl (show (i + 1) < L from by omega) (by omega) ?_
        refine Go.aload_n dLw_law_616 rfl (Nat.ne_of_beq_eq_false rfl) ?_
        refine Go.iload dLw_law_617 rfl ?_
        refine Go.iconst (v := nI 2) dLw_law_619 (by decide) ?_
        refine Go.iadd dLw_law_620 ?_
        refine Go.cvt (v' := nI (i + 2)) (nI_add _ _) ?_
        refine Go.sald (jn := (i + 2)) dLw_law_621 rfl (show (i + 2) < L from by omega) (by omega) ?_
        refine Go.aload_n dLw_law_622 rfl (Nat.ne_of_beq_eq_false rfl) ?_
        refine Go.cSb mLw_order [vO 4 (0), vI (xs ((i + 1))), vI (xs ((i + 2))), vO 101 0] dLw_law_623 vwLw_129 rfl rfl (Nat.le_of_ble_eq_true rfl) rfl (Nat.le_of_ble_eq_true rfl) (g_Lw_order (d := d) K R l _ _) (fun v102 h103 q104 => ?_)
        obtain ⟨G2, K2, R2, l2, e3, e4⟩ := id q104
        refine Go.istore dLw_law_626 (by decide) rfl ?_
        refine Go.aload_n dLw_law_628 rfl (Nat.ne_of_beq_eq_false rfl) ?_
        refine Go.aload_n dLw_law_629 rfl (Nat.ne_of_beq_eq_false rfl) ?_
        refine Go.iload dLw_law_630 rfl ?_
        refine Go.iconst (v := nI 1) dLw_law_632 (by decide) ?_
        refine Go.iadd dLw_law_633 ?_
        refine Go.cvt (v' := nI (i + 1)) (nI_add _ _) ?_
        refine Go.sald (jn := (i + 1)) dLw_law_634 rfl (show (i + 1) < L from by omega) (by omega) ?_
        refine Go.aload_n dLw_law_635 rfl (Nat.ne_of_beq_eq_false rfl) ?_
        refine Go.iload dLw_law_636 rfl ?_
        refine Go.iconst (v := nI 2) dLw_law_638 (by decide) ?_
        refine Go.iadd dLw_law_639 ?_
        refine Go.cvt (v' := nI (i + 2)) (nI_add _ _) ?_
        refine Go.sald (jn := (i + 2)) dLw_law_640 rfl (show (i + 2) < L from by omega) (by omega) ?_
        refine Go.cVp mMo_order [vI (xs ((i + 1))), vI (xs ((i + 2)))] dLw_law_641 vwLw_131 (Nat.le_of_ble_eq_true rfl) rfl rfl (Nat.le_of_ble_eq_true rfl) rfl (Nat.le_of_ble_eq_true rfl) (w_Mo_order (d := d + 1) R2 _ _) (fun v105 h106 q107 => ?_)
        refine Go.istore dLw_law_644 (by decide) rfl ?_
        refine Go.goto (tgt := 754) dLw_law_646 (by decide) ?_
        have hI2 : LI h106 := q104.li q107 rfl rfl
        refine Go.iinc (v := nI (i + 5)) dLw_law_754 (by decide) rfl (nI_inc5 _) rfl ?_
        refine Go.goto (tgt := 23) dLw_law_757 (by decide) ?_
        exact Go.weak (Go.wide (ih (i + 5) _ _ _ hI2 (by omega) (by omega)) (Nat.le_refl _) (by omega) (by omega))
      · rw [qs]
        refine Go.tabIn (off := 610) (tgt := 649) dLw_law_39 (by decide) (by decide) rfl (by decide) ?_
        refine Go.aload_n dLw_law_649 rfl (Nat.ne_of_beq_eq_false rfl) ?_
        refine Go.aload_n dLw_law_650 rfl (Nat.ne_of_beq_eq_false rfl) ?_
        refine Go.iload dLw_law_651 rfl ?_
        refine Go.iconst (v := nI 1) dLw_law_653 (by decide) ?_
        refine Go.iadd dLw_law_654 ?_
        refine Go.cvt (v' := nI (i + 1)) (nI_add _ _) ?_
        refine Go.sald (jn := (i + 1)) dLw_law_655 rfl (show (i + 1) < L from by omega) (by omega) ?_
        refine Go.aload_n dLw_law_656 rfl (Nat.ne_of_beq_eq_false rfl) ?_
        refine Go.iload dLw_law_657 rfl ?_
        refine Go.iconst (v := nI 2) dLw_law_659 (by decide) ?_
        refine Go.iadd dLw_law_660 ?_
        refine Go.cvt (v' := nI (i + 2)) (nI_add _ _) ?_
        refine Go.sald (jn := (i + 2)) dLw_law_661 rfl (show (i + 2) < L from by omega) (by omega) ?_
        refine Go.aload_n dLw_law_662 rfl (Nat.ne_of_beq_eq_false rfl) ?_
        refine Go.cSb mLw_told [vO 4 (0), vI (xs ((i + 1))), vI (xs ((i + 2))), vO 101 0] dLw_law_663 vwLw_132 rfl rfl (Nat.le_of_ble_eq_true rfl) rfl (Nat.le_of_ble_eq_true rfl) (g_Lw_told (d := d) K R l _ _) (fun v108 h109 q110 => ?_)
        obtain ⟨G2, K2, R2, l2, e3, e4⟩ := id q110
        refine Go.istore dLw_law_666 (by decide) rfl ?_
        refine Go.aload_n dLw_law_668 rfl (Nat.ne_of_beq_eq_false rfl) ?_
        refine Go.aload_n dLw_law_669 rfl (Nat.ne_of_beq_eq_false rfl) ?_
        refine Go.iload dLw_law_670 rfl ?_
        refine Go.iconst (v := nI 1) dLw_law_672 (by decide) ?_
        refine Go.iadd dLw_law_673 ?_
        refine Go.cvt (v' := nI (i + 1)) (nI_add _ _) ?_
        refine Go.sald (jn := (i + 1)) dLw_law_674 rfl (show (i + 1) < L from by omega) (by omega) ?_
        refine Go.aload_n dLw_law_675 rfl (Nat.ne_of_beq_eq_false rfl) ?_
        refine Go.iload dLw_law_676 rfl ?_
        refine Go.iconst (v := nI 2) dLw_law_678 (by decide) ?_
        refine Go.iadd dLw_law_679 ?_
        refine Go.cvt (v' := nI (i + 2)) (nI_add _ _) ?_
        refine Go.sald (jn := (i + 2)) dLw_law_680 rfl (show (i + 2) < L from by omega) (by omega) ?_
        refine Go.cVp mMo_told [vI (xs ((i + 1))), vI (xs ((i + 2)))] dLw_law_681 vwLw_134 (Nat.le_of_ble_eq_true rfl) rfl rfl (Nat.le_of_ble_eq_true rfl) rfl (Nat.le_of_ble_eq_true rfl) (w_Mo_told (d := d + 1) R2 _ _) (fun v111 h112 q113 => ?_)
        refine Go.istore dLw_law_684 (by decide) rfl ?_
        refine Go.goto (tgt := 754) dLw_law_686 (by decide) ?_
        have hI2 : LI h112 := q110.li q113 rfl rfl
        refine Go.iinc (v := nI (i + 5)) dLw_law_754 (by decide) rfl (nI_inc5 _) rfl ?_
        refine Go.goto (tgt := 23) dLw_law_757 (by decide) ?_
        exact Go.weak (Go.wide (ih (i + 5) _ _ _ hI2 (by omega) (by omega)) (Nat.le_refl _) (by omega) (by omega))
      · rw [qs]
        refine Go.tabIn (off := 650) (tgt := 689) dLw_law_39 (by decide) (by decide) rfl (by decide) ?_
        refine Go.aload_n dLw_law_689 rfl (Nat.ne_of_beq_eq_false rfl) ?_
        refine Go.aload_n dLw_law_690 rfl (Nat.ne_of_beq_eq_false rfl) ?_
        refine Go.iload dLw_law_691 rfl ?_
        refine Go.iconst (v := nI 1) dLw_law_693 (by decide) ?_
        refine Go.iadd dLw_law_694 ?_
        refine Go.cvt (v' := nI (i + 1)) (nI_add _ _) ?_
        refine Go.sald (jn := (i + 1)) dLw_law_695 rfl (show (i + 1) < L from by omega) (by omega) ?_
        refine Go.aload_n dLw_law_696 rfl (Nat.ne_of_beq_eq_false rfl) ?_
        refine Go.iload dLw_law_697 rfl ?_
        refine Go.iconst (v := nI 2) dLw_law_699 (by decide) ?_
        refine Go.iadd dLw_law_700 ?_
        refine Go.cvt (v' := nI (i + 2)) (nI_add _ _) ?_
        refine Go.sald (jn := (i + 2)) dLw_law_701 rfl (show (i + 2) < L from by omega) (by omega) ?_
        refine Go.aload_n dLw_law_702 rfl (Nat.ne_of_beq_eq_false rfl) ?_
        refine Go.cSb mLw_known [vO 4 (0), vI (xs ((i + 1))), vI (xs ((i + 2))), vO 101 0] dLw_law_703 vwLw_135 rfl rfl (Nat.le_of_ble_eq_true rfl) rfl (Nat.le_of_ble_eq_true rfl) (g_Lw_known (d := d) K R l _ _) (fun v114 h115 q116 => ?_)
        obtain ⟨G2, K2, R2, l2, e3, e4⟩ := id q116
        refine Go.istore dLw_law_706 (by decide) rfl ?_
        refine Go.aload_n dLw_law_708 rfl (Nat.ne_of_beq_eq_false rfl) ?_
        refine Go.aload_n dLw_law_709 rfl (Nat.ne_of_beq_eq_false rfl) ?_
        refine Go.iload dLw_law_710 rfl ?_
        refine Go.iconst (v := nI 1) dLw_law_712 (by decide) ?_
        refine Go.iadd dLw_law_713 ?_
        refine Go.cvt (v' := nI (i + 1)) (nI_add _ _) ?_
        refine Go.sald (jn := (i + 1)) dLw_law_714 rfl (show (i + 1) < L from by omega) (by omega) ?_
        refine Go.aload_n dLw_law_715 rfl (Nat.ne_of_beq_eq_false rfl) ?_
        refine Go.iload dLw_law_716 rfl ?_
        refine Go.iconst (v := nI 2) dLw_law_718 (by decide) ?_
        refine Go.iadd dLw_law_719 ?_
        refine Go.cvt (v' := nI (i + 2)) (nI_add _ _) ?_
        refine Go.sald (jn := (i + 2)) dLw_law_720 rfl (show (i + 2) < L from by omega) (by omega) ?_
        refine Go.cVp mMo_known [vI (xs ((i + 1))), vI (xs ((i + 2)))] dLw_law_721 vwLw_137 (Nat.le_of_ble_eq_true rfl) rfl rfl (Nat.le_of_ble_eq_true rfl) rfl (Nat.le_of_ble_eq_true rfl) (w_Mo_known (d := d + 1) R2 _ _) (fun v117 h118 q119 => ?_)
        refine Go.istore dLw_law_724 (by decide) rfl ?_
        refine Go.goto (tgt := 754) dLw_law_726 (by decide) ?_
        have hI2 : LI h118 := q116.li q119 rfl rfl
        refine Go.iinc (v := nI (i + 5)) dLw_law_754 (by decide) rfl (nI_inc5 _) rfl ?_
        refine Go.goto (tgt := 23) dLw_law_757 (by decide) ?_
        exact Go.weak (Go.wide (ih (i + 5) _ _ _ hI2 (by omega) (by omega)) (Nat.le_refl _) (by omega) (by omega))
      · rw [qs]
        refine Go.tabIn (off := 690) (tgt := 729) dLw_law_39 (by decide) (by decide) rfl (by decide) ?_
        refine Go.aload_n dLw_law_729 rfl (Nat.ne_of_beq_eq_false rfl) ?_
        refine Go.aload_n dLw_law_730 rfl (Nat.ne_of_beq_eq_false rfl) ?_
        refine Go.iload dLw_law_731 rfl ?_
        refine Go.iconst (v := nI 1) dLw_law_733 (by decide) ?_
        refine Go.iadd dLw_law_734 ?_
        refine Go.cvt (v' := nI (i + 1)) (nI_add _ _) ?_
        refine Go.sald (jn := (i + 1)) dLw_law_735 rfl (show (i + 1) < L from by omega) (by omega) ?_
        refine Go.cVr mBk_count [vI (xs ((i + 1)))] dLw_law_736 vwLw_138 (Nat.le_of_ble_eq_true rfl) rfl rfl (Nat.le_of_ble_eq_true rfl) rfl (Nat.le_of_ble_eq_true rfl) (w_Bk_count (d := d + 1) K _) (fun v120 _ => ?_)
        have R2 := R
        refine Go.pop trivial dLw_law_739 ?_
        refine Go.aload_n dLw_law_740 rfl (Nat.ne_of_beq_eq_false rfl) ?_
        refine Go.aload_n dLw_law_741 rfl (Nat.ne_of_beq_eq_false rfl) ?_
        refine Go.iload dLw_law_742 rfl ?_
        refine Go.iconst (v := nI 1) dLw_law_744 (by decide) ?_
        refine Go.iadd dLw_law_745 ?_
        refine Go.cvt (v' := nI (i + 1)) (nI_add _ _) ?_
        refine Go.sald (jn := (i + 1)) dLw_law_746 rfl (show (i + 1) < L from by omega) (by omega) ?_
        refine Go.cVp mMo_count [vI (xs ((i + 1)))] dLw_law_747 vwLw_141 (Nat.le_of_ble_eq_true rfl) rfl rfl (Nat.le_of_ble_eq_true rfl) rfl (Nat.le_of_ble_eq_true rfl) (w_Mo_count (d := d + 1) R2 _) (fun v121 h122 q123 => ?_)
        refine Go.pop trivial dLw_law_750 ?_
        refine Go.goto (tgt := 754) dLw_law_751 (by decide) ?_
        have hI2 : LI h122 := ((KB.wb K).lp R l).li q123 rfl rfl
        refine Go.iinc (v := nI (i + 5)) dLw_law_754 (by decide) rfl (nI_inc5 _) rfl ?_
        refine Go.goto (tgt := 23) dLw_law_757 (by decide) ?_
        exact Go.weak (Go.wide (ih (i + 5) _ _ _ hI2 (by omega) (by omega)) (Nat.le_refl _) (by omega) (by omega))
theorem KB.al5 {G : GB} {h : AH} (K : KB G h h) : KB G (ma_al h 5) (ma_al h 5) := K.agree (fun _ _ _ _ => rfl) (fun _ _ _ _ => rfl) (fun _ _ _ => rfl)
theorem KB.aa {G : GB} {h : AH} {N : Nat} (K : KB G h h) : KB G (ma_aa h 101 N) (ma_aa h 101 N) := K.agree (fun _ _ _ _ => rfl) (fun _ _ _ _ => rfl) (fun c i hc => by
  show ma_u2 h.2.2.2.1 101 _ N c i = _
  rw [ma_u2_at, if_neg (by omega)])
theorem KR.aa {G : GR} {h : AH} {N : Nat} (K : KR G h h) : KR G (ma_aa h 101 N) (ma_aa h 101 N) := by
  have l : ∀ c i, c ≠ 101 → (ma_aa h 101 N).2.2.2.1 c i = h.2.2.2.1 c i := fun c i hc => by
    show ma_u2 h.2.2.2.1 101 _ N c i = _
    rw [ma_u2_at, if_neg (by omega)]
  exact ⟨⟨K.r_kinds, (l _ _ (by decide)).trans K.l_kinds, K.r_opens, (l _ _ (by decide)).trans K.l_opens, K.r_closes, (l _ _ (by decide)).trans K.l_closes, K.r_isOut, (l _ _ (by decide)).trans K.l_isOut, K.r_left, (l _ _ (by decide)).trans K.l_left, K.r_state, (l _ _ (by decide)).trans K.l_state, K.r_kind, (l _ _ (by decide)).trans K.l_kind, K.r_arrival, (l _ _ (by decide)).trans K.l_arrival, K.r_need, (l _ _ (by decide)).trans K.l_need, K.r_ranks, (l _ _ (by decide)).trans K.l_ranks, K.r_doorOf, (l _ _ (by decide)).trans K.l_doorOf, K.r_start, (l _ _ (by decide)).trans K.l_start, K.r_gone, (l _ _ (by decide)).trans K.l_gone, K.r_seals, (l _ _ (by decide)).trans K.l_seals, K.r_twice, (l _ _ (by decide)).trans K.l_twice, K.r_same, (l _ _ (by decide)).trans K.l_same, K.r_waiting, (l _ _ (by decide)).trans K.l_waiting, K.r_newDoor, (l _ _ (by decide)).trans K.l_newDoor, K.r_newStart, (l _ _ (by decide)).trans K.l_newStart, K.r_setCost, (l _ _ (by decide)).trans K.l_setCost, K.r_setStart, (l _ _ (by decide)).trans K.l_setStart, K.r_trial, (l _ _ (by decide)).trans K.l_trial, K.r_counts, (l _ _ (by decide)).trans K.l_counts⟩, K.now, K.doors, K.doors_le, K.trucks, K.trucks_le, K.waits, K.waits_le, K.state, K.st4, K.fresh, K.doorOf, K.atd, K.ex, K.waiting, K.wt12, K.newDoor, FrR.rf⟩
theorem mo_101 (h : AH) : ma_n (mo_h h) 101 = ma_n h 101 := rfl
set_option maxHeartbeats 4000000 in
theorem go_law {L : Nat} {xs : Nat → Int32} {d : Nat} (hL : L ≤ 2560) : Go (L, xs) true false (d + 22) 2631 17446 mLw_law 0 [vO 99 0, vU, vU, vU, vU, vU, vU] [] ma_h0 (fun g _ => g = .inl (some (vI 1))) := by
  rw [show (17446 : Nat) = 17437 + ma_nf 4 from by decide]
  refine Go.new dLw_law_0 nwLw_8 (Nat.le_of_ble_eq_true rfl) ?_
  refine Go.dup trivial dLw_law_3 ?_
  refine Go.cIn (bc2 := 40) (bs2 := 1051) mBk_init [] dLw_law_4 vwLw_67 (Nat.le_of_ble_eq_true rfl) rfl rfl (Nat.le_of_ble_eq_true rfl) rfl (Nat.le_of_ble_eq_true rfl) (g_Bk_init (d := d + 18)) (fun h1 B1 => ?_)
  refine Go.astore_n dLw_law_7 (by decide) rfl ?_
  rw [show (16386 : Nat) = 16356 + ma_nf 5 from by decide]
  obtain ⟨-, -, -, -, -, -, -, -, -, -, -, -, -, -, -, -, n100, n5, n101, n102, zz⟩ := id B1
  refine Go.new dLw_law_8 nwLw_68 (Nat.le_of_ble_eq_true rfl) ?_
  rw [n5]
  refine Go.dup trivial dLw_law_11 ?_
  refine Go.cIn (bc2 := 23) (bs2 := 965) mMo_init [] dLw_law_12 vwLw_70 (Nat.le_of_ble_eq_true rfl) rfl rfl (Nat.le_of_ble_eq_true rfl) rfl (Nat.le_of_ble_eq_true rfl) (g_Mo_init (d := d + 20) (bc := 0) (bs := 0)) (fun h2 e2 => ?_)
  subst e2
  refine Go.astore_n dLw_law_15 (by decide) rfl ?_
  refine Go.iconst (v := nI 1) dLw_law_16 (by decide) ?_
  refine Go.newl (N := 1) dLw_law_17 (ma_in (by decide +kernel) rfl) rfl (by decide) ?_
  have m101 : ma_n (mo_h (ma_al h1 5)) 101 = 0 := n101
  rw [m101]
  refine Go.astore_n dLw_law_19 (by decide) rfl ?_
  refine Go.iconst (v := nI 0) dLw_law_20 (by decide) ?_
  refine Go.istore dLw_law_21 (by decide) rfl ?_
  have KA := B1.kb.al5
  have m100 : ma_n (ma_al h1 5) 100 = 15 := n100
  have m102 : ma_n (ma_al h1 5) 102 = 0 := n102
  have hI : LI (ma_aa (mo_h (ma_al h1 5)) 101 1) := ⟨((0, 0), 0), ((0, 0, 0), 0, (fun _ => 0), (fun _ => 0)), (mo_kb KA m100 m102).aa, (mo_kr m100 m102 zz).aa, by
    show ma_u2 _ 101 (ma_n (mo_h (ma_al h1 5)) 101) 1 101 0 = 1
    rw [m101, ma_u2_at, if_pos ⟨rfl, rfl⟩], rfl, rfl⟩
  exact Go.weak (lp_law (d := d) hL 513 0 _ _ _ hI (by omega) (by omega))
