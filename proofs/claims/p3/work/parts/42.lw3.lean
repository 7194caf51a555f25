/-! THE LAW, 3: its loop -/
theorem Go.cSb {sc : Nat × (Nat → Int32)} {cl rd : Bool} {d2 bc bs : Nat} {y : MD} {pc : Nat} {ls st stk ls2 : List AV} {h : AH} {Q : GO → AH → Prop} (y2 : MD) (vs : List AV) {idx : Nat} (hd : decode y.2.1 pc = .ok (.invokestatic idx, 3)) (hvw : ma_SW y.1.cls idx y2 vs.length) (hs : vs.reverse ++ st = stk) (hl2 : vs ++ List.replicate (y2.2.2.1 - vs.length) vU = ls2) (hN : vs.length ≤ y2.2.2.1) (hnl : vs.all ma_nlb = true) (h8 : st.length ≤ 10) {P : Int32 → AH → Prop} (G2 : Go sc true false d2 5 30 y2 0 ls2 [] h (PV P)) (kk : ∀ v h1, P v h1 → Go sc false rd (d2 + 1) bc bs y (pc + 3) ls (vI v :: st) h1 Q) : Go sc cl rd (d2 + 1) (bc + 5) (bs + 30) y pc ls stk h Q :=
  Go.callS (bc2 := 5) (bs2 := 30) (rd2 := false) false y2 vs hd hvw hs hl2 hN (ma_nls hnl) h8 (fun hc => nomatch hc) G2 (fun _ hq => by obtain ⟨_, e1, _⟩ := hq; cases e1) (fun v' h1 hq => by obtain ⟨v, e1, e2⟩ := hq; cases e1; exact kk v h1 e2) (fun _ _ hq => by obtain ⟨_, e1, _⟩ := hq; cases e1)
theorem law_le {L i : Nat} (hL : L ≤ 2560) (hi : i ≤ L) (q : ¬ nI L - nI 5 < nI i) : i + 5 ≤ L := by
  rcases Nat.lt_or_ge L 5 with z | z
  · have h1 : nI L - nI 5 < 0 := pk_sneg (by omega) z
    exact absurd (Int32.lt_of_lt_of_le h1 (nI_pos' (by omega))) q
  · rw [pk_sub z] at q
    have := tnlt q (by omega) (by omega)
    omega
theorem w_Mo_thrown {sc : Nat × (Nat → Int32)} {d bc bs : Nat} {G : GR} {h0 h : AH} (R : KR G h0 h) : Go sc true false (d + 20) bc bs mMo_thrown 0 [vO 5 0] [] h (rP (fun v => v = h.1 5 0 0) h) := by
  obtain ⟨⟨md, mt, wn⟩, nw, stf, wtf⟩ := G
  exact Go.mono (fun g h1 q => ⟨_, q.1, rfl, q.2⟩) (g_Mo_thrown (d := d + 20) R)
theorem lg_cmp_self (a : Int64) : lg_cmp a a = 0 := by
  simp [lg_cmp]
set_option maxHeartbeats 4000000 in
theorem lp_law {L : Nat} {xs : Nat → Int32} {d : Nat} (hL : L ≤ 2560) : ∀ (k i : Nat) (z5 z6 : AV) (h : AH), LI h → L < i + 5 * k → i ≤ L → Go (L, xs) false false (d + 22) (5 * k) (30 * k) mLw_law 23 [vO 99 0, vO 4 0, vO 5 0, vO 101 0, vI (nI i), z5, z6] [] h (fun g _ => g = .inl (some (vI 1))) := by
  intro k
  induction k with
  | zero => intro i z5 z6 h hI hk hi; omega
  | succ k ih =>
    intro i z5 z6 h hI hk hi
    obtain ⟨⟨⟨nd, nt⟩, nw⟩, ⟨⟨md, mt, wn⟩, nw2, stf, wtf⟩, K, R, l, e1, e2⟩ := hI
    have e1 : nt = mt := e1
    have e2 : nw = nw2 := e2
    subst e1
    subst e2
    rw [show 5 * (k + 1) = 5 * k + 5 from rfl, show 30 * (k + 1) = 30 * k + 30 from rfl]
    refine Go.iload dLw_law_23 rfl ?_
    refine Go.aload_n dLw_law_25 rfl (Nat.ne_of_beq_eq_false rfl) ?_
    refine Go.slen dLw_law_26 ?_
    refine Go.iconst (v := nI 5) dLw_law_27 (by decide) ?_
    refine Go.isub dLw_law_28 ?_
    refine Go.icmp_gt (tgt := 777) dLw_law_29 (by decide) (fun q1 => ?_) (fun q1 => ?_)
    · refine Go.iconst (v := nI 1) dLw_law_777 (by decide) ?_
      refine Go.iret dLw_law_778 rfl rfl (by decide) ?_
      exact rfl
    · have hi5 := law_le hL hi q1
      refine Go.aload_n dLw_law_32 rfl (Nat.ne_of_beq_eq_false rfl) ?_
      refine Go.iload dLw_law_33 rfl ?_
      refine Go.sald (jn := i) dLw_law_35 rfl (show i < L from by omega) (by omega) ?_
      refine Go.bipush (v := nI 31) dLw_law_36 (by decide) ?_
      refine Go.iand dLw_law_38 ?_
      rcases sw18 (xs (i) &&& nI 31) with qs | qs | qs | qs | qs | qs | qs | qs | qs | qs | qs | qs | qs | qs | qs | qs | qs | qs | qs
      · refine Go.tabOut (tgt := 771) dLw_law_39 qs (by decide) ?_
        have hI2 : LI h := ⟨_, _, K, R, l, rfl, rfl⟩
        refine Go.iinc (v := nI (i + 5)) dLw_law_771 (by decide) rfl (nI_inc5 _) rfl ?_
        refine Go.goto (tgt := 23) dLw_law_774 (by decide) ?_
        exact Go.weak (Go.wide (ih (i + 5) _ _ _ hI2 (by omega) (by omega)) (Nat.le_refl _) (by omega) (by omega))
      · rw [qs]
        refine Go.tabIn (off := 85) (tgt := 124) dLw_law_39 (by decide) (by decide) rfl (by decide) ?_
        refine Go.aload_n dLw_law_124 rfl (Nat.ne_of_beq_eq_false rfl) ?_
        refine Go.aload_n dLw_law_125 rfl (Nat.ne_of_beq_eq_false rfl) ?_
        refine Go.iload dLw_law_126 rfl ?_
        refine Go.iconst (v := nI 1) dLw_law_128 (by decide) ?_
        refine Go.iadd dLw_law_129 ?_
        refine Go.cvt (v' := nI (i + 1)) (nI_add _ _) ?_
        refine Go.sald (jn := (i + 1)) dLw_law_130 rfl (show (i + 1) < L from by omega) (by omega) ?_
        refine Go.aload_n dLw_law_131 rfl (Nat.ne_of_beq_eq_false rfl) ?_
        refine Go.iload dLw_law_132 rfl ?_
        refine Go.iconst (v := nI 2) dLw_law_134 (by decide) ?_
        refine Go.iadd dLw_law_135 ?_
        refine Go.cvt (v' := nI (i + 2)) (nI_add _ _) ?_
        refine Go.sald (jn := (i + 2)) dLw_law_136 rfl (show (i + 2) < L from by omega) (by omega) ?_
        refine Go.aload_n dLw_law_137 rfl (Nat.ne_of_beq_eq_false rfl) ?_
        refine Go.iload dLw_law_138 rfl ?_
        refine Go.iconst (v := nI 3) dLw_law_140 (by decide) ?_
        refine Go.iadd dLw_law_141 ?_
        refine Go.cvt (v' := nI (i + 3)) (nI_add _ _) ?_
        refine Go.sald (jn := (i + 3)) dLw_law_142 rfl (show (i + 3) < L from by omega) (by omega) ?_
        refine Go.aload_n dLw_law_143 rfl (Nat.ne_of_beq_eq_false rfl) ?_
        refine Go.cSb mLw_door [vO 4 (0), vI (xs ((i + 1))), vI (xs ((i + 2))), vI (xs ((i + 3))), vO 101 0] dLw_law_144 vwLw_71 rfl rfl (Nat.le_of_ble_eq_true rfl) rfl (Nat.le_of_ble_eq_true rfl) (g_Lw_door (d := d) K R l _ _ _) (fun v1 h2 q3 => ?_)
        obtain ⟨G2, K2, R2, l2, e3, e4⟩ := id q3
        refine Go.istore dLw_law_147 (by decide) rfl ?_
        refine Go.aload_n dLw_law_149 rfl (Nat.ne_of_beq_eq_false rfl) ?_
        refine Go.aload_n dLw_law_150 rfl (Nat.ne_of_beq_eq_false rfl) ?_
        refine Go.iload dLw_law_151 rfl ?_
        refine Go.iconst (v := nI 1) dLw_law_153 (by decide) ?_
        refine Go.iadd dLw_law_154 ?_
        refine Go.cvt (v' := nI (i + 1)) (nI_add _ _) ?_
        refine Go.sald (jn := (i + 1)) dLw_law_155 rfl (show (i + 1) < L from by omega) (by omega) ?_
        refine Go.aload_n dLw_law_156 rfl (Nat.ne_of_beq_eq_false rfl) ?_
        refine Go.iload dLw_law_157 rfl ?_
        refine Go.iconst (v := nI 2) dLw_law_159 (by decide) ?_
        refine Go.iadd dLw_law_160 ?_
        refine Go.cvt (v' := nI (i + 2)) (nI_add _ _) ?_
        refine Go.sald (jn := (i + 2)) dLw_law_161 rfl (show (i + 2) < L from by omega) (by omega) ?_
        refine Go.aload_n dLw_law_162 rfl (Nat.ne_of_beq_eq_false rfl) ?_
        refine Go.iload dLw_law_163 rfl ?_
        refine Go.iconst (v := nI 3) dLw_law_165 (by decide) ?_
        refine Go.iadd dLw_law_166 ?_
        refine Go.cvt (v' := nI (i + 3)) (nI_add _ _) ?_
        refine Go.sald (jn := (i + 3)) dLw_law_167 rfl (show (i + 3) < L from by omega) (by omega) ?_
        refine Go.cVp mMo_door [vI (xs ((i + 1))), vI (xs ((i + 2))), vI (xs ((i + 3)))] dLw_law_168 vwLw_76 (Nat.le_of_ble_eq_true rfl) rfl rfl (Nat.le_of_ble_eq_true rfl) rfl (Nat.le_of_ble_eq_true rfl) (w_Mo_door (d := d + 1) R2 _ _ _) (fun v4 h5 q6 => ?_)
        refine Go.istore dLw_law_171 (by decide) rfl ?_
        refine Go.goto (tgt := 771) dLw_law_173 (by decide) ?_
        have hI2 : LI h5 := q3.li q6 rfl rfl
        refine Go.iinc (v := nI (i + 5)) dLw_law_771 (by decide) rfl (nI_inc5 _) rfl ?_
        refine Go.goto (tgt := 23) dLw_law_774 (by decide) ?_
        exact Go.weak (Go.wide (ih (i + 5) _ _ _ hI2 (by omega) (by omega)) (Nat.le_refl _) (by omega) (by omega))
      · rw [qs]
        refine Go.tabIn (off := 137) (tgt := 176) dLw_law_39 (by decide) (by decide) rfl (by decide) ?_
        refine Go.aload_n dLw_law_176 rfl (Nat.ne_of_beq_eq_false rfl) ?_
        refine Go.aload_n dLw_law_177 rfl (Nat.ne_of_beq_eq_false rfl) ?_
        refine Go.iload dLw_law_178 rfl ?_
        refine Go.iconst (v := nI 1) dLw_law_180 (by decide) ?_
        refine Go.iadd dLw_law_181 ?_
        refine Go.cvt (v' := nI (i + 1)) (nI_add _ _) ?_
        refine Go.sald (jn := (i + 1)) dLw_law_182 rfl (show (i + 1) < L from by omega) (by omega) ?_
        refine Go.aload_n dLw_law_183 rfl (Nat.ne_of_beq_eq_false rfl) ?_
        refine Go.iload dLw_law_184 rfl ?_
        refine Go.iconst (v := nI 2) dLw_law_186 (by decide) ?_
        refine Go.iadd dLw_law_187 ?_
        refine Go.cvt (v' := nI (i + 2)) (nI_add _ _) ?_
        refine Go.sald (jn := (i + 2)) dLw_law_188 rfl (show (i + 2) < L from by omega) (by omega) ?_
        refine Go.aload_n dLw_law_189 rfl (Nat.ne_of_beq_eq_false rfl) ?_
        refine Go.iload dLw_law_190 rfl ?_
        refine Go.iconst (v := nI 3) dLw_law_192 (by decide) ?_
        refine Go.iadd dLw_law_193 ?_
        refine Go.cvt (v' := nI (i + 3)) (nI_add _ _) ?_
        refine Go.sald (jn := (i + 3)) dLw_law_194 rfl (show (i + 3) < L from by omega) (by omega) ?_
        refine Go.aload_n dLw_law_195 rfl (Nat.ne_of_beq_eq_false rfl) ?_
        refine Go.iload dLw_law_196 rfl ?_
        refine Go.iconst (v := nI 4) dLw_law_198 (by decide) ?_
        refine Go.iadd dLw_law_199 ?_
        refine Go.cvt (v' := nI (i + 4)) (nI_add _ _) ?_
        refine Go.sald (jn := (i + 4)) dLw_law_200 rfl (show (i + 4) < L from by omega) (by omega) ?_
        refine Go.aload_n dLw_law_201 rfl (Nat.ne_of_beq_eq_false rfl) ?_
        refine Go.cSb mLw_truck [vO 4 (0), vI (xs ((i + 1))), vI (xs ((i + 2))), vI (xs ((i + 3))), vI (xs ((i + 4))), vO 101 0] dLw_law_202 vwLw_77 rfl rfl (Nat.le_of_ble_eq_true rfl) rfl (Nat.le_of_ble_eq_true rfl) (g_Lw_truck (d := d) K R l _ _ _ _) (fun v7 h8 q9 => ?_)
        rcases q9 with ⟨ok, hn, rfl, hl, K2, R2, l2⟩ | ⟨ok, hn, rfl, rfl⟩ | ⟨ok, rfl, rfl⟩
        · have hn : nt < 12 := hn
          refine Go.istore dLw_law_205 (by decide) rfl ?_
          refine Go.aload_n dLw_law_207 rfl (Nat.ne_of_beq_eq_false rfl) ?_
          refine Go.aload_n dLw_law_208 rfl (Nat.ne_of_beq_eq_false rfl) ?_
          refine Go.iload dLw_law_209 rfl ?_
          refine Go.iconst (v := nI 1) dLw_law_211 (by decide) ?_
          refine Go.iadd dLw_law_212 ?_
          refine Go.cvt (v' := nI (i + 1)) (nI_add _ _) ?_
          refine Go.sald (jn := (i + 1)) dLw_law_213 rfl (show (i + 1) < L from by omega) (by omega) ?_
          refine Go.aload_n dLw_law_214 rfl (Nat.ne_of_beq_eq_false rfl) ?_
          refine Go.iload dLw_law_215 rfl ?_
          refine Go.iconst (v := nI 2) dLw_law_217 (by decide) ?_
          refine Go.iadd dLw_law_218 ?_
          refine Go.cvt (v' := nI (i + 2)) (nI_add _ _) ?_
          refine Go.sald (jn := (i + 2)) dLw_law_219 rfl (show (i + 2) < L from by omega) (by omega) ?_
          refine Go.aload_n dLw_law_220 rfl (Nat.ne_of_beq_eq_false rfl) ?_
          refine Go.iload dLw_law_221 rfl ?_
          refine Go.iconst (v := nI 3) dLw_law_223 (by decide) ?_
          refine Go.iadd dLw_law_224 ?_
          refine Go.cvt (v' := nI (i + 3)) (nI_add _ _) ?_
          refine Go.sald (jn := (i + 3)) dLw_law_225 rfl (show (i + 3) < L from by omega) (by omega) ?_
          refine Go.aload_n dLw_law_226 rfl (Nat.ne_of_beq_eq_false rfl) ?_
          refine Go.iload dLw_law_227 rfl ?_
          refine Go.iconst (v := nI 4) dLw_law_229 (by decide) ?_
          refine Go.iadd dLw_law_230 ?_
          refine Go.cvt (v' := nI (i + 4)) (nI_add _ _) ?_
          refine Go.sald (jn := (i + 4)) dLw_law_231 rfl (show (i + 4) < L from by omega) (by omega) ?_
          refine Go.cVp mMo_truck [vI (xs ((i + 1))), vI (xs ((i + 2))), vI (xs ((i + 3))), vI (xs ((i + 4)))] dLw_law_232 vwLw_80 (Nat.le_of_ble_eq_true rfl) rfl rfl (Nat.le_of_ble_eq_true rfl) rfl (Nat.le_of_ble_eq_true rfl) (g_Mo_truck (d := d + 20) R2 _ _ _ _) (fun v10 h11 q12 => ?_)
          rcases q12 with ⟨ok2, hn2, rfl, e0, R3⟩ | ⟨ok2, hn2, e0, R3⟩ | ⟨ok2, e0, R3⟩
          · refine Go.istore dLw_law_235 (by decide) rfl ?_
            refine Go.aload_n dLw_law_237 rfl (Nat.ne_of_beq_eq_false rfl) ?_
            refine Go.cVr mMo_thrown [] dLw_law_238 vwLw_81 (Nat.le_of_ble_eq_true rfl) rfl rfl (Nat.le_of_ble_eq_true rfl) rfl (Nat.le_of_ble_eq_true rfl) (w_Mo_thrown (d := d + 1) R3) (fun v13 e8 => ?_)
            refine Go.cvt (v' := nI 0) (e8.trans e0) ?_
            refine Go.iload dLw_law_241 rfl ?_
            refine Go.icmp_eq (tgt := 248) dLw_law_243 (by decide) (fun q2 => ?_) (fun q2 => ?_)
            · refine Go.iload dLw_law_248 rfl ?_
              refine Go.if_ne (tgt := 265) dLw_law_250 (by decide) (fun q3 => ?_) (fun q3 => ?_)
              · exact absurd q3 (by decide)
              · refine Go.aload_n dLw_law_253 rfl (Nat.ne_of_beq_eq_false rfl) ?_
                refine Go.iconst (v := nI 0) dLw_law_254 (by decide) ?_
                refine Go.lald (jn := 0) dLw_law_255 rfl (by rw [R3.fr.len l2]; decide) (by decide) ?_
                refine Go.iload dLw_law_256 rfl ?_
                refine Go.i2l dLw_law_258 ?_
                refine Go.lcmp dLw_law_259 ?_
                refine Go.if_eq (tgt := 265) dLw_law_260 (by decide) (fun q4 => ?_) (fun q4 => ?_)
                · refine Go.goto (tgt := 771) dLw_law_265 (by decide) ?_
                  have hI2 : LI h11 := ⟨((nd, nt + 1), nw), _, K2.keep R3.fr, R3.st0, R3.fr.len l2, rfl, rfl⟩
                  refine Go.iinc (v := nI (i + 5)) dLw_law_771 (by decide) rfl (nI_inc5 _) rfl ?_
                  refine Go.goto (tgt := 23) dLw_law_774 (by decide) ?_
                  exact Go.weak (Go.wide (ih (i + 5) _ _ _ hI2 (by omega) (by omega)) (Nat.le_refl _) (by omega) (by omega))
                · exact absurd (by rw [R3.fr.2, hl]; exact lg_cmp_self _) q4
            · exact absurd q2 (by decide)
          · exact absurd (show nt = 12 from hn2) (by omega)
          · exact absurd ok ok2
        · have hn : nt = 12 := hn
          have K2 := K
          have R2 := R
          have l2 := l
          refine Go.istore dLw_law_205 (by decide) rfl ?_
          refine Go.aload_n dLw_law_207 rfl (Nat.ne_of_beq_eq_false rfl) ?_
          refine Go.aload_n dLw_law_208 rfl (Nat.ne_of_beq_eq_false rfl) ?_
          refine Go.iload dLw_law_209 rfl ?_
          refine Go.iconst (v := nI 1) dLw_law_211 (by decide) ?_
          refine Go.iadd dLw_law_212 ?_
          refine Go.cvt (v' := nI (i + 1)) (nI_add _ _) ?_
          refine Go.sald (jn := (i + 1)) dLw_law_213 rfl (show (i + 1) < L from by omega) (by omega) ?_
          refine Go.aload_n dLw_law_214 rfl (Nat.ne_of_beq_eq_false rfl) ?_
          refine Go.iload dLw_law_215 rfl ?_
          refine Go.iconst (v := nI 2) dLw_law_217 (by decide) ?_
          refine Go.iadd dLw_law_218 ?_
          refine Go.cvt (v' := nI (i + 2)) (nI_add _ _) ?_
          refine Go.sald (jn := (i + 2)) dLw_law_219 rfl (show (i + 2) < L from by omega) (by omega) ?_
          refine Go.aload_n dLw_law_220 rfl (Nat.ne_of_beq_eq_false rfl) ?_
          refine Go.iload dLw_law_221 rfl ?_
          refine Go.iconst (v := nI 3) dLw_law_223 (by decide) ?_
          refine Go.iadd dLw_law_224 ?_
          refine Go.cvt (v' := nI (i + 3)) (nI_add _ _) ?_
          refine Go.sald (jn := (i + 3)) dLw_law_225 rfl (show (i + 3) < L from by omega) (by omega) ?_
          refine Go.aload_n dLw_law_226 rfl (Nat.ne_of_beq_eq_false rfl) ?_
          refine Go.iload dLw_law_227 rfl ?_
          refine Go.iconst (v := nI 4) dLw_law_229 (by decide) ?_
          refine Go.iadd dLw_law_230 ?_
          refine Go.cvt (v' := nI (i + 4)) (nI_add _ _) ?_
          refine Go.sald (jn := (i + 4)) dLw_law_231 rfl (show (i + 4) < L from by omega) (by omega) ?_
          refine Go.cVp mMo_truck [vI (xs ((i + 1))), vI (xs ((i + 2))), vI (xs ((i + 3))), vI (xs ((i + 4)))] dLw_law_232 vwLw_80 (Nat.le_of_ble_eq_true rfl) rfl rfl (Nat.le_of_ble_eq_true rfl) rfl (Nat.le_of_ble_eq_true rfl) (g_Mo_truck (d := d + 20) R2 _ _ _ _) (fun v14 h15 q16 => ?_)
          rcases q16 with ⟨ok2, hn2, rfl, e0, R3⟩ | ⟨ok2, hn2, e0, R3⟩ | ⟨ok2, e0, R3⟩
          · exact absurd (show nt < 12 from hn2) (by omega)
          · refine Go.istore dLw_law_235 (by decide) rfl ?_
            refine Go.aload_n dLw_law_237 rfl (Nat.ne_of_beq_eq_false rfl) ?_
            refine Go.cVr mMo_thrown [] dLw_law_238 vwLw_81 (Nat.le_of_ble_eq_true rfl) rfl rfl (Nat.le_of_ble_eq_true rfl) rfl (Nat.le_of_ble_eq_true rfl) (w_Mo_thrown (d := d + 1) R3) (fun v17 e8 => ?_)
            refine Go.cvt (v' := nI 2) (e8.trans e0) ?_
            refine Go.iload dLw_law_241 rfl ?_
            refine Go.icmp_eq (tgt := 248) dLw_law_243 (by decide) (fun q5 => ?_) (fun q5 => ?_)
            · refine Go.iload dLw_law_248 rfl ?_
              refine Go.if_ne (tgt := 265) dLw_law_250 (by decide) (fun q6 => ?_) (fun q6 => ?_)
              · refine Go.goto (tgt := 771) dLw_law_265 (by decide) ?_
                have hI2 : LI h15 := ⟨_, _, K2.keep R3.fr, R3.st0, R3.fr.len l2, rfl, rfl⟩
                refine Go.iinc (v := nI (i + 5)) dLw_law_771 (by decide) rfl (nI_inc5 _) rfl ?_
                refine Go.goto (tgt := 23) dLw_law_774 (by decide) ?_
                exact Go.weak (Go.wide (ih (i + 5) _ _ _ hI2 (by omega) (by omega)) (Nat.le_refl _) (by omega) (by omega))
              · exact absurd q6 (by decide)
            · exact absurd q5 (by decide)
          · exact absurd ok ok2
        · have K2 := K
          have R2 := R
          have l2 := l
          refine Go.istore dLw_law_205 (by decide) rfl ?_
          refine Go.aload_n dLw_law_207 rfl (Nat.ne_of_beq_eq_false rfl) ?_
          refine Go.aload_n dLw_law_208 rfl (Nat.ne_of_beq_eq_false rfl) ?_
          refine Go.iload dLw_law_209 rfl ?_
          refine Go.iconst (v := nI 1) dLw_law_211 (by decide) ?_
          refine Go.iadd dLw_law_212 ?_
          refine Go.cvt (v' := nI (i + 1)) (nI_add _ _) ?_
          refine Go.sald (jn := (i + 1)) dLw_law_213 rfl (show (i + 1) < L from by omega) (by omega) ?_
          refine Go.aload_n dLw_law_214 rfl (Nat.ne_of_beq_eq_false rfl) ?_
          refine Go.iload dLw_law_215 rfl ?_
          refine Go.iconst (v := nI 2) dLw_law_217 (by decide) ?_
          refine Go.iadd dLw_law_218 ?_
          refine Go.cvt (v' := nI (i + 2)) (nI_add _ _) ?_
          refine Go.sald (jn := (i + 2)) dLw_law_219 rfl (show (i + 2) < L from by omega) (by omega) ?_
          refine Go.aload_n dLw_law_220 rfl (Nat.ne_of_beq_eq_false rfl) ?_
          refine Go.iload dLw_law_221 rfl ?_
          refine Go.iconst (v := nI 3) dLw_law_223 (by decide) ?_
          refine Go.iadd dLw_law_224 ?_
          refine Go.cvt (v' := nI (i + 3)) (nI_add _ _) ?_
          refine Go.sald (jn := (i + 3)) dLw_law_225 rfl (show (i + 3) < L from by omega) (by omega) ?_
          refine Go.aload_n dLw_law_226 rfl (Nat.ne_of_beq_eq_false rfl) ?_
          refine Go.iload dLw_law_227 rfl ?_
          refine Go.iconst (v := nI 4) dLw_law_229 (by decide) ?_
          refine Go.iadd dLw_law_230 ?_
          refine Go.cvt (v' := nI (i + 4)) (nI_add _ _) ?_
          refine Go.sald (jn := (i + 4)) dLw_law_231 rfl (show (i + 4) < L from by omega) (by omega) ?_
          refine Go.cVp mMo_truck [vI (xs ((i + 1))), vI (xs ((i + 2))), vI (xs ((i + 3))), vI (xs ((i + 4)))] dLw_law_232 vwLw_80 (Nat.le_of_ble_eq_true rfl) rfl rfl (Nat.le_of_ble_eq_true rfl) rfl (Nat.le_of_ble_eq_true rfl) (g_Mo_truck (d := d + 20) R2 _ _ _ _) (fun v18 h19 q20 => ?_)
          rcases q20 with ⟨ok2, hn2, rfl, e0, R3⟩ | ⟨ok2, hn2, e0, R3⟩ | ⟨ok2, e0, R3⟩
          · exact absurd ok2 ok
          · exact absurd ok2 ok
          · refine Go.istore dLw_law_235 (by decide) rfl ?_
            refine Go.aload_n dLw_law_237 rfl (Nat.ne_of_beq_eq_false rfl) ?_
            refine Go.cVr mMo_thrown [] dLw_law_238 vwLw_81 (Nat.le_of_ble_eq_true rfl) rfl rfl (Nat.le_of_ble_eq_true rfl) rfl (Nat.le_of_ble_eq_true rfl) (w_Mo_thrown (d := d + 1) R3) (fun v21 e8 => ?_)
            refine Go.cvt (v' := nI 1) (e8.trans e0) ?_
            refine Go.iload dLw_law_241 rfl ?_
            refine Go.icmp_eq (tgt := 248) dLw_law_243 (by decide) (fun q7 => ?_) (fun q7 => ?_)
            · refine Go.iload dLw_law_248 rfl ?_
              refine Go.if_ne (tgt := 265) dLw_law_250 (by decide) (fun q8 => ?_) (fun q8 => ?_)
              · refine Go.goto (tgt := 771) dLw_law_265 (by decide) ?_
                have hI2 : LI h19 := ⟨_, _, K2.keep R3.fr, R3.st0, R3.fr.len l2, rfl, rfl⟩
                refine Go.iinc (v := nI (i + 5)) dLw_law_771 (by decide) rfl (nI_inc5 _) rfl ?_
                refine Go.goto (tgt := 23) dLw_law_774 (by decide) ?_
                exact Go.weak (Go.wide (ih (i + 5) _ _ _ hI2 (by omega) (by omega)) (Nat.le_refl _) (by omega) (by omega))
              · exact absurd q8 (by decide)
            · exact absurd q7 (by decide)
      · rw [qs]
        refine Go.tabIn (off := 229) (tgt := 268) dLw_law_39 (by decide) (by decide) rfl (by decide) ?_
        refine Go.aload_n dLw_law_268 rfl (Nat.ne_of_beq_eq_false rfl) ?_
        refine Go.aload_n dLw_law_269 rfl (Nat.ne_of_beq_eq_false rfl) ?_
        refine Go.iload dLw_law_270 rfl ?_
        refine Go.iconst (v := nI 1) dLw_law_272 (by decide) ?_
        refine Go.iadd dLw_law_273 ?_
        refine Go.cvt (v' := nI (i + 1)) (nI_add _ _) ?_
        refine Go.sald (jn := (i + 1)) dLw_law_274 rfl (show (i + 1) < L from by omega) (by omega) ?_
        refine Go.aload_n dLw_law_275 rfl (Nat.ne_of_beq_eq_false rfl) ?_
        refine Go.cSb mLw_assign [vO 4 (0), vI (xs ((i + 1))), vO 101 0] dLw_law_276 vwLw_85 rfl rfl (Nat.le_of_ble_eq_true rfl) rfl (Nat.le_of_ble_eq_true rfl) (g_Lw_assign (d := d) K R l _) (fun v22 h23 q24 => ?_)
        obtain ⟨G2, K2, R2, l2, e3, e4⟩ := id q24
        refine Go.istore dLw_law_279 (by decide) rfl ?_
        refine Go.aload_n dLw_law_281 rfl (Nat.ne_of_beq_eq_false rfl) ?_
        refine Go.aload_n dLw_law_282 rfl (Nat.ne_of_beq_eq_false rfl) ?_
        refine Go.iload dLw_law_283 rfl ?_
        refine Go.iconst (v := nI 1) dLw_law_285 (by decide) ?_
        refine Go.iadd dLw_law_286 ?_
        refine Go.cvt (v' := nI (i + 1)) (nI_add _ _) ?_
        refine Go.sald (jn := (i + 1)) dLw_law_287 rfl (show (i + 1) < L from by omega) (by omega) ?_
        refine Go.cVp mMo_assign [vI (xs ((i + 1)))] dLw_law_288 vwLw_88 (Nat.le_of_ble_eq_true rfl) rfl rfl (Nat.le_of_ble_eq_true rfl) rfl (Nat.le_of_ble_eq_true rfl) (w_Mo_assign (d := d + 1) R2 _) (fun v25 h26 q27 => ?_)
        refine Go.istore dLw_law_291 (by decide) rfl ?_
        refine Go.goto (tgt := 771) dLw_law_293 (by decide) ?_
        have hI2 : LI h26 := q24.li q27 rfl rfl
        refine Go.iinc (v := nI (i + 5)) dLw_law_771 (by decide) rfl (nI_inc5 _) rfl ?_
        refine Go.goto (tgt := 23) dLw_law_774 (by decide) ?_
        exact Go.weak (Go.wide (ih (i + 5) _ _ _ hI2 (by omega) (by omega)) (Nat.le_refl _) (by omega) (by omega))
      · rw [qs]
        refine Go.tabIn (off := 257) (tgt := 296) dLw_law_39 (by decide) (by decide) rfl (by decide) ?_
        refine Go.aload_n dLw_law_296 rfl (Nat.ne_of_beq_eq_false rfl) ?_
        refine Go.cVr mBk_exact [] dLw_law_297 vwLw_89 (Nat.le_of_ble_eq_true rfl) rfl rfl (Nat.le_of_ble_eq_true rfl) rfl (Nat.le_of_ble_eq_true rfl) (w_Bk_exact (d := d + 1) K ) (fun v28 _ => ?_)
        have R2 := R
        refine Go.pop trivial dLw_law_300 ?_
        refine Go.aload_n dLw_law_301 rfl (Nat.ne_of_beq_eq_false rfl) ?_
        refine Go.cVp mMo_exact [] dLw_law_302 vwLw_93 (Nat.le_of_ble_eq_true rfl) rfl rfl (Nat.le_of_ble_eq_true rfl) rfl (Nat.le_of_ble_eq_true rfl) (w_Mo_exact (d := d + 1) R2 ) (fun v29 h30 q31 => ?_)
        refine Go.pop trivial dLw_law_305 ?_
        refine Go.goto (tgt := 771) dLw_law_306 (by decide) ?_
        have hI2 : LI h30 := ((KB.wb K).lp R l).li q31 rfl rfl
        refine Go.iinc (v := nI (i + 5)) dLw_law_771 (by decide) rfl (nI_inc5 _) rfl ?_
        refine Go.goto (tgt := 23) dLw_law_774 (by decide) ?_
        exact Go.weak (Go.wide (ih (i + 5) _ _ _ hI2 (by omega) (by omega)) (Nat.le_refl _) (by omega) (by omega))
      · rw [qs]
        refine Go.tabIn (off := 270) (tgt := 309) dLw_law_39 (by decide) (by decide) rfl (by decide) ?_
        refine Go.aload_n dLw_law_309 rfl (Nat.ne_of_beq_eq_false rfl) ?_
        refine Go.cVr mBk_moved [] dLw_law_310 vwLw_94 (Nat.le_of_ble_eq_true rfl) rfl rfl (Nat.le_of_ble_eq_true rfl) rfl (Nat.le_of_ble_eq_true rfl) (w_Bk_moved (d := d + 1) K ) (fun v32 _ => ?_)
        have R2 := R
        refine Go.pop trivial dLw_law_313 ?_
        refine Go.aload_n dLw_law_314 rfl (Nat.ne_of_beq_eq_false rfl) ?_
        refine Go.cVp mMo_moved [] dLw_law_315 vwLw_97 (Nat.le_of_ble_eq_true rfl) rfl rfl (Nat.le_of_ble_eq_true rfl) rfl (Nat.le_of_ble_eq_true rfl) (w_Mo_moved (d := d + 1) R2 ) (fun v33 h34 q35 => ?_)
        refine Go.pop trivial dLw_law_318 ?_
        refine Go.goto (tgt := 771) dLw_law_319 (by decide) ?_
        have hI2 : LI h34 := ((KB.wb K).lp R l).li q35 rfl rfl
        refine Go.iinc (v := nI (i + 5)) dLw_law_771 (by decide) rfl (nI_inc5 _) rfl ?_
        refine Go.goto (tgt := 23) dLw_law_774 (by decide) ?_
        exact Go.weak (Go.wide (ih (i + 5) _ _ _ hI2 (by omega) (by omega)) (Nat.le_refl _) (by omega) (by omega))
      · rw [qs]
        refine Go.tabIn (off := 283) (tgt := 322) dLw_law_39 (by decide) (by decide) rfl (by decide) ?_
        refine Go.aload_n dLw_law_322 rfl (Nat.ne_of_beq_eq_false rfl) ?_
        refine Go.cVr mBk_bound [] dLw_law_323 vwLw_98 (Nat.le_of_ble_eq_true rfl) rfl rfl (Nat.le_of_ble_eq_true rfl) rfl (Nat.le_of_ble_eq_true rfl) (w_Bk_bound (d := d + 1) K ) (fun v36 _ => ?_)
        have R2 := R
        refine Go.pop trivial dLw_law_326 ?_
        refine Go.aload_n dLw_law_327 rfl (Nat.ne_of_beq_eq_false rfl) ?_
        refine Go.cVp mMo_bound [] dLw_law_328 vwLw_101 (Nat.le_of_ble_eq_true rfl) rfl rfl (Nat.le_of_ble_eq_true rfl) rfl (Nat.le_of_ble_eq_true rfl) (w_Mo_bound (d := d + 1) R2 ) (fun v37 h38 q39 => ?_)
        refine Go.pop trivial dLw_law_331 ?_
        refine Go.goto (tgt := 771) dLw_law_332 (by decide) ?_
        have hI2 : LI h38 := ((KB.wb K).lp R l).li q39 rfl rfl
        refine Go.iinc (v := nI (i + 5)) dLw_law_771 (by decide) rfl (nI_inc5 _) rfl ?_
        refine Go.goto (tgt := 23) dLw_law_774 (by decide) ?_
        exact Go.weak (Go.wide (ih (i + 5) _ _ _ hI2 (by omega) (by omega)) (Nat.le_refl _) (by omega) (by omega))
      · rw [qs]
        refine Go.tabIn (off := 296) (tgt := 335) dLw_law_39 (by decide) (by decide) rfl (by decide) ?_
        refine Go.aload_n dLw_law_335 rfl (Nat.ne_of_beq_eq_false rfl) ?_
        refine Go.aload_n dLw_law_336 rfl (Nat.ne_of_beq_eq_false rfl) ?_
        refine Go.iload dLw_law_337 rfl ?_
        refine Go.iconst (v := nI 1) dLw_law_339 (by decide) ?_
        refine Go.iadd dLw_law_340 ?_
        refine Go.cvt (v' := nI (i + 1)) (nI_add _ _) ?_
        refine Go.sald (jn := (i + 1)) dLw_law_341 rfl (show (i + 1) < L from by omega) (by omega) ?_
        refine Go.cSb mLw_call [vO 4 (0), vI (xs ((i + 1)))] dLw_law_342 vwLw_102 rfl rfl (Nat.le_of_ble_eq_true rfl) rfl (Nat.le_of_ble_eq_true rfl) (g_Lw_call (d := d) K R l _) (fun v40 h41 q42 => ?_)
        obtain ⟨G2, K2, R2, l2, e3, e4⟩ := id q42
        refine Go.istore dLw_law_345 (by decide) rfl ?_
        refine Go.aload_n dLw_law_347 rfl (Nat.ne_of_beq_eq_false rfl) ?_
        refine Go.aload_n dLw_law_348 rfl (Nat.ne_of_beq_eq_false rfl) ?_
        refine Go.iload dLw_law_349 rfl ?_
        refine Go.iconst (v := nI 1) dLw_law_351 (by decide) ?_
        refine Go.iadd dLw_law_352 ?_
        refine Go.cvt (v' := nI (i + 1)) (nI_add _ _) ?_
        refine Go.sald (jn := (i + 1)) dLw_law_353 rfl (show (i + 1) < L from by omega) (by omega) ?_
        refine Go.cVn mMo_call [vI (xs ((i + 1)))] dLw_law_354 vwLw_105 (Nat.le_of_ble_eq_true rfl) rfl rfl (Nat.le_of_ble_eq_true rfl) rfl (Nat.le_of_ble_eq_true rfl) (w_Mo_call (d := d + 1) R2 _) (fun h44 q45 => ?_)
        refine Go.goto (tgt := 771) dLw_law_357 (by decide) ?_
        have hI2 : LI h44 := q42.li q45 rfl rfl
        refine Go.iinc (v := nI (i + 5)) dLw_law_771 (by decide) rfl (nI_inc5 _) rfl ?_
        refine Go.goto (tgt := 23) dLw_law_774 (by decide) ?_
        exact Go.weak (Go.wide (ih (i + 5) _ _ _ hI2 (by omega) (by omega)) (Nat.le_refl _) (by omega) (by omega))
      · rw [qs]
        refine Go.tabIn (off := 321) (tgt := 360) dLw_law_39 (by decide) (by decide) rfl (by decide) ?_
        refine Go.aload_n dLw_law_360 rfl (Nat.ne_of_beq_eq_false rfl) ?_
        refine Go.aload_n dLw_law_361 rfl (Nat.ne_of_beq_eq_false rfl) ?_
        refine Go.iload dLw_law_362 rfl ?_
        refine Go.iconst (v := nI 1) dLw_law_364 (by decide) ?_
        refine Go.iadd dLw_law_365 ?_
        refine Go.cvt (v' := nI (i + 1)) (nI_add _ _) ?_
        refine Go.sald (jn := (i + 1)) dLw_law_366 rfl (show (i + 1) < L from by omega) (by omega) ?_
        refine Go.aload_n dLw_law_367 rfl (Nat.ne_of_beq_eq_false rfl) ?_
        refine Go.iload dLw_law_368 rfl ?_
        refine Go.iconst (v := nI 2) dLw_law_370 (by decide) ?_
        refine Go.iadd dLw_law_371 ?_
        refine Go.cvt (v' := nI (i + 2)) (nI_add _ _) ?_
        refine Go.sald (jn := (i + 2)) dLw_law_372 rfl (show (i + 2) < L from by omega) (by omega) ?_
        refine Go.aload_n dLw_law_373 rfl (Nat.ne_of_beq_eq_false rfl) ?_
        refine Go.cSb mLw_seal [vO 4 (0), vI (xs ((i + 1))), vI (xs ((i + 2))), vO 101 0] dLw_law_374 vwLw_106 rfl rfl (Nat.le_of_ble_eq_true rfl) rfl (Nat.le_of_ble_eq_true rfl) (g_Lw_seal (d := d) K R l _ _) (fun v46 h47 q48 => ?_)
        obtain ⟨G2, K2, R2, l2, e3, e4⟩ := id q48
        refine Go.istore dLw_law_377 (by decide) rfl ?_
        refine Go.aload_n dLw_law_379 rfl (Nat.ne_of_beq_eq_false rfl) ?_
        refine Go.aload_n dLw_law_380 rfl (Nat.ne_of_beq_eq_false rfl) ?_
        refine Go.iload dLw_law_381 rfl ?_
        refine Go.iconst (v := nI 1) dLw_law_383 (by decide) ?_
        refine Go.iadd dLw_law_384 ?_
        refine Go.cvt (v' := nI (i + 1)) (nI_add _ _) ?_
        refine Go.sald (jn := (i + 1)) dLw_law_385 rfl (show (i + 1) < L from by omega) (by omega) ?_
        refine Go.aload_n dLw_law_386 rfl (Nat.ne_of_beq_eq_false rfl) ?_
        refine Go.iload dLw_law_387 rfl ?_
        refine Go.iconst (v := nI 2) dLw_law_389 (by decide) ?_
        refine Go.iadd dLw_law_390 ?_
        refine Go.cvt (v' := nI (i + 2)) (nI_add _ _) ?_
        refine Go.sald (jn := (i + 2)) dLw_law_391 rfl (show (i + 2) < L from by omega) (by omega) ?_
        refine Go.cVp mMo_seal [vI (xs ((i + 1))), vI (xs ((i + 2)))] dLw_law_392 vwLw_109 (Nat.le_of_ble_eq_true rfl) rfl rfl (Nat.le_of_ble_eq_true rfl) rfl (Nat.le_of_ble_eq_true rfl) (w_Mo_seal (d := d + 1) R2 _ _) (fun v49 h50 q51 => ?_)
        refine Go.istore dLw_law_395 (by decide) rfl ?_
        refine Go.goto (tgt := 771) dLw_law_397 (by decide) ?_
        have hI2 : LI h50 := q48.li q51 rfl rfl
        refine Go.iinc (v := nI (i + 5)) dLw_law_771 (by decide) rfl (nI_inc5 _) rfl ?_
        refine Go.goto (tgt := 23) dLw_law_774 (by decide) ?_
        exact Go.weak (Go.wide (ih (i + 5) _ _ _ hI2 (by omega) (by omega)) (Nat.le_refl _) (by omega) (by omega))
      · rw [qs]
        refine Go.tabIn (off := 361) (tgt := 400) dLw_law_39 (by decide) (by decide) rfl (by decide) ?_
        refine Go.aload_n dLw_law_400 rfl (Nat.ne_of_beq_eq_false rfl) ?_
        refine Go.aload_n dLw_law_401 rfl (Nat.ne_of_beq_eq_false rfl) ?_
        refine Go.iload dLw_law_402 rfl ?_
        refine Go.iconst (v := nI 1) dLw_law_404 (by decide) ?_
        refine Go.iadd dLw_law_405 ?_
        refine Go.cvt (v' := nI (i + 1)) (nI_add _ _) ?_
        refine Go.sald (jn := (i + 1)) dLw_law_406 rfl (show (i + 1) < L from by omega) (by omega) ?_
        refine Go.aload_n dLw_law_407 rfl (Nat.ne_of_beq_eq_false rfl) ?_
        refine Go.iload dLw_law_408 rfl ?_
        refine Go.iconst (v := nI 2) dLw_law_410 (by decide) ?_
        refine Go.iadd dLw_law_411 ?_
        refine Go.cvt (v' := nI (i + 2)) (nI_add _ _) ?_
        refine Go.sald (jn := (i + 2)) dLw_law_412 rfl (show (i + 2) < L from by omega) (by omega) ?_
        refine Go.aload_n dLw_law_413 rfl (Nat.ne_of_beq_eq_false rfl) ?_
        refine Go.iload dLw_law_414 rfl ?_
        refine Go.iconst (v := nI 3) dLw_law_416 (by decide) ?_
        refine Go.iadd dLw_law_417 ?_
        refine Go.cvt (v' := nI (i + 3)) (nI_add _ _) ?_
        refine Go.sald (jn := (i + 3)) dLw_law_418 rfl (show (i + 3) < L from by omega) (by omega) ?_
        refine Go.aload_n dLw_law_419 rfl (Nat.ne_of_beq_eq_false rfl) ?_
        refine Go.cSb mLw_load [vO 4 (0), vI (xs ((i + 1))), vI (xs ((i + 2))), vI (xs ((i + 3))), vO 101 0] dLw_law_420 vwLw_110 rfl rfl (Nat.le_of_ble_eq_true rfl) rfl (Nat.le_of_ble_eq_true rfl) (g_Lw_load (d := d) K R l _ _ _) (fun v52 h53 q54 => ?_)
        obtain ⟨G2, K2, R2, l2, e3, e4⟩ := id q54
        refine Go.istore dLw_law_423 (by decide) rfl ?_
        refine Go.aload_n dLw_law_425 rfl (Nat.ne_of_beq_eq_false rfl) ?_
        refine Go.aload_n dLw_law_426 rfl (Nat.ne_of_beq_eq_false rfl) ?_
        refine Go.iload dLw_law_427 rfl ?_
        refine Go.iconst (v := nI 1) dLw_law_429 (by decide) ?_
        refine Go.iadd dLw_law_430 ?_
        refine Go.cvt (v' := nI (i + 1)) (nI_add _ _) ?_
        refine Go.sald (jn := (i + 1)) dLw_law_431 rfl (show (i + 1) < L from by omega) (by omega) ?_
        refine Go.aload_n dLw_law_432 rfl (Nat.ne_of_beq_eq_false rfl) ?_
        refine Go.iload dLw_law_433 rfl ?_
        refine Go.iconst (v := nI 2) dLw_law_435 (by decide) ?_
        refine Go.iadd dLw_law_436 ?_
        refine Go.cvt (v' := nI (i + 2)) (nI_add _ _) ?_
        refine Go.sald (jn := (i + 2)) dLw_law_437 rfl (show (i + 2) < L from by omega) (by omega) ?_
        refine Go.aload_n dLw_law_438 rfl (Nat.ne_of_beq_eq_false rfl) ?_
        refine Go.iload dLw_law_439 rfl ?_
        refine Go.iconst (v := nI 3) dLw_law_441 (by decide) ?_
        refine Go.iadd dLw_law_442 ?_
        refine Go.cvt (v' := nI (i + 3)) (nI_add _ _) ?_
        refine Go.sald (jn := (i + 3)) dLw_law_443 rfl (show (i + 3) < L from by omega) (by omega) ?_
        refine Go.cVp mMo_load [vI (xs ((i + 1))), vI (xs ((i + 2))), vI (xs ((i + 3)))] dLw_law_444 vwLw_112 (Nat.le_of_ble_eq_true rfl) rfl rfl (Nat.le_of_ble_eq_true rfl) rfl (Nat.le_of_ble_eq_true rfl) (w_Mo_load (d := d + 1) R2 _ _ _) (fun v55 h56 q57 => ?_)
        refine Go.istore dLw_law_447 (by decide) rfl ?_
        refine Go.goto (tgt := 771) dLw_law_449 (by decide) ?_
        have hI2 : LI h56 := q54.li q57 rfl rfl
        refine Go.iinc (v := nI (i + 5)) dLw_law_771 (by decide) rfl (nI_inc5 _) rfl ?_
        refine Go.goto (tgt := 23) dLw_law_774 (by decide) ?_
        exact Go.weak (Go.wide (ih (i + 5) _ _ _ hI2 (by omega) (by omega)) (Nat.le_refl _) (by omega) (by omega))
      · rw [qs]
        refine Go.tabIn (off := 413) (tgt := 452) dLw_law_39 (by decide) (by decide) rfl (by decide) ?_
        refine Go.aload_n dLw_law_452 rfl (Nat.ne_of_beq_eq_false rfl) ?_
        refine Go.aload_n dLw_law_453 rfl (Nat.ne_of_beq_eq_false rfl) ?_
        refine Go.iload dLw_law_454 rfl ?_
        refine Go.iconst (v := nI 1) dLw_law_456 (by decide) ?_
        refine Go.iadd dLw_law_457 ?_
        refine Go.cvt (v' := nI (i + 1)) (nI_add _ _) ?_
        refine Go.sald (jn := (i + 1)) dLw_law_458 rfl (show (i + 1) < L from by omega) (by omega) ?_
        refine Go.aload_n dLw_law_459 rfl (Nat.ne_of_beq_eq_false rfl) ?_
        refine Go.cSb mLw_depart [vO 4 (0), vI (xs ((i + 1))), vO 101 0] dLw_law_460 vwLw_113 rfl rfl (Nat.le_of_ble_eq_true rfl) rfl (Nat.le_of_ble_eq_true rfl) (g_Lw_depart (d := d) K R l _) (fun v58 h59 q60 => ?_)
        obtain ⟨G2, K2, R2, l2, e3, e4⟩ := id q60
        refine Go.istore dLw_law_463 (by decide) rfl ?_
        refine Go.aload_n dLw_law_465 rfl (Nat.ne_of_beq_eq_false rfl) ?_
        refine Go.aload_n dLw_law_466 rfl (Nat.ne_of_beq_eq_false rfl) ?_
        refine Go.iload dLw_law_467 rfl ?_
        refine Go.iconst (v := nI 1) dLw_law_469 (by decide) ?_
        refine Go.iadd dLw_law_470 ?_
        refine Go.cvt (v' := nI (i + 1)) (nI_add _ _) ?_
        refine Go.sald (jn := (i + 1)) dLw_law_471 rfl (show (i + 1) < L from by omega) (by omega) ?_
        refine Go.cVp mMo_depart [vI (xs ((i + 1)))] dLw_law_472 vwLw_115 (Nat.le_of_ble_eq_true rfl) rfl rfl (Nat.le_of_ble_eq_true rfl) rfl (Nat.le_of_ble_eq_true rfl) (w_Mo_depart (d := d + 1) R2 _) (fun v61 h62 q63 => ?_)
        refine Go.istore dLw_law_475 (by decide) rfl ?_
        refine Go.goto (tgt := 771) dLw_law_477 (by decide) ?_
        have hI2 : LI h62 := q60.li q63 rfl rfl
        refine Go.iinc (v := nI (i + 5)) dLw_law_771 (by decide) rfl (nI_inc5 _) rfl ?_
        refine Go.goto (tgt := 23) dLw_law_774 (by decide) ?_
        exact Go.weak (Go.wide (ih (i + 5) _ _ _ hI2 (by omega) (by omega)) (Nat.le_refl _) (by omega) (by omega))
      · rw [qs]
        refine Go.tabIn (off := 441) (tgt := 480) dLw_law_39 (by decide) (by decide) rfl (by decide) ?_
        refine Go.aload_n dLw_law_480 rfl (Nat.ne_of_beq_eq_false rfl) ?_
        refine Go.aload_n dLw_law_481 rfl (Nat.ne_of_beq_eq_false rfl) ?_
        refine Go.iload dLw_law_482 rfl ?_
        refine Go.iconst (v := nI 1) dLw_law_484 (by decide) ?_
        refine Go.iadd dLw_law_485 ?_
        refine Go.cvt (v' := nI (i + 1)) (nI_add _ _) ?_
        refine Go.sald (jn := (i + 1)) dLw_law_486 rfl (show (i + 1) < L from by omega) (by omega) ?_
        refine Go.aload_n dLw_law_487 rfl (Nat.ne_of_beq_eq_false rfl) ?_
        refine Go.iload dLw_law_488 rfl ?_
        refine Go.iconst (v := nI 2) dLw_law_490 (by decide) ?_
        refine Go.iadd dLw_law_491 ?_
        refine Go.cvt (v' := nI (i + 2)) (nI_add _ _) ?_
        refine Go.sald (jn := (i + 2)) dLw_law_492 rfl (show (i + 2) < L from by omega) (by omega) ?_
        refine Go.aload_n dLw_law_493 rfl (Nat.ne_of_beq_eq_false rfl) ?_
        refine Go.cSb mLw_late [vO 4 (0), vI (xs ((i + 1))), vI (xs ((i + 2))), vO 101 0] dLw_law_494 vwLw_116 rfl rfl (Nat.le_of_ble_eq_true rfl) rfl (Nat.le_of_ble_eq_true rfl) (g_Lw_late (d := d) K R l _ _) (fun v64 h65 q66 => ?_)
        obtain ⟨G2, K2, R2, l2, e3, e4⟩ := id q66
        refine Go.istore dLw_law_497 (by decide) rfl ?_
        refine Go.aload_n dLw_law_499 rfl (Nat.ne_of_beq_eq_false rfl) ?_
        refine Go.aload_n dLw_law_500 rfl (Nat.ne_of_beq_eq_false rfl) ?_
        refine Go.iload dLw_law_501 rfl ?_
        refine Go.iconst (v := nI 1) dLw_law_503 (by decide) ?_
        refine Go.iadd dLw_law_504 ?_
        refine Go.cvt (v' := nI (i + 1)) (nI_add _ _) ?_
        refine Go.sald (jn := (i + 1)) dLw_law_505 rfl (show (i + 1) < L from by omega) (by omega) ?_
        refine Go.aload_n dLw_law_506 rfl (Nat.ne_of_beq_eq_false rfl) ?_
        refine Go.iload dLw_law_507 rfl ?_
        refine Go.iconst (v := nI 2) dLw_law_509 (by decide) ?_
        refine Go.iadd dLw_law_510 ?_
        refine Go.cvt (v' := nI (i + 2)) (nI_add _ _) ?_
        refine Go.sald (jn := (i + 2)) dLw_law_511 rfl (show (i + 2) < L from by omega) (by omega) ?_
        refine Go.cVp mMo_late [vI (xs ((i + 1))), vI (xs ((i + 2)))] dLw_law_512 vwLw_118 (Nat.le_of_ble_eq_true rfl) rfl rfl (Nat.le_of_ble_eq_true rfl) rfl (Nat.le_of_ble_eq_true rfl) (w_Mo_late (d := d + 1) R2 _ _) (fun v67 h68 q69 => ?_)
        refine Go.istore dLw_law_515 (by decide) rfl ?_
        refine Go.goto (tgt := 771) dLw_law_517 (by decide) ?_
        have hI2 : LI h68 := q66.li q69 rfl rfl
        refine Go.iinc (v := nI (i + 5)) dLw_law_771 (by decide) rfl (nI_inc5 _) rfl ?_
        refine Go.goto (tgt := 23) dLw_law_774 (by decide) ?_
        exact Go.weak (Go.wide (ih (i + 5) _ _ _ hI2 (by omega) (by omega)) (Nat.le_refl _) (by omega) (by omega))
      · rw [qs]
        refine Go.tabIn (off := 481) (tgt := 520) dLw_law_39 (by decide) (by decide) rfl (by decide) ?_
        refine Go.aload_n dLw_law_520 rfl (Nat.ne_of_beq_eq_false rfl) ?_
        refine Go.aload_n dLw_law_521 rfl (Nat.ne_of_beq_eq_false rfl) ?_
        refine Go.iload dLw_law_522 rfl ?_
        refine Go.iconst (v := nI 1) dLw_law_524 (by decide) ?_
        refine Go.iadd dLw_law_525 ?_
        refine Go.cvt (v' := nI (i + 1)) (nI_add _ _) ?_
        refine Go.sald (jn := (i + 1)) dLw_law_526 rfl (show (i + 1) < L from by omega) (by omega) ?_
        refine Go.cSb mLw_cancel [vO 4 (0), vI (xs ((i + 1)))] dLw_law_527 vwLw_119 rfl rfl (Nat.le_of_ble_eq_true rfl) rfl (Nat.le_of_ble_eq_true rfl) (g_Lw_cancel (d := d) K R l _) (fun v70 h71 q72 => ?_)
        obtain ⟨G2, K2, R2, l2, e3, e4⟩ := id q72
        refine Go.istore dLw_law_530 (by decide) rfl ?_
        refine Go.aload_n dLw_law_532 rfl (Nat.ne_of_beq_eq_false rfl) ?_
        refine Go.aload_n dLw_law_533 rfl (Nat.ne_of_beq_eq_false rfl) ?_
        refine Go.iload dLw_law_534 rfl ?_
        refine Go.iconst (v := nI 1) dLw_law_536 (by decide) ?_
        refine Go.iadd dLw_law_537 ?_
        refine Go.cvt (v' := nI (i + 1)) (nI_add _ _) ?_
        refine Go.sald (jn := (i + 1)) dLw_law_538 rfl (show (i + 1) < L from by omega) (by omega) ?_
        refine Go.cVn mMo_cancel [vI (xs ((i + 1)))] dLw_law_539 vwLw_121 (Nat.le_of_ble_eq_true rfl) rfl rfl (Nat.le_of_ble_eq_true rfl) rfl (Nat.le_of_ble_eq_true rfl) (w_Mo_cancel (d := d + 1) R2 _) (fun h74 q75 => ?_)
        refine Go.goto (tgt := 771) dLw_law_542 (by decide) ?_
        have hI2 : LI h74 := q72.li q75 rfl rfl
        refine Go.iinc (v := nI (i + 5)) dLw_law_771 (by decide) rfl (nI_inc5 _) rfl ?_
        refine Go.goto (tgt := 23) dLw_law_774 (by decide) ?_
        exact Go.weak (Go.wide (ih (i + 5) _ _ _ hI2 (by omega) (by omega)) (Nat.le_refl _) (by omega) (by omega))
      · rw [qs]
        refine Go.tabIn (off := 506) (tgt := 545) dLw_law_39 (by decide) (by decide) rfl (by decide) ?_
        refine Go.aload_n dLw_law_545 rfl (Nat.ne_of_beq_eq_false rfl) ?_
        refine Go.aload_n dLw_law_546 rfl (Nat.ne_of_beq_eq_false rfl) ?_
        refine Go.iload dLw_law_547 rfl ?_
        refine Go.iconst (v := nI 1) dLw_law_549 (by decide) ?_
        refine Go.iadd dLw_law_550 ?_
        refine Go.cvt (v' := nI (i + 1)) (nI_add _ _) ?_
        refine Go.sald (jn := (i + 1)) dLw_law_551 rfl (show (i + 1) < L from by omega) (by omega) ?_
        refine Go.aload_n dLw_law_552 rfl (Nat.ne_of_beq_eq_false rfl) ?_
        refine Go.iload dLw_law_553 rfl ?_
        refine Go.iconst (v := nI 2) dLw_law_555 (by decide) ?_
        refine Go.iadd dLw_law_556 ?_
        refine Go.cvt (v' := nI (i + 2)) (nI_add _ _) ?_
        refine Go.sald (jn := (i + 2)) dLw_law_557 rfl (show (i + 2) < L from by omega) (by omega) ?_
        refine Go.if_eq (tgt := 565) dLw_law_558 (by decide) (fun q9 => ?_) (fun q9 => ?_)
        · refine Go.iconst (v := nI 0) dLw_law_565 (by decide) ?_
          refine Go.aload_n dLw_law_566 rfl (Nat.ne_of_beq_eq_false rfl) ?_
          refine Go.cSb mLw_out [vO 4 (0), vI (xs ((i + 1))), vI (nI (0)), vO 101 0] dLw_law_567 vwLw_122 rfl rfl (Nat.le_of_ble_eq_true rfl) rfl (Nat.le_of_ble_eq_true rfl) (g_Lw_out (d := d) K R l _ _ (Or.inl rfl)) (fun v76 h77 q78 => ?_)
          obtain ⟨G2, K2, R2, l2, e3, e4⟩ := id q78
          refine Go.istore dLw_law_570 (by decide) rfl ?_
          refine Go.aload_n dLw_law_572 rfl (Nat.ne_of_beq_eq_false rfl) ?_
          refine Go.aload_n dLw_law_573 rfl (Nat.ne_of_beq_eq_false rfl) ?_
          refine Go.iload dLw_law_574 rfl ?_
          refine Go.iconst (v := nI 1) dLw_law_576 (by decide) ?_
          refine Go.iadd dLw_law_577 ?_
          refine Go.cvt (v' := nI (i + 1)) (nI_add _ _) ?_
          refine Go.sald (jn := (i + 1)) dLw_law_578 rfl (show (i + 1) < L from by omega) (by omega) ?_
          refine Go.aload_n dLw_law_579 rfl (Nat.ne_of_beq_eq_false rfl) ?_
          refine Go.iload dLw_law_580 rfl ?_
          refine Go.iconst (v := nI 2) dLw_law_582 (by decide) ?_
          refine Go.iadd dLw_law_583 ?_
          refine Go.cvt (v' := nI (i + 2)) (nI_add _ _) ?_
          refine Go.sald (jn := (i + 2)) dLw_law_584 rfl (show (i + 2) < L from by omega) (by omega) ?_
          refine Go.if_eq (tgt := 592) dLw_law_585 (by decide) (fun q10 => ?_) (fun q10 => ?_)
          · refine Go.iconst (v := nI 0) dLw_law_592 (by decide) ?_
            refine Go.cVp mMo_out [vI (xs ((i + 1))), vI (nI (0))] dLw_law_593 vwLw_125 (Nat.le_of_ble_eq_true rfl) rfl rfl (Nat.le_of_ble_eq_true rfl) rfl (Nat.le_of_ble_eq_true rfl) (w_Mo_out (d := d + 1) R2 _ _ (Or.inl rfl)) (fun v79 h80 q81 => ?_)
            refine Go.istore dLw_law_596 (by decide) rfl ?_
            refine Go.goto (tgt := 771) dLw_law_598 (by decide) ?_
            have hI2 : LI h80 := q78.li q81 rfl rfl
            refine Go.iinc (v := nI (i + 5)) dLw_law_771 (by decide) rfl (nI_inc5 _) rfl ?_
            refine Go.goto (tgt := 23) dLw_law_774 (by decide) ?_
            exact Go.weak (Go.wide (ih (i + 5) _ _ _ hI2 (by omega) (by omega)) (Nat.le_refl _) (by omega) (by omega))
          · refine Go.iconst (v := nI 1) dLw_law_588 (by decide) ?_
            refine Go.goto (tgt := 593) dLw_law_589 (by decide) ?_
            refine Go.cVp mMo_out [vI (xs ((i + 1))), vI (nI (1))] dLw_law_593 vwLw_125 (Nat.le_of_ble_eq_true rfl) rfl rfl (Nat.le_of_ble_eq_true rfl) rfl (Nat.le_of_ble_eq_true rfl) (w_Mo_out (d := d + 1) R2 _ _ (Or.inr rfl)) (fun v82 h83 q84 => ?_)
            refine Go.istore dLw_law_596 (by decide) rfl ?_
            refine Go.goto (tgt := 771) dLw_law_598 (by decide) ?_
            have hI2 : LI h83 := q78.li q84 rfl rfl
            refine Go.iinc (v := nI (i + 5)) dLw_law_771 (by decide) rfl (nI_inc5 _) rfl ?_
            refine Go.goto (tgt := 23) dLw_law_774 (by decide) ?_
            exact Go.weak (Go.wide (ih (i + 5) _ _ _ hI2 (by omega) (by omega)) (Nat.le_refl _) (by omega) (by omega))
        · refine Go.iconst (v := nI 1) dLw_law_561 (by decide) ?_
          refine Go.goto (tgt := 566) dLw_law_562 (by decide) ?_
          refine Go.aload_n dLw_law_566 rfl (Nat.ne_of_beq_eq_false rfl) ?_
          refine Go.cSb mLw_out [vO 4 (0), vI (xs ((i + 1))), vI (nI (1)), vO 101 0] dLw_law_567 vwLw_122 rfl rfl (Nat.le_of_ble_eq_true rfl) rfl (Nat.le_of_ble_eq_true rfl) (g_Lw_out (d := d) K R l _ _ (Or.inr rfl)) (fun v85 h86 q87 => ?_)
          obtain ⟨G2, K2, R2, l2, e3, e4⟩ := id q87
          refine Go.istore dLw_law_570 (by decide) rfl ?_
          refine Go.aload_n dLw_law_572 rfl (Nat.ne_of_beq_eq_false rfl) ?_
          refine Go.aload_n dLw_law_573 rfl (Nat.ne_of_beq_eq_false rfl) ?_
          refine Go.iload dLw_law_574 rfl ?_
          refine Go.iconst (v := nI 1) dLw_law_576 (by decide) ?_
          refine Go.iadd dLw_law_577 ?_
          refine Go.cvt (v' := nI (i + 1)) (nI_add _ _) ?_
          refine Go.sald (jn := (i + 1)) dLw_law_578 rfl (show (i + 1) < L from by omega) (by omega) ?_
          refine Go.aload_n dLw_law_579 rfl (Nat.ne_of_beq_eq_false rfl) ?_
          refine Go.iload dLw_law_580 rfl ?_
          refine Go.iconst (v := nI 2) dLw_law_582 (by decide) ?_
          refine Go.iadd dLw_law_583 ?_
          refine Go.cvt (v' := nI (i + 2)) (nI_add _ _) ?_
          refine Go.sald (jn := (i + 2)) dLw_law_584 rfl (show (i + 2) < L from by omega) (by omega) ?_
          refine Go.if_eq (tgt := 592) dLw_law_585 (by decide) (fun q11 => ?_) (fun q11 => ?_)
          · refine Go.iconst (v := nI 0) dLw_law_592 (by decide) ?_
            refine Go.cVp mMo_out [vI (xs ((i + 1))), vI (nI (0))] dLw_law_593 vwLw_125 (Nat.le_of_ble_eq_true rfl) rfl rfl (Nat.le_of_ble_eq_true rfl) rfl (Nat.le_of_ble_eq_true rfl) (w_Mo_out (d := d + 1) R2 _ _ (Or.inl rfl)) (fun v88 h89 q90 => ?_)
            refine Go.istore dLw_law_596 (by decide) rfl ?_
            refine Go.goto (tgt := 771) dLw_law_598 (by decide) ?_
            have hI2 : LI h89 := q87.li q90 rfl rfl
            refine Go.iinc (v := nI (i + 5)) dLw_law_771 (by decide) rfl (nI_inc5 _) rfl ?_
            refine Go.goto (tgt := 23) dLw_law_774 (by decide) ?_
            exact Go.weak (Go.wide (ih (i + 5) _ _ _ hI2 (by omega) (by omega)) (Nat.le_refl _) (by omega) (by omega))
          · refine Go.iconst (v := nI 1) dLw_law_588 (by decide) ?_
            refine Go.goto (tgt := 593) dLw_law_589 (by decide) ?_
            refine Go.cVp mMo_out [vI (xs ((i + 1))), vI (nI (1))] dLw_law_593 vwLw_125 (Nat.le_of_ble_eq_true rfl) rfl rfl (Nat.le_of_ble_eq_true rfl) rfl (Nat.le_of_ble_eq_true rfl) (w_Mo_out (d := d + 1) R2 _ _ (Or.inr rfl)) (fun v91 h92 q93 => ?_)
            refine Go.istore dLw_law_596 (by decide) rfl ?_
            refine Go.goto (tgt := 771) dLw_law_598 (by decide) ?_
            have hI2 : LI h92 := q87.li q93 rfl rfl
            refine Go.iinc (v := nI (i + 5)) dLw_law_771 (by decide) rfl (nI_inc5 _) rfl ?_
            refine Go.goto (tgt := 23) dLw_law_774 (by decide) ?_
            exact Go.weak (Go.wide (ih (i + 5) _ _ _ hI2 (by omega) (by omega)) (Nat.le_refl _) (by omega) (by omega))
      · rw [qs]
        refine Go.tabIn (off := 562) (tgt := 601) dLw_law_39 (by decide) (by decide) rfl (by decide) ?_
        refine Go.aload_n dLw_law_601 rfl (Nat.ne_of_beq_eq_false rfl) ?_
        refine Go.aload_n dLw_law_602 rfl (Nat.ne_of_beq_eq_false rfl) ?_
        refine Go.iload dLw_law_603 rfl ?_
        refine Go.iconst (v := nI 1) dLw_law_605 (by decide) ?_
        refine Go.iadd dLw_law_606 ?_
        refine Go.cvt (v' := nI (i + 1)) (nI_add _ _) ?_
        refine Go.sald (jn := (i + 1)) dLw_law_607 rfl (show (i + 1) < L from by omega) (by omega) ?_
        refine Go.cSb mLw_pass [vO 4 (0), vI (xs ((i + 1)))] dLw_law_608 vwLw_126 rfl rfl (Nat.le_of_ble_eq_true rfl) rfl (Nat.le_of_ble_eq_true rfl) (g_Lw_pass (d := d) K R l _) (fun v94 h95 q96 => ?_)
        rcases q96 with ⟨ok, rfl, K2, R2, l2⟩ | ⟨ok, rfl, rfl⟩
        · refine Go.istore dLw_law_611 (by decide) rfl ?_
          refine Go.aload_n dLw_law_613 rfl (Nat.ne_of_beq_eq_false rfl) ?_
          refine Go.aload_n dLw_law_614 rfl (Nat.ne_of_beq_eq_false rfl) ?_
          refine Go.iload dLw_law_615 rfl ?_
          refine Go.iconst (v := nI 1) dLw_law_617 (by decide) ?_
          refine Go.iadd dLw_law_618 ?_
          refine Go.cvt (v' := nI (i + 1)) (nI_add _ _) ?_
          refine Go.sald (jn := (i + 1)) dLw_law_619 rfl (show (i + 1) < L from by omega) (by omega) ?_
          refine Go.cVn mMo_pass [vI (xs ((i + 1)))] dLw_law_620 vwLw_128 (Nat.le_of_ble_eq_true rfl) rfl rfl (Nat.le_of_ble_eq_true rfl) rfl (Nat.le_of_ble_eq_true rfl) (g_Mo_pass (d := d + 21) R2 _) (fun h98 q99 => ?_)
          rcases q99 with ⟨ok2, R3, e0⟩ | ⟨ok2, R3, e0⟩
          · refine Go.goto (tgt := 771) dLw_law_623 (by decide) ?_
            have hI2 : LI h98 := ⟨_, _, K2.keep R3.fr, R3.st0, R3.fr.len l2, rfl, rfl⟩
            refine Go.iinc (v := nI (i + 5)) dLw_law_771 (by decide) rfl (nI_inc5 _) rfl ?_
            refine Go.goto (tgt := 23) dLw_law_774 (by decide) ?_
            exact Go.weak (Go.wide (ih (i + 5) _ _ _ hI2 (by omega) (by omega)) (Nat.le_refl _) (by omega) (by omega))
          · exact absurd ok ok2
        · have K2 := K
          have R2 := R
          have l2 := l
          refine Go.istore dLw_law_611 (by decide) rfl ?_
          refine Go.aload_n dLw_law_613 rfl (Nat.ne_of_beq_eq_false rfl) ?_
          refine Go.aload_n dLw_law_614 rfl (Nat.ne_of_beq_eq_false rfl) ?_
          refine Go.iload dLw_law_615 rfl ?_
          refine Go.iconst (v := nI 1) dLw_law_617 (by decide) ?_
          refine Go.iadd dLw_law_618 ?_
          refine Go.cvt (v' := nI (i + 1)) (nI_add _ _) ?_
          refine Go.sald (jn := (i + 1)) dLw_law_619 rfl (show (i + 1) < L from by omega) (by omega) ?_
          refine Go.cVn mMo_pass [vI (xs ((i + 1)))] dLw_law_620 vwLw_128 (Nat.le_of_ble_eq_true rfl) rfl rfl (Nat.le_of_ble_eq_true rfl) rfl (Nat.le_of_ble_eq_true rfl) (g_Mo_pass (d := d + 21) R2 _) (fun h101 q102 => ?_)
          rcases q102 with ⟨ok2, R3, e0⟩ | ⟨ok2, R3, e0⟩
          · exact absurd ok2 ok
          · refine Go.goto (tgt := 771) dLw_law_623 (by decide) ?_
            have hI2 : LI h101 := ⟨_, _, K2.keep R3.fr, R3.st0, R3.fr.len l2, rfl, rfl⟩
            refine Go.iinc (v := nI (i + 5)) dLw_law_771 (by decide) rfl (nI_inc5 _) rfl ?_
            refine Go.goto (tgt := 23) dLw_law_774 (by decide) ?_
            exact Go.weak (Go.wide (ih (i + 5) _ _ _ hI2 (by omega) (by omega)) (Nat.le_refl _) (by omega) (by omega))
      · rw [qs]
        refine Go.tabIn (off := 587) (tgt := 626) dLw_law_39 (by decide) (by decide) rfl (by decide) ?_
        refine Go.aload_n dLw_law_626 rfl (Nat.ne_of_beq_eq_false rfl) ?_
        refine Go.aload_n dLw_law_627 rfl (Nat.ne_of_beq_eq_false rfl) ?_
        refine Go.iload dLw_law_628 rfl ?_
        refine Go.iconst (v := nI 1) dLw_law_630 (by decide) ?_
        refine Go.iadd dLw_law_631 ?_
        refine Go.cvt (v' := nI (i + 1)) (nI_add _ _) ?_
        refine Go.sald (jn := (i + 1)) dLw_law_632 rfl (show (i + 1) < L from by omega) (by omega) ?_
        refine Go.aload_n dLw_law_633 rfl (Nat.ne_of_beq_eq_false rfl) ?_
        refine Go.iload dLw_law_634 rfl ?_
        refine Go.iconst (v := nI 2) dLw_law_636 (by decide) ?_
        refine Go.iadd dLw_law_637 ?_
        refine Go.cvt (v' := nI (i + 2)) (nI_add _ _) ?_
        refine Go.sald (jn := (i + 2)) dLw_law_638 rfl (show (i + 2) < L from by omega) (by omega) ?_
        refine Go.aload_n dLw_law_639 rfl (Nat.ne_of_beq_eq_false rfl) ?_
        refine Go.cSb mLw_order [vO 4 (0), vI (xs ((i + 1))), vI (xs ((i + 2))), vO 101 0] dLw_law_640 vwLw_129 rfl rfl (Nat.le_of_ble_eq_true rfl) rfl (Nat.le_of_ble_eq_true rfl) (g_Lw_order (d := d) K R l _ _) (fun v103 h104 q105 => ?_)
        obtain ⟨G2, K2, R2, l2, e3, e4⟩ := id q105
        refine Go.istore dLw_law_643 (by decide) rfl ?_
        refine Go.aload_n dLw_law_645 rfl (Nat.ne_of_beq_eq_false rfl) ?_
        refine Go.aload_n dLw_law_646 rfl (Nat.ne_of_beq_eq_false rfl) ?_
        refine Go.iload dLw_law_647 rfl ?_
        refine Go.iconst (v := nI 1) dLw_law_649 (by decide) ?_
        refine Go.iadd dLw_law_650 ?_
        refine Go.cvt (v' := nI (i + 1)) (nI_add _ _) ?_
        refine Go.sald (jn := (i + 1)) dLw_law_651 rfl (show (i + 1) < L from by omega) (by omega) ?_
        refine Go.aload_n dLw_law_652 rfl (Nat.ne_of_beq_eq_false rfl) ?_
        refine Go.iload dLw_law_653 rfl ?_
        refine Go.iconst (v := nI 2) dLw_law_655 (by decide) ?_
        refine Go.iadd dLw_law_656 ?_
        refine Go.cvt (v' := nI (i + 2)) (nI_add _ _) ?_
        refine Go.sald (jn := (i + 2)) dLw_law_657 rfl (show (i + 2) < L from by omega) (by omega) ?_
        refine Go.cVp mMo_order [vI (xs ((i + 1))), vI (xs ((i + 2)))] dLw_law_658 vwLw_131 (Nat.le_of_ble_eq_true rfl) rfl rfl (Nat.le_of_ble_eq_true rfl) rfl (Nat.le_of_ble_eq_true rfl) (w_Mo_order (d := d + 1) R2 _ _) (fun v106 h107 q108 => ?_)
        refine Go.istore dLw_law_661 (by decide) rfl ?_
        refine Go.goto (tgt := 771) dLw_law_663 (by decide) ?_
        have hI2 : LI h107 := q105.li q108 rfl rfl
        refine Go.iinc (v := nI (i + 5)) dLw_law_771 (by decide) rfl (nI_inc5 _) rfl ?_
        refine Go.goto (tgt := 23) dLw_law_774 (by decide) ?_
        exact Go.weak (Go.wide (ih (i + 5) _ _ _ hI2 (by omega) (by omega)) (Nat.le_refl _) (by omega) (by omega))
      · rw [qs]
        refine Go.tabIn (off := 627) (tgt := 666) dLw_law_39 (by decide) (by decide) rfl (by decide) ?_
        refine Go.aload_n dLw_law_666 rfl (Nat.ne_of_beq_eq_false rfl) ?_
        refine Go.aload_n dLw_law_667 rfl (Nat.ne_of_beq_eq_false rfl) ?_
        refine Go.iload dLw_law_668 rfl ?_
        refine Go.iconst (v := nI 1) dLw_law_670 (by decide) ?_
        refine Go.iadd dLw_law_671 ?_
        refine Go.cvt (v' := nI (i + 1)) (nI_add _ _) ?_
        refine Go.sald (jn := (i + 1)) dLw_law_672 rfl (show (i + 1) < L from by omega) (by omega) ?_
        refine Go.aload_n dLw_law_673 rfl (Nat.ne_of_beq_eq_false rfl) ?_
        refine Go.iload dLw_law_674 rfl ?_
        refine Go.iconst (v := nI 2) dLw_law_676 (by decide) ?_
        refine Go.iadd dLw_law_677 ?_
        refine Go.cvt (v' := nI (i + 2)) (nI_add _ _) ?_
        refine Go.sald (jn := (i + 2)) dLw_law_678 rfl (show (i + 2) < L from by omega) (by omega) ?_
        refine Go.aload_n dLw_law_679 rfl (Nat.ne_of_beq_eq_false rfl) ?_
        refine Go.cSb mLw_told [vO 4 (0), vI (xs ((i + 1))), vI (xs ((i + 2))), vO 101 0] dLw_law_680 vwLw_132 rfl rfl (Nat.le_of_ble_eq_true rfl) rfl (Nat.le_of_ble_eq_true rfl) (g_Lw_told (d := d) K R l _ _) (fun v109 h110 q111 => ?_)
        obtain ⟨G2, K2, R2, l2, e3, e4⟩ := id q111
        refine Go.istore dLw_law_683 (by decide) rfl ?_
        refine Go.aload_n dLw_law_685 rfl (Nat.ne_of_beq_eq_false rfl) ?_
        refine Go.aload_n dLw_law_686 rfl (Nat.ne_of_beq_eq_false rfl) ?_
        refine Go.iload dLw_law_687 rfl ?_
        refine Go.iconst (v := nI 1) dLw_law_689 (by decide) ?_
        refine Go.iadd dLw_law_690 ?_
        refine Go.cvt (v' := nI (i + 1)) (nI_add _ _) ?_
        refine Go.sald (jn := (i + 1)) dLw_law_691 rfl (show (i + 1) < L from by omega) (by omega) ?_
        refine Go.aload_n dLw_law_692 rfl (Nat.ne_of_beq_eq_false rfl) ?_
        refine Go.iload dLw_law_693 rfl ?_
        refine Go.iconst (v := nI 2) dLw_law_695 (by decide) ?_
        refine Go.iadd dLw_law_696 ?_
        refine Go.cvt (v' := nI (i + 2)) (nI_add _ _) ?_
        refine Go.sald (jn := (i + 2)) dLw_law_697 rfl (show (i + 2) < L from by omega) (by omega) ?_
        refine Go.cVp mMo_told [vI (xs ((i + 1))), vI (xs ((i + 2)))] dLw_law_698 vwLw_134 (Nat.le_of_ble_eq_true rfl) rfl rfl (Nat.le_of_ble_eq_true rfl) rfl (Nat.le_of_ble_eq_true rfl) (w_Mo_told (d := d + 1) R2 _ _) (fun v112 h113 q114 => ?_)
        refine Go.istore dLw_law_701 (by decide) rfl ?_
        refine Go.goto (tgt := 771) dLw_law_703 (by decide) ?_
        have hI2 : LI h113 := q111.li q114 rfl rfl
        refine Go.iinc (v := nI (i + 5)) dLw_law_771 (by decide) rfl (nI_inc5 _) rfl ?_
        refine Go.goto (tgt := 23) dLw_law_774 (by decide) ?_
        exact Go.weak (Go.wide (ih (i + 5) _ _ _ hI2 (by omega) (by omega)) (Nat.le_refl _) (by omega) (by omega))
      · rw [qs]
        refine Go.tabIn (off := 667) (tgt := 706) dLw_law_39 (by decide) (by decide) rfl (by decide) ?_
        refine Go.aload_n dLw_law_706 rfl (Nat.ne_of_beq_eq_false rfl) ?_
        refine Go.aload_n dLw_law_707 rfl (Nat.ne_of_beq_eq_false rfl) ?_
        refine Go.iload dLw_law_708 rfl ?_
        refine Go.iconst (v := nI 1) dLw_law_710 (by decide) ?_
        refine Go.iadd dLw_law_711 ?_
        refine Go.cvt (v' := nI (i + 1)) (nI_add _ _) ?_
        refine Go.sald (jn := (i + 1)) dLw_law_712 rfl (show (i + 1) < L from by omega) (by omega) ?_
        refine Go.aload_n dLw_law_713 rfl (Nat.ne_of_beq_eq_false rfl) ?_
        refine Go.iload dLw_law_714 rfl ?_
        refine Go.iconst (v := nI 2) dLw_law_716 (by decide) ?_
        refine Go.iadd dLw_law_717 ?_
        refine Go.cvt (v' := nI (i + 2)) (nI_add _ _) ?_
        refine Go.sald (jn := (i + 2)) dLw_law_718 rfl (show (i + 2) < L from by omega) (by omega) ?_
        refine Go.aload_n dLw_law_719 rfl (Nat.ne_of_beq_eq_false rfl) ?_
        refine Go.cSb mLw_known [vO 4 (0), vI (xs ((i + 1))), vI (xs ((i + 2))), vO 101 0] dLw_law_720 vwLw_135 rfl rfl (Nat.le_of_ble_eq_true rfl) rfl (Nat.le_of_ble_eq_true rfl) (g_Lw_known (d := d) K R l _ _) (fun v115 h116 q117 => ?_)
        obtain ⟨G2, K2, R2, l2, e3, e4⟩ := id q117
        refine Go.istore dLw_law_723 (by decide) rfl ?_
        refine Go.aload_n dLw_law_725 rfl (Nat.ne_of_beq_eq_false rfl) ?_
        refine Go.aload_n dLw_law_726 rfl (Nat.ne_of_beq_eq_false rfl) ?_
        refine Go.iload dLw_law_727 rfl ?_
        refine Go.iconst (v := nI 1) dLw_law_729 (by decide) ?_
        refine Go.iadd dLw_law_730 ?_
        refine Go.cvt (v' := nI (i + 1)) (nI_add _ _) ?_
        refine Go.sald (jn := (i + 1)) dLw_law_731 rfl (show (i + 1) < L from by omega) (by omega) ?_
        refine Go.aload_n dLw_law_732 rfl (Nat.ne_of_beq_eq_false rfl) ?_
        refine Go.iload dLw_law_733 rfl ?_
        refine Go.iconst (v := nI 2) dLw_law_735 (by decide) ?_
        refine Go.iadd dLw_law_736 ?_
        refine Go.cvt (v' := nI (i + 2)) (nI_add _ _) ?_
        refine Go.sald (jn := (i + 2)) dLw_law_737 rfl (show (i + 2) < L from by omega) (by omega) ?_
        refine Go.cVp mMo_known [vI (xs ((i + 1))), vI (xs ((i + 2)))] dLw_law_738 vwLw_137 (Nat.le_of_ble_eq_true rfl) rfl rfl (Nat.le_of_ble_eq_true rfl) rfl (Nat.le_of_ble_eq_true rfl) (w_Mo_known (d := d + 1) R2 _ _) (fun v118 h119 q120 => ?_)
        refine Go.istore dLw_law_741 (by decide) rfl ?_
        refine Go.goto (tgt := 771) dLw_law_743 (by decide) ?_
        have hI2 : LI h119 := q117.li q120 rfl rfl
        refine Go.iinc (v := nI (i + 5)) dLw_law_771 (by decide) rfl (nI_inc5 _) rfl ?_
        refine Go.goto (tgt := 23) dLw_law_774 (by decide) ?_
        exact Go.weak (Go.wide (ih (i + 5) _ _ _ hI2 (by omega) (by omega)) (Nat.le_refl _) (by omega) (by omega))
      · rw [qs]
        refine Go.tabIn (off := 707) (tgt := 746) dLw_law_39 (by decide) (by decide) rfl (by decide) ?_
        refine Go.aload_n dLw_law_746 rfl (Nat.ne_of_beq_eq_false rfl) ?_
        refine Go.aload_n dLw_law_747 rfl (Nat.ne_of_beq_eq_false rfl) ?_
        refine Go.iload dLw_law_748 rfl ?_
        refine Go.iconst (v := nI 1) dLw_law_750 (by decide) ?_
        refine Go.iadd dLw_law_751 ?_
        refine Go.cvt (v' := nI (i + 1)) (nI_add _ _) ?_
        refine Go.sald (jn := (i + 1)) dLw_law_752 rfl (show (i + 1) < L from by omega) (by omega) ?_
        refine Go.cVr mBk_count [vI (xs ((i + 1)))] dLw_law_753 vwLw_138 (Nat.le_of_ble_eq_true rfl) rfl rfl (Nat.le_of_ble_eq_true rfl) rfl (Nat.le_of_ble_eq_true rfl) (w_Bk_count (d := d + 1) K _) (fun v121 _ => ?_)
        have R2 := R
        refine Go.pop trivial dLw_law_756 ?_
        refine Go.aload_n dLw_law_757 rfl (Nat.ne_of_beq_eq_false rfl) ?_
        refine Go.aload_n dLw_law_758 rfl (Nat.ne_of_beq_eq_false rfl) ?_
        refine Go.iload dLw_law_759 rfl ?_
        refine Go.iconst (v := nI 1) dLw_law_761 (by decide) ?_
        refine Go.iadd dLw_law_762 ?_
        refine Go.cvt (v' := nI (i + 1)) (nI_add _ _) ?_
        refine Go.sald (jn := (i + 1)) dLw_law_763 rfl (show (i + 1) < L from by omega) (by omega) ?_
        refine Go.cVp mMo_count [vI (xs ((i + 1)))] dLw_law_764 vwLw_141 (Nat.le_of_ble_eq_true rfl) rfl rfl (Nat.le_of_ble_eq_true rfl) rfl (Nat.le_of_ble_eq_true rfl) (w_Mo_count (d := d + 1) R2 _) (fun v122 h123 q124 => ?_)
        refine Go.pop trivial dLw_law_767 ?_
        refine Go.goto (tgt := 771) dLw_law_768 (by decide) ?_
        have hI2 : LI h123 := ((KB.wb K).lp R l).li q124 rfl rfl
        refine Go.iinc (v := nI (i + 5)) dLw_law_771 (by decide) rfl (nI_inc5 _) rfl ?_
        refine Go.goto (tgt := 23) dLw_law_774 (by decide) ?_
        exact Go.weak (Go.wide (ih (i + 5) _ _ _ hI2 (by omega) (by omega)) (Nat.le_refl _) (by omega) (by omega))
theorem KB.al5 {G : GB} {h : AH} (K : KB G h h) : KB G (ma_al h 5) (ma_al h 5) := K.agree (fun _ _ _ _ => rfl) (fun _ _ _ _ => rfl) (fun _ _ _ => rfl)
theorem KB.aa {G : GB} {h : AH} {N : Nat} (K : KB G h h) : KB G (ma_aa h 101 N) (ma_aa h 101 N) := K.agree (fun _ _ _ _ => rfl) (fun _ _ _ _ => rfl) (fun c i hc => by
  show ma_u2 h.2.2.2.1 101 _ N c i = _
  rw [ma_u2_at, if_neg (by omega)])
theorem KR.aa {G : GR} {h : AH} {N : Nat} (K : KR G h h) : KR G (ma_aa h 101 N) (ma_aa h 101 N) := by
  have l : ∀ c i, c ≠ 101 → (ma_aa h 101 N).2.2.2.1 c i = h.2.2.2.1 c i := fun c i hc => by
    show ma_u2 h.2.2.2.1 101 _ N c i = _
    rw [ma_u2_at, if_neg (by omega)]
  exact ⟨⟨K.r_kinds, (l _ _ (by decide)).trans K.l_kinds, K.r_opens, (l _ _ (by decide)).trans K.l_opens, K.r_closes, (l _ _ (by decide)).trans K.l_closes, K.r_isOut, (l _ _ (by decide)).trans K.l_isOut, K.r_left, (l _ _ (by decide)).trans K.l_left, K.r_state, (l _ _ (by decide)).trans K.l_state, K.r_kind, (l _ _ (by decide)).trans K.l_kind, K.r_arrival, (l _ _ (by decide)).trans K.l_arrival, K.r_need, (l _ _ (by decide)).trans K.l_need, K.r_ranks, (l _ _ (by decide)).trans K.l_ranks, K.r_doorOf, (l _ _ (by decide)).trans K.l_doorOf, K.r_start, (l _ _ (by decide)).trans K.l_start, K.r_gone, (l _ _ (by decide)).trans K.l_gone, K.r_seals, (l _ _ (by decide)).trans K.l_seals, K.r_twice, (l _ _ (by decide)).trans K.l_twice, K.r_same, (l _ _ (by decide)).trans K.l_same, K.r_waiting, (l _ _ (by decide)).trans K.l_waiting, K.r_newDoor, (l _ _ (by decide)).trans K.l_newDoor, K.r_newStart, (l _ _ (by decide)).trans K.l_newStart, K.r_setCost, (l _ _ (by decide)).trans K.l_setCost, K.r_setStart, (l _ _ (by decide)).trans K.l_setStart, K.r_trial, (l _ _ (by decide)).trans K.l_trial, K.r_counts, (l _ _ (by decide)).trans K.l_counts⟩, K.now, K.doors, K.doors_le, K.trucks, K.trucks_le, K.waits, K.waits_le, K.state, K.st4, K.fresh, K.doorOf, K.atd, K.ex, K.waiting, K.wt12, K.newDoor, FrR.rf⟩
theorem mo_101 (h : AH) : ma_n (mo_h h) 101 = ma_n h 101 := rfl
set_option maxHeartbeats 4000000 in
theorem go_law {L : Nat} {xs : Nat → Int32} {d : Nat} (hL : L ≤ 2560) : Go (L, xs) true false (d + 22) 2631 17446 mLw_law 0 [vO 99 0, vU, vU, vU, vU, vU, vU] [] ma_h0 (fun g _ => g = .inl (some (vI 1))) := by
  rw [show (17446 : Nat) = 17437 + ma_nf 4 from by decide]
  refine Go.new dLw_law_0 nwLw_8 (Nat.le_of_ble_eq_true rfl) ?_
  refine Go.dup trivial dLw_law_3 ?_
  refine Go.cIn (bc2 := 40) (bs2 := 1051) mBk_init [] dLw_law_4 vwLw_67 (Nat.le_of_ble_eq_true rfl) rfl rfl (Nat.le_of_ble_eq_true rfl) rfl (Nat.le_of_ble_eq_true rfl) (g_Bk_init (d := d + 18)) (fun h1 B1 => ?_)
  refine Go.astore_n dLw_law_7 (by decide) rfl ?_
  rw [show (16386 : Nat) = 16356 + ma_nf 5 from by decide]
  obtain ⟨-, -, -, -, -, -, -, -, -, -, -, -, -, -, -, -, n100, n5, n101, n102, zz⟩ := id B1
  refine Go.new dLw_law_8 nwLw_68 (Nat.le_of_ble_eq_true rfl) ?_
  rw [n5]
  refine Go.dup trivial dLw_law_11 ?_
  refine Go.cIn (bc2 := 23) (bs2 := 965) mMo_init [] dLw_law_12 vwLw_70 (Nat.le_of_ble_eq_true rfl) rfl rfl (Nat.le_of_ble_eq_true rfl) rfl (Nat.le_of_ble_eq_true rfl) (g_Mo_init (d := d + 20) (bc := 0) (bs := 0)) (fun h2 e2 => ?_)
  subst e2
  refine Go.astore_n dLw_law_15 (by decide) rfl ?_
  refine Go.iconst (v := nI 1) dLw_law_16 (by decide) ?_
  refine Go.newl (N := 1) dLw_law_17 (ma_in (by decide +kernel) rfl) rfl (by decide) ?_
  have m101 : ma_n (mo_h (ma_al h1 5)) 101 = 0 := n101
  rw [m101]
  refine Go.astore_n dLw_law_19 (by decide) rfl ?_
  refine Go.iconst (v := nI 0) dLw_law_20 (by decide) ?_
  refine Go.istore dLw_law_21 (by decide) rfl ?_
  have KA := B1.kb.al5
  have m100 : ma_n (ma_al h1 5) 100 = 15 := n100
  have m102 : ma_n (ma_al h1 5) 102 = 0 := n102
  have hI : LI (ma_aa (mo_h (ma_al h1 5)) 101 1) := ⟨((0, 0), 0), ((0, 0, 0), 0, (fun _ => 0), (fun _ => 0)), (mo_kb KA m100 m102).aa, (mo_kr m100 m102 zz).aa, by
    show ma_u2 _ 101 (ma_n (mo_h (ma_al h1 5)) 101) 1 101 0 = 1
    rw [m101, ma_u2_at, if_pos ⟨rfl, rfl⟩], rfl, rfl⟩
  exact Go.weak (lp_law (d := d) hL 513 0 _ _ _ hI (by omega) (by omega))
