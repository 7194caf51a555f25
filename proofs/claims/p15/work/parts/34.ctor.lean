/-! THE CONSTRUCTORS -/
theorem Go.cJn {sc : Nat × (Nat → Int32)} {cl rd : Bool} {d2 bc bs bc2 bs2 : Nat} {y : MD} {pc : Nat} {ls st stk ls2 : List AV} {h : AH} {Q : GO → AH → Prop} (y2 : MD) (vs : List AV) {k i idx : Nat} {host : String} (hd : decode y.2.1 pc = .ok (.invokespecial idx, 3)) (hvw : ma_JW y.1.cls idx y2 vs.length host) (hk : k < 90) (hs : vs.reverse ++ vO k i :: st = stk) (hl2 : (vO k i :: vs) ++ List.replicate (y2.2.2.1 - (vs.length + 1)) vU = ls2) (hN : vs.length + 1 ≤ y2.2.2.1) (hnl : vs.all ma_nlb = true) (h8 : st.length ≤ 10) {P : AH → Prop} (G2 : Go sc true false d2 bc2 bs2 y2 0 ls2 [] h (PN P)) (kk : ∀ h1, P h1 → Go sc false rd (d2 + 1) bc bs y (pc + 3) ls st h1 Q) : Go sc cl rd (d2 + 1) (bc + bc2) (bs + bs2) y pc ls stk h Q :=
  Go.callJ (bc2 := bc2) (bs2 := bs2) (rd2 := false) false y2 vs hd hvw hk hs hl2 hN (ma_nls hnl) h8 (fun hc => nomatch hc) G2 (fun h1 hq => kk h1 hq.2) (fun _ _ hq => by cases hq.1) (fun _ _ hq => by cases hq.1)
theorem Go.cIn {sc : Nat × (Nat → Int32)} {cl rd : Bool} {d2 bc bs bc2 bs2 : Nat} {y : MD} {pc : Nat} {ls st stk ls2 : List AV} {h : AH} {Q : GO → AH → Prop} (y2 : MD) (vs : List AV) {k i idx : Nat} (hd : decode y.2.1 pc = .ok (.invokespecial idx, 3)) (hvw : ma_IW y.1.cls idx y2 vs.length) (hk : k < 90) (hs : vs.reverse ++ vO k i :: st = stk) (hl2 : (vO k i :: vs) ++ List.replicate (y2.2.2.1 - (vs.length + 1)) vU = ls2) (hN : vs.length + 1 ≤ y2.2.2.1) (hnl : vs.all ma_nlb = true) (h8 : st.length ≤ 10) {P : AH → Prop} (G2 : Go sc true false d2 bc2 bs2 y2 0 ls2 [] h (PN P)) (kk : ∀ h1, P h1 → Go sc false rd (d2 + 1) bc bs y (pc + 3) ls st h1 Q) : Go sc cl rd (d2 + 1) (bc + bc2) (bs + bs2) y pc ls stk h Q :=
  Go.callI (bc2 := bc2) (bs2 := bs2) (rd2 := false) false y2 vs hd hvw hk hs hl2 hN (ma_nls hnl) h8 (fun hc => nomatch hc) G2 (fun h1 hq => kk h1 hq.2) (fun _ _ hq => by cases hq.1) (fun _ _ hq => by cases hq.1)
/-- one object's numbers alone are written -/
def Ow (c0 i0 : Nat) (h z : AH) : Prop := z.2 = h.2 ∧ ∀ c i k, ¬ (c = c0 ∧ i = i0) → z.1 c i k = h.1 c i k
theorem Ow.rf {c0 i0 : Nat} {h : AH} : Ow c0 i0 h h := ⟨rfl, fun _ _ _ _ => rfl⟩
theorem Ow.up {c0 i0 k : Nat} {h z : AH} {v : Int32} (K : Ow c0 i0 h z) : Ow c0 i0 h (ma_up z.1 c0 i0 k v, z.2) := ⟨K.1, fun c i k' hn => by
  show ma_up z.1 c0 i0 k v c i k' = _
  rw [ma_up_ne (by omega)]
  exact K.2 c i k' hn⟩
/-- a new int[] of N in a field -/
def nA (h : AH) (N c i f : Nat) : AH := (h.1, ma_up h.2.1 c i f (some (100, ma_n h 100)), h.2.2.1, ma_u2 h.2.2.2.1 100 (ma_n h 100) N, va_up (ma_n h) 100 (ma_n h 100 + 1))
def nZ (h : AH) (N c i f : Nat) : AH := (h.1, ma_up h.2.1 c i f (some (102, ma_n h 102)), h.2.2.1, ma_u2 h.2.2.2.1 102 (ma_n h 102) N, va_up (ma_n h) 102 (ma_n h 102 + 1))
def nQ (h : AH) (a N c i f : Nat) : AH := (h.1, ma_up h.2.1 c i f (some (a, ma_n h a)), h.2.2.1, ma_u2 h.2.2.2.1 a (ma_n h a) N, va_up (ma_n h) a (ma_n h a + 1))
def pI (h : AH) (c i f : Nat) (v : Int32) : AH := (ma_up h.1 c i f v, h.2)
def pR (h : AH) (c i f : Nat) (r : Nat × Nat) : AH := (h.1, ma_up h.2.1 c i f (some r), h.2.2)
theorem va_up_at (f : Nat → Nat) (a v k : Nat) : va_up f a v k = if k = a then v else f k := rfl
theorem ma_up_at {α : Type} (f : Nat → Nat → Nat → α) (c i k : Nat) (v : α) (c' i' k' : Nat) : ma_up f c i k v c' i' k' = if c' = c ∧ i' = i ∧ k' = k then v else f c' i' k' := rfl
theorem ma_u2_at {α : Type} (f : Nat → Nat → α) (c i : Nat) (v : α) (c' i' : Nat) : ma_u2 f c i v c' i' = if c' = c ∧ i' = i then v else f c' i' := rfl
theorem nA_n (h : AH) (N c i f k : Nat) : ma_n (nA h N c i f) k = if k = 100 then ma_n h 100 + 1 else ma_n h k := rfl
theorem nZ_n (h : AH) (N c i f k : Nat) : ma_n (nZ h N c i f) k = if k = 102 then ma_n h 102 + 1 else ma_n h k := rfl
theorem nQ_n (h : AH) (a N c i f k : Nat) : ma_n (nQ h a N c i f) k = if k = a then ma_n h a + 1 else ma_n h k := rfl
theorem pI_n (h : AH) (c i f : Nat) (v : Int32) (k : Nat) : ma_n (pI h c i f v) k = ma_n h k := rfl
theorem pR_n (h : AH) (c i f : Nat) (r : Nat × Nat) (k : Nat) : ma_n (pR h c i f r) k = ma_n h k := rfl
theorem al_n (h : AH) (a k : Nat) : ma_n (ma_al h a) k = if k = a then ma_n h a + 1 else ma_n h k := rfl
theorem nA_r (h : AH) (N c i f c' i' f' : Nat) : (nA h N c i f).2.1 c' i' f' = if c' = c ∧ i' = i ∧ f' = f then some (100, ma_n h 100) else h.2.1 c' i' f' := rfl
theorem nZ_r (h : AH) (N c i f c' i' f' : Nat) : (nZ h N c i f).2.1 c' i' f' = if c' = c ∧ i' = i ∧ f' = f then some (102, ma_n h 102) else h.2.1 c' i' f' := rfl
theorem nQ_r (h : AH) (a N c i f c' i' f' : Nat) : (nQ h a N c i f).2.1 c' i' f' = if c' = c ∧ i' = i ∧ f' = f then some (a, ma_n h a) else h.2.1 c' i' f' := rfl
theorem pI_r (h : AH) (c i f : Nat) (v : Int32) (c' i' f' : Nat) : (pI h c i f v).2.1 c' i' f' = h.2.1 c' i' f' := rfl
theorem pR_r (h : AH) (c i f : Nat) (r : Nat × Nat) (c' i' f' : Nat) : (pR h c i f r).2.1 c' i' f' = if c' = c ∧ i' = i ∧ f' = f then some r else h.2.1 c' i' f' := rfl
theorem al_r (h : AH) (a c i f : Nat) : (ma_al h a).2.1 c i f = h.2.1 c i f := rfl
theorem nA_l (h : AH) (N c i f c' i' : Nat) : (nA h N c i f).2.2.2.1 c' i' = if c' = 100 ∧ i' = ma_n h 100 then N else h.2.2.2.1 c' i' := rfl
theorem nZ_l (h : AH) (N c i f c' i' : Nat) : (nZ h N c i f).2.2.2.1 c' i' = if c' = 102 ∧ i' = ma_n h 102 then N else h.2.2.2.1 c' i' := rfl
theorem nQ_l (h : AH) (a N c i f c' i' : Nat) : (nQ h a N c i f).2.2.2.1 c' i' = if c' = a ∧ i' = ma_n h a then N else h.2.2.2.1 c' i' := rfl
theorem pI_l (h : AH) (c i f : Nat) (v : Int32) (c' i' : Nat) : (pI h c i f v).2.2.2.1 c' i' = h.2.2.2.1 c' i' := rfl
theorem pR_l (h : AH) (c i f : Nat) (r : Nat × Nat) (c' i' : Nat) : (pR h c i f r).2.2.2.1 c' i' = h.2.2.2.1 c' i' := rfl
theorem al_l (h : AH) (a c i : Nat) : (ma_al h a).2.2.2.1 c i = h.2.2.2.1 c i := rfl
theorem nA_i (h : AH) (N c i f c' i' f' : Nat) : (nA h N c i f).1 c' i' f' = h.1 c' i' f' := rfl
theorem nZ_i (h : AH) (N c i f c' i' f' : Nat) : (nZ h N c i f).1 c' i' f' = h.1 c' i' f' := rfl
theorem nQ_i (h : AH) (a N c i f c' i' f' : Nat) : (nQ h a N c i f).1 c' i' f' = h.1 c' i' f' := rfl
theorem pI_i (h : AH) (c i f : Nat) (v : Int32) (c' i' f' : Nat) : (pI h c i f v).1 c' i' f' = if c' = c ∧ i' = i ∧ f' = f then v else h.1 c' i' f' := rfl
theorem pR_i (h : AH) (c i f : Nat) (r : Nat × Nat) (c' i' f' : Nat) : (pR h c i f r).1 c' i' f' = h.1 c' i' f' := rfl
theorem al_i (h : AH) (a c i f : Nat) : (ma_al h a).1 c i f = h.1 c i f := rfl
set_option maxHeartbeats 2000000 in
theorem g_Do_init {sc : Nat × (Nat → Int32)} {d bc bs : Nat} {h : AH} (i : Nat) : Go sc true false (d + 1) bc bs mDo_init 0 [vO 0 i] [] h (PN (Ow 0 i h)) := by
  have K : Ow 0 i h h := Ow.rf
  refine Go.aload_n dDo_init_0 rfl (Nat.ne_of_beq_eq_false rfl) ?_
  refine Go.objInit dDo_init_1 obDo_3 (by omega) (Nat.le_of_ble_eq_true rfl) ?_
  refine Go.aload_n dDo_init_4 rfl (Nat.ne_of_beq_eq_false rfl) ?_
  refine Go.iconst (v := nI 0) dDo_init_5 (by decide) ?_
  refine Go.putI dDo_init_6 fwDo_init_9 (Nat.le_of_ble_eq_true rfl) rfl ⟨rfl, rfl⟩ ?_
  refine Go.hav (Kp := Ow 0 i h) K.up (fun hh1 K => ?_)
  refine Go.aload_n dDo_init_9 rfl (Nat.ne_of_beq_eq_false rfl) ?_
  refine Go.iconst (v := nI 0) dDo_init_10 (by decide) ?_
  refine Go.putI dDo_init_11 fwDo_init_15 (Nat.le_of_ble_eq_true rfl) rfl ⟨rfl, rfl⟩ ?_
  refine Go.hav (Kp := Ow 0 i h) K.up (fun hh2 K => ?_)
  refine Go.aload_n dDo_init_14 rfl (Nat.ne_of_beq_eq_false rfl) ?_
  refine Go.iconst (v := nI 0) dDo_init_15 (by decide) ?_
  refine Go.putI dDo_init_16 fwDo_init_18 (Nat.le_of_ble_eq_true rfl) rfl ⟨rfl, rfl⟩ ?_
  refine Go.hav (Kp := Ow 0 i h) K.up (fun hh3 K => ?_)
  refine Go.aload_n dDo_init_19 rfl (Nat.ne_of_beq_eq_false rfl) ?_
  refine Go.iconst (v := nI 0) dDo_init_20 (by decide) ?_
  refine Go.putI dDo_init_21 fwDo_init_21 (Nat.le_of_ble_eq_true rfl) rfl ⟨rfl, rfl⟩ ?_
  refine Go.hav (Kp := Ow 0 i h) K.up (fun hh4 K => ?_)
  refine Go.aload_n dDo_init_24 rfl (Nat.ne_of_beq_eq_false rfl) ?_
  refine Go.iconst (v := -1) dDo_init_25 (by decide) ?_
  refine Go.putI dDo_init_26 fwDo_init_25 (Nat.le_of_ble_eq_true rfl) rfl ⟨rfl, rfl⟩ ?_
  refine Go.hav (Kp := Ow 0 i h) K.up (fun hh5 K => ?_)
  refine Go.aload_n dDo_init_29 rfl (Nat.ne_of_beq_eq_false rfl) ?_
  refine Go.iconst (v := nI 0) dDo_init_30 (by decide) ?_
  refine Go.putI dDo_init_31 fwDo_init_28 (Nat.le_of_ble_eq_true rfl) rfl ⟨rfl, rfl⟩ ?_
  refine Go.hav (Kp := Ow 0 i h) K.up (fun hh6 K => ?_)
  refine Go.aload_n dDo_init_34 rfl (Nat.ne_of_beq_eq_false rfl) ?_
  refine Go.iconst (v := nI 0) dDo_init_35 (by decide) ?_
  refine Go.putI dDo_init_36 fwDo_init_31 (Nat.le_of_ble_eq_true rfl) rfl ⟨rfl, rfl⟩ ?_
  refine Go.hav (Kp := Ow 0 i h) K.up (fun hh7 K => ?_)
  refine Go.aload_n dDo_init_39 rfl (Nat.ne_of_beq_eq_false rfl) ?_
  refine Go.iconst (v := nI 0) dDo_init_40 (by decide) ?_
  refine Go.putI dDo_init_41 fwDo_init_34 (Nat.le_of_ble_eq_true rfl) rfl ⟨rfl, rfl⟩ ?_
  refine Go.hav (Kp := Ow 0 i h) K.up (fun hh8 K => ?_)
  refine Go.vret dDo_init_44 rfl (by decide) ?_
  exact ⟨rfl, K⟩
set_option maxHeartbeats 2000000 in
theorem g_Tr_init {sc : Nat × (Nat → Int32)} {d bc bs : Nat} {h : AH} (i : Nat) (x : Int32) : Go sc true false (d + 1) bc bs mTr_init 0 [vO 3 i, vI x] [] h (PN (Ow 3 i h)) := by
  have K : Ow 3 i h h := Ow.rf
  refine Go.aload_n dTr_init_0 rfl (Nat.ne_of_beq_eq_false rfl) ?_
  refine Go.objInit dTr_init_1 obTr_3 (by omega) (Nat.le_of_ble_eq_true rfl) ?_
  refine Go.aload_n dTr_init_4 rfl (Nat.ne_of_beq_eq_false rfl) ?_
  refine Go.iconst (v := nI 0) dTr_init_5 (by decide) ?_
  refine Go.putI dTr_init_6 fwTr_init_9 (Nat.le_of_ble_eq_true rfl) rfl ⟨rfl, rfl⟩ ?_
  refine Go.hav (Kp := Ow 3 i h) K.up (fun hh9 K => ?_)
  refine Go.aload_n dTr_init_9 rfl (Nat.ne_of_beq_eq_false rfl) ?_
  refine Go.iconst (v := nI 0) dTr_init_10 (by decide) ?_
  refine Go.putI dTr_init_11 fwTr_init_15 (Nat.le_of_ble_eq_true rfl) rfl ⟨rfl, rfl⟩ ?_
  refine Go.hav (Kp := Ow 3 i h) K.up (fun hh10 K => ?_)
  refine Go.aload_n dTr_init_14 rfl (Nat.ne_of_beq_eq_false rfl) ?_
  refine Go.iconst (v := nI 0) dTr_init_15 (by decide) ?_
  refine Go.putI dTr_init_16 fwTr_init_18 (Nat.le_of_ble_eq_true rfl) rfl ⟨rfl, rfl⟩ ?_
  refine Go.hav (Kp := Ow 3 i h) K.up (fun hh11 K => ?_)
  refine Go.aload_n dTr_init_19 rfl (Nat.ne_of_beq_eq_false rfl) ?_
  refine Go.iconst (v := nI 0) dTr_init_20 (by decide) ?_
  refine Go.putI dTr_init_21 fwTr_init_21 (Nat.le_of_ble_eq_true rfl) rfl ⟨rfl, rfl⟩ ?_
  refine Go.hav (Kp := Ow 3 i h) K.up (fun hh12 K => ?_)
  refine Go.aload_n dTr_init_24 rfl (Nat.ne_of_beq_eq_false rfl) ?_
  refine Go.iconst (v := nI 0) dTr_init_25 (by decide) ?_
  refine Go.putI dTr_init_26 fwTr_init_24 (Nat.le_of_ble_eq_true rfl) rfl ⟨rfl, rfl⟩ ?_
  refine Go.hav (Kp := Ow 3 i h) K.up (fun hh13 K => ?_)
  refine Go.aload_n dTr_init_29 rfl (Nat.ne_of_beq_eq_false rfl) ?_
  refine Go.iconst (v := -1) dTr_init_30 (by decide) ?_
  refine Go.putI dTr_init_31 fwTr_init_27 (Nat.le_of_ble_eq_true rfl) rfl ⟨rfl, rfl⟩ ?_
  refine Go.hav (Kp := Ow 3 i h) K.up (fun hh14 K => ?_)
  refine Go.aload_n dTr_init_34 rfl (Nat.ne_of_beq_eq_false rfl) ?_
  refine Go.iconst (v := -1) dTr_init_35 (by decide) ?_
  refine Go.putI dTr_init_36 fwTr_init_30 (Nat.le_of_ble_eq_true rfl) rfl ⟨rfl, rfl⟩ ?_
  refine Go.hav (Kp := Ow 3 i h) K.up (fun hh15 K => ?_)
  refine Go.aload_n dTr_init_39 rfl (Nat.ne_of_beq_eq_false rfl) ?_
  refine Go.iconst (v := -1) dTr_init_40 (by decide) ?_
  refine Go.putI dTr_init_41 fwTr_init_33 (Nat.le_of_ble_eq_true rfl) rfl ⟨rfl, rfl⟩ ?_
  refine Go.hav (Kp := Ow 3 i h) K.up (fun hh16 K => ?_)
  refine Go.aload_n dTr_init_44 rfl (Nat.ne_of_beq_eq_false rfl) ?_
  refine Go.iconst (v := -1) dTr_init_45 (by decide) ?_
  refine Go.putI dTr_init_46 fwTr_init_36 (Nat.le_of_ble_eq_true rfl) rfl ⟨rfl, rfl⟩ ?_
  refine Go.hav (Kp := Ow 3 i h) K.up (fun hh17 K => ?_)
  refine Go.aload_n dTr_init_49 rfl (Nat.ne_of_beq_eq_false rfl) ?_
  refine Go.iconst (v := -1) dTr_init_50 (by decide) ?_
  refine Go.putI dTr_init_51 fwTr_init_39 (Nat.le_of_ble_eq_true rfl) rfl ⟨rfl, rfl⟩ ?_
  refine Go.hav (Kp := Ow 3 i h) K.up (fun hh18 K => ?_)
  refine Go.aload_n dTr_init_54 rfl (Nat.ne_of_beq_eq_false rfl) ?_
  refine Go.iconst (v := nI 0) dTr_init_55 (by decide) ?_
  refine Go.putI dTr_init_56 fwTr_init_42 (Nat.le_of_ble_eq_true rfl) rfl ⟨rfl, rfl⟩ ?_
  refine Go.hav (Kp := Ow 3 i h) K.up (fun hh19 K => ?_)
  refine Go.aload_n dTr_init_59 rfl (Nat.ne_of_beq_eq_false rfl) ?_
  refine Go.iconst (v := nI 0) dTr_init_60 (by decide) ?_
  refine Go.putI dTr_init_61 fwTr_init_46 (Nat.le_of_ble_eq_true rfl) rfl ⟨rfl, rfl⟩ ?_
  refine Go.hav (Kp := Ow 3 i h) K.up (fun hh20 K => ?_)
  refine Go.aload_n dTr_init_64 rfl (Nat.ne_of_beq_eq_false rfl) ?_
  refine Go.iconst (v := -1) dTr_init_65 (by decide) ?_
  refine Go.putI dTr_init_66 fwTr_init_49 (Nat.le_of_ble_eq_true rfl) rfl ⟨rfl, rfl⟩ ?_
  refine Go.hav (Kp := Ow 3 i h) K.up (fun hh21 K => ?_)
  refine Go.aload_n dTr_init_69 rfl (Nat.ne_of_beq_eq_false rfl) ?_
  refine Go.iload_n dTr_init_70 rfl ?_
  refine Go.putI dTr_init_71 fwTr_init_52 (Nat.le_of_ble_eq_true rfl) rfl ⟨rfl, rfl⟩ ?_
  refine Go.hav (Kp := Ow 3 i h) K.up (fun hh22 K => ?_)
  refine Go.vret dTr_init_74 rfl (by decide) ?_
  exact ⟨rfl, K⟩
set_option maxHeartbeats 2000000 in
theorem g_Or_init {sc : Nat × (Nat → Int32)} {d bc bs : Nat} {h : AH} (i : Nat) : Go sc true false (d + 1) (bc + 3) (bs + 197) mOr_init 0 [vO 2 i] [] h (PN (fun h' => h' = nA (nA (nA h 32 2 i 0) 160 2 i 1) 5 2 i 2)) := by
  refine Go.aload_n dOr_init_0 rfl (Nat.ne_of_beq_eq_false rfl) ?_
  refine Go.objInit dOr_init_1 obOr_3 (by omega) (Nat.le_of_ble_eq_true rfl) ?_
  refine Go.aload_n dOr_init_4 rfl (Nat.ne_of_beq_eq_false rfl) ?_
  refine Go.bipush (v := nI 32) dOr_init_5 (by decide) ?_
  refine Go.newi (N := 32) dOr_init_7 (ma_in (by decide +kernel) rfl) rfl (by decide) ?_
  refine Go.putR dOr_init_9 fwOr_init_9 (Nat.le_of_ble_eq_true rfl) (by decide) rfl (fun _ => ⟨rfl, rfl⟩) ?_
  refine Go.aload_n dOr_init_12 rfl (Nat.ne_of_beq_eq_false rfl) ?_
  refine Go.sipush (v := nI 160) dOr_init_13 (by decide) ?_
  refine Go.newi (N := 160) dOr_init_16 (ma_in (by decide +kernel) rfl) rfl (by decide) ?_
  refine Go.putR dOr_init_18 fwOr_init_15 (Nat.le_of_ble_eq_true rfl) (by decide) rfl (fun _ => ⟨rfl, rfl⟩) ?_
  refine Go.aload_n dOr_init_21 rfl (Nat.ne_of_beq_eq_false rfl) ?_
  refine Go.iconst (v := nI 5) dOr_init_22 (by decide) ?_
  refine Go.newi (N := 5) dOr_init_23 (ma_in (by decide +kernel) rfl) rfl (by decide) ?_
  refine Go.putR dOr_init_25 fwOr_init_18 (Nat.le_of_ble_eq_true rfl) (by decide) rfl (fun _ => ⟨rfl, rfl⟩) ?_
  refine Go.vret dOr_init_28 rfl (by decide) ?_
  exact ⟨rfl, rfl⟩
/-- the choice, with j orders made; h0: the heap as the constructor began -/
def CJ (j : Nat) (h0 h : AH) : Prop := h.2.1 1 0 0 = some (112, 0) ∧ h.2.2.2.1 112 0 = 4 ∧ h.2.1 1 0 1 = some (100, 0) ∧ h.2.2.2.1 100 0 = 4 ∧ h.2.1 1 0 2 = some (100, 1) ∧ h.2.2.2.1 100 1 = 5 ∧ h.2.1 1 0 3 = some (100, 2) ∧ h.2.2.2.1 100 2 = 5 ∧
  (∀ i, i < j → h.2.1 112 0 i = some (2, i) ∧ h.2.1 2 i 0 = some (100, 3 + 3 * i) ∧ h.2.2.2.1 100 (3 + 3 * i) = 32 ∧ h.2.1 2 i 1 = some (100, 4 + 3 * i) ∧ h.2.2.2.1 100 (4 + 3 * i) = 160 ∧ h.2.1 2 i 2 = some (100, 5 + 3 * i) ∧ h.2.2.2.1 100 (5 + 3 * i) = 5) ∧
  ma_n h 2 = j ∧ ma_n h 100 = 3 + 3 * j ∧ (∀ k, k ≠ 2 → k ≠ 100 → k ≠ 112 → ma_n h k = ma_n h0 k) ∧ (∀ c i k, c ≠ 1 → h.1 c i k = h0.1 c i k) ∧ (∀ c i k, c ≠ 1 → c ≠ 2 → c ≠ 112 → h.2.1 c i k = h0.2.1 c i k) ∧ (∀ c i, c ≠ 100 → c ≠ 112 → h.2.2.2.1 c i = h0.2.2.2.1 c i)
set_option maxHeartbeats 4000000 in
theorem CJ.start {h : AH} {v : Int32} (n112 : ma_n h 112 = 0) (n100 : ma_n h 100 = 0) (n2 : ma_n h 2 = 0) : CJ 0 h (pI (nA (nA (nA (nQ h 112 4 1 0 0) 4 1 0 1) 5 1 0 2) 5 1 0 3) 1 0 4 v) := by
  refine ⟨?_, ?_, ?_, ?_, ?_, ?_, ?_, ?_, fun i hi => absurd hi (Nat.not_lt_zero i), ?_, ?_, fun k h1 h2 h3 => ?_, fun c i k h1 => ?_, fun c i k h1 h2 h3 => ?_, fun c i h1 h2 => ?_⟩ <;> simp [nA_n, nZ_n, nQ_n, pI_n, pR_n, al_n, nA_r, nZ_r, nQ_r, pI_r, pR_r, al_r, nA_l, nZ_l, nQ_l, pI_l, pR_l, al_l, nA_i, nZ_i, nQ_i, pI_i, pR_i, al_i, *]
theorem CJ.step {j : Nat} {h0 h : AH} (K : CJ j h0 h) (hj : j < 4) : CJ (j + 1) h0 (pR (nA (nA (nA (ma_al h 2) 32 2 j 0) 160 2 j 1) 5 2 j 2) 112 0 j (2, j)) := by
  obtain ⟨a1, a2, a3, a4, a5, a6, a7, a8, a9, a10, a11, a12, a13, a14, a15⟩ := K
  have ll : ∀ x, x < 3 + 3 * j → (pR (nA (nA (nA (ma_al h 2) 32 2 j 0) 160 2 j 1) 5 2 j 2) 112 0 j (2, j)).2.2.2.1 100 x = h.2.2.2.1 100 x := fun x hx => by
    simp [nA_n, nZ_n, nQ_n, pI_n, pR_n, al_n, nA_r, nZ_r, nQ_r, pI_r, pR_r, al_r, nA_l, nZ_l, nQ_l, pI_l, pR_l, al_l, nA_i, nZ_i, nQ_i, pI_i, pR_i, al_i, a11, show x ≠ 3 + 3 * j from by omega, show x ≠ 3 + 3 * j + 1 from by omega, show x ≠ 3 + 3 * j + 1 + 1 from by omega]
  refine ⟨?_, ?_, ?_, (ll _ (by omega)).trans a4, ?_, (ll _ (by omega)).trans a6, ?_, (ll _ (by omega)).trans a8, fun i hi => ?_, ?_, ?_, fun k h1 h2 h3 => ?_, fun c i k h1 => ?_, fun c i k h1 h2 h3 => ?_, fun c i h1 h2 => ?_⟩
  · simp [nA_n, nZ_n, nQ_n, pI_n, pR_n, al_n, nA_r, nZ_r, nQ_r, pI_r, pR_r, al_r, nA_l, nZ_l, nQ_l, pI_l, pR_l, al_l, nA_i, nZ_i, nQ_i, pI_i, pR_i, al_i, a1]
  · simp [nA_n, nZ_n, nQ_n, pI_n, pR_n, al_n, nA_r, nZ_r, nQ_r, pI_r, pR_r, al_r, nA_l, nZ_l, nQ_l, pI_l, pR_l, al_l, nA_i, nZ_i, nQ_i, pI_i, pR_i, al_i, a2]
  · simp [nA_n, nZ_n, nQ_n, pI_n, pR_n, al_n, nA_r, nZ_r, nQ_r, pI_r, pR_r, al_r, nA_l, nZ_l, nQ_l, pI_l, pR_l, al_l, nA_i, nZ_i, nQ_i, pI_i, pR_i, al_i, a3]
  · simp [nA_n, nZ_n, nQ_n, pI_n, pR_n, al_n, nA_r, nZ_r, nQ_r, pI_r, pR_r, al_r, nA_l, nZ_l, nQ_l, pI_l, pR_l, al_l, nA_i, nZ_i, nQ_i, pI_i, pR_i, al_i, a5]
  · simp [nA_n, nZ_n, nQ_n, pI_n, pR_n, al_n, nA_r, nZ_r, nQ_r, pI_r, pR_r, al_r, nA_l, nZ_l, nQ_l, pI_l, pR_l, al_l, nA_i, nZ_i, nQ_i, pI_i, pR_i, al_i, a7]
  · rcases Nat.lt_succ_iff_lt_or_eq.mp hi with z | z
    · obtain ⟨b1, b2, b3, b4, b5, b6, b7⟩ := a9 i z
      have z1 : i ≠ j := by omega
      refine ⟨?_, ?_, ?_, ?_, ?_, ?_, ?_⟩
      · simp [nA_n, nZ_n, nQ_n, pI_n, pR_n, al_n, nA_r, nZ_r, nQ_r, pI_r, pR_r, al_r, nA_l, nZ_l, nQ_l, pI_l, pR_l, al_l, nA_i, nZ_i, nQ_i, pI_i, pR_i, al_i, z1, b1]
      · simp [nA_n, nZ_n, nQ_n, pI_n, pR_n, al_n, nA_r, nZ_r, nQ_r, pI_r, pR_r, al_r, nA_l, nZ_l, nQ_l, pI_l, pR_l, al_l, nA_i, nZ_i, nQ_i, pI_i, pR_i, al_i, z1, b2]
      · exact (ll _ (by omega)).trans b3
      · simp [nA_n, nZ_n, nQ_n, pI_n, pR_n, al_n, nA_r, nZ_r, nQ_r, pI_r, pR_r, al_r, nA_l, nZ_l, nQ_l, pI_l, pR_l, al_l, nA_i, nZ_i, nQ_i, pI_i, pR_i, al_i, z1, b4]
      · exact (ll _ (by omega)).trans b5
      · simp [nA_n, nZ_n, nQ_n, pI_n, pR_n, al_n, nA_r, nZ_r, nQ_r, pI_r, pR_r, al_r, nA_l, nZ_l, nQ_l, pI_l, pR_l, al_l, nA_i, nZ_i, nQ_i, pI_i, pR_i, al_i, z1, b6]
      · exact (ll _ (by omega)).trans b7
    · subst z
      refine ⟨?_, ?_, ?_, ?_, ?_, ?_, ?_⟩
      · simp [nA_n, nZ_n, nQ_n, pI_n, pR_n, al_n, nA_r, nZ_r, nQ_r, pI_r, pR_r, al_r, nA_l, nZ_l, nQ_l, pI_l, pR_l, al_l, nA_i, nZ_i, nQ_i, pI_i, pR_i, al_i]
      · simp [nA_n, nZ_n, nQ_n, pI_n, pR_n, al_n, nA_r, nZ_r, nQ_r, pI_r, pR_r, al_r, nA_l, nZ_l, nQ_l, pI_l, pR_l, al_l, nA_i, nZ_i, nQ_i, pI_i, pR_i, al_i, a11]
      · simp [nA_n, nZ_n, nQ_n, pI_n, pR_n, al_n, nA_r, nZ_r, nQ_r, pI_r, pR_r, al_r, nA_l, nZ_l, nQ_l, pI_l, pR_l, al_l, nA_i, nZ_i, nQ_i, pI_i, pR_i, al_i, a11, show 3 + 3 * i ≠ 3 + 3 * i + 1 from by omega, show 3 + 3 * i ≠ 3 + 3 * i + 1 + 1 from by omega]
      · simp [nA_n, nZ_n, nQ_n, pI_n, pR_n, al_n, nA_r, nZ_r, nQ_r, pI_r, pR_r, al_r, nA_l, nZ_l, nQ_l, pI_l, pR_l, al_l, nA_i, nZ_i, nQ_i, pI_i, pR_i, al_i, a11] <;> omega
      · simp [nA_n, nZ_n, nQ_n, pI_n, pR_n, al_n, nA_r, nZ_r, nQ_r, pI_r, pR_r, al_r, nA_l, nZ_l, nQ_l, pI_l, pR_l, al_l, nA_i, nZ_i, nQ_i, pI_i, pR_i, al_i, a11, show 4 + 3 * i = 3 + 3 * i + 1 from by omega]
      · simp [nA_n, nZ_n, nQ_n, pI_n, pR_n, al_n, nA_r, nZ_r, nQ_r, pI_r, pR_r, al_r, nA_l, nZ_l, nQ_l, pI_l, pR_l, al_l, nA_i, nZ_i, nQ_i, pI_i, pR_i, al_i, a11] <;> omega
      · simp [nA_n, nZ_n, nQ_n, pI_n, pR_n, al_n, nA_r, nZ_r, nQ_r, pI_r, pR_r, al_r, nA_l, nZ_l, nQ_l, pI_l, pR_l, al_l, nA_i, nZ_i, nQ_i, pI_i, pR_i, al_i, a11, show 5 + 3 * i = 3 + 3 * i + 1 + 1 from by omega]
  · simp [nA_n, nZ_n, nQ_n, pI_n, pR_n, al_n, nA_r, nZ_r, nQ_r, pI_r, pR_r, al_r, nA_l, nZ_l, nQ_l, pI_l, pR_l, al_l, nA_i, nZ_i, nQ_i, pI_i, pR_i, al_i, a10]
  · simp [nA_n, nZ_n, nQ_n, pI_n, pR_n, al_n, nA_r, nZ_r, nQ_r, pI_r, pR_r, al_r, nA_l, nZ_l, nQ_l, pI_l, pR_l, al_l, nA_i, nZ_i, nQ_i, pI_i, pR_i, al_i, a11] <;> omega
  · simp [nA_n, nZ_n, nQ_n, pI_n, pR_n, al_n, nA_r, nZ_r, nQ_r, pI_r, pR_r, al_r, nA_l, nZ_l, nQ_l, pI_l, pR_l, al_l, nA_i, nZ_i, nQ_i, pI_i, pR_i, al_i, h1, h2, h3, a12 k h1 h2 h3]
  · simp [nA_n, nZ_n, nQ_n, pI_n, pR_n, al_n, nA_r, nZ_r, nQ_r, pI_r, pR_r, al_r, nA_l, nZ_l, nQ_l, pI_l, pR_l, al_l, nA_i, nZ_i, nQ_i, pI_i, pR_i, al_i, a13 c i k h1]
  · simp [nA_n, nZ_n, nQ_n, pI_n, pR_n, al_n, nA_r, nZ_r, nQ_r, pI_r, pR_r, al_r, nA_l, nZ_l, nQ_l, pI_l, pR_l, al_l, nA_i, nZ_i, nQ_i, pI_i, pR_i, al_i, h1, h2, h3, a14 c i k h1 h2 h3]
  · simp [nA_n, nZ_n, nQ_n, pI_n, pR_n, al_n, nA_r, nZ_r, nQ_r, pI_r, pR_r, al_r, nA_l, nZ_l, nQ_l, pI_l, pR_l, al_l, nA_i, nZ_i, nQ_i, pI_i, pR_i, al_i, h1, h2, a15 c i h1 h2]
set_option maxHeartbeats 2000000 in
theorem lp_Ch_init {sc : Nat × (Nat → Int32)} {d : Nat} {h0 : AH} : ∀ (k j : Nat) (h : AH), CJ j h0 h → j + k = 4 → Go sc false false (d + 2) (k * 4) (k * 200) mCh_init 41 [vO 1 0, vI (nI j)] [] h (PN (CJ 4 h0)) := by
  intro k
  induction k with
  | zero =>
    intro j h K hj
    have e : j = 4 := by omega
    subst e
    refine Go.iload_n dCh_init_41 rfl ?_
    refine Go.iconst (v := nI 4) dCh_init_42 (by decide) ?_
    refine Go.icmp_ge (tgt := 65) dCh_init_43 (by decide) (fun q1 => ?_) (fun q1 => ?_)
    · replace q1 := tle q1 (by omega) (by omega)
      refine Go.vret dCh_init_65 rfl (by decide) ?_
      exact ⟨rfl, K⟩
    · replace q1 := tnle q1 (by omega) (by omega)
      exact absurd (show (4 : Nat) < 4 from by assumption) (by decide)
  | succ k ih =>
    intro j h K hj
    rw [show (k + 1) * 4 = (k * 4 + 3) + 1 from by omega, show (k + 1) * 200 = (k * 200 + 197) + ma_nf 2 from by show (k + 1) * 200 = k * 200 + 197 + 3; omega]
    refine Go.iload_n dCh_init_41 rfl ?_
    refine Go.iconst (v := nI 4) dCh_init_42 (by decide) ?_
    refine Go.icmp_ge (tgt := 65) dCh_init_43 (by decide) (fun q2 => ?_) (fun q2 => ?_)
    · replace q2 := tle q2 (by omega) (by omega)
      omega
    · replace q2 := tnle q2 (by omega) (by omega)
      refine Go.aload_n dCh_init_46 rfl (Nat.ne_of_beq_eq_false rfl) ?_
      refine Go.getR dCh_init_47 flCh_11 (Nat.le_of_ble_eq_true rfl) rfl K.1 ?_
      refine Go.iload_n dCh_init_50 rfl ?_
      refine Go.new dCh_init_51 nwCh_9 (Nat.le_of_ble_eq_true rfl) ?_
      refine Go.dup trivial dCh_init_54 ?_
      refine Go.cJn mOr_init [] dCh_init_55 vwCh_32 (Nat.le_of_ble_eq_true rfl) rfl rfl (Nat.le_of_ble_eq_true rfl) rfl (Nat.le_of_ble_eq_true rfl) (g_Or_init _) (fun h9 e9 => ?_)
      subst e9
      refine Go.aast (jn := j) dCh_init_58 (by decide) (Nat.le_of_ble_eq_true rfl) rfl rfl rfl (Nat.lt_of_lt_of_eq (by omega) (K.2.1).symm) (by omega) ?_
      refine Go.hav (Kp := CJ (j + 1) h0) (by
        have z : ma_n h 2 = j := K.2.2.2.2.2.2.2.2.2.1
        have y := K.step (show j < 4 from by omega)
        rw [z]
        exact y) (fun h8 K => ?_)
      refine Go.iinc (v := nI (j + 1)) dCh_init_59 (by decide) rfl (nI_inc _) rfl ?_
      refine Go.goto (tgt := 41) dCh_init_62 (by decide) ?_
      exact ih (j + 1) h8 K (by omega)
set_option maxHeartbeats 2000000 in
theorem g_Ch_init {sc : Nat × (Nat → Int32)} {d bc bs : Nat} {h : AH} (n112 : ma_n h 112 = 0) (n100 : ma_n h 100 = 0) (n2 : ma_n h 2 = 0) : Go sc true false (d + 2) 20 818 mCh_init 0 [vO 1 0, vU] [] h (PN (CJ 4 h)) := by
  refine Go.aload_n dCh_init_0 rfl (Nat.ne_of_beq_eq_false rfl) ?_
  refine Go.objInit dCh_init_1 obCh_3 (by omega) (Nat.le_of_ble_eq_true rfl) ?_
  refine Go.aload_n dCh_init_4 rfl (Nat.ne_of_beq_eq_false rfl) ?_
  refine Go.iconst (v := nI 4) dCh_init_5 (by decide) ?_
  refine Go.newq (a := 112) (N := 4) (C := "DockBook$DoorOrders") dCh_init_6 (by decide) rfl (ma_in (by decide +kernel) rfl) (ma_in (by decide +kernel) rfl) rfl (by decide) ?_
  refine Go.putR dCh_init_9 fwCh_init_11 (Nat.le_of_ble_eq_true rfl) (by decide) rfl (fun _ => ⟨rfl, rfl⟩) ?_
  refine Go.aload_n dCh_init_12 rfl (Nat.ne_of_beq_eq_false rfl) ?_
  refine Go.iconst (v := nI 4) dCh_init_13 (by decide) ?_
  refine Go.newi (N := 4) dCh_init_14 (ma_in (by decide +kernel) rfl) rfl (by decide) ?_
  refine Go.putR dCh_init_16 fwCh_init_17 (Nat.le_of_ble_eq_true rfl) (by decide) rfl (fun _ => ⟨rfl, rfl⟩) ?_
  refine Go.aload_n dCh_init_19 rfl (Nat.ne_of_beq_eq_false rfl) ?_
  refine Go.iconst (v := nI 5) dCh_init_20 (by decide) ?_
  refine Go.newi (N := 5) dCh_init_21 (ma_in (by decide +kernel) rfl) rfl (by decide) ?_
  refine Go.putR dCh_init_23 fwCh_init_21 (Nat.le_of_ble_eq_true rfl) (by decide) rfl (fun _ => ⟨rfl, rfl⟩) ?_
  refine Go.aload_n dCh_init_26 rfl (Nat.ne_of_beq_eq_false rfl) ?_
  refine Go.iconst (v := nI 5) dCh_init_27 (by decide) ?_
  refine Go.newi (N := 5) dCh_init_28 (ma_in (by decide +kernel) rfl) rfl (by decide) ?_
  refine Go.putR dCh_init_30 fwCh_init_24 (Nat.le_of_ble_eq_true rfl) (by decide) rfl (fun _ => ⟨rfl, rfl⟩) ?_
  refine Go.aload_n dCh_init_33 rfl (Nat.ne_of_beq_eq_false rfl) ?_
  refine Go.ldci dCh_init_34 lcCh_27 ?_
  refine Go.putI dCh_init_36 fwCh_init_28 (Nat.le_of_ble_eq_true rfl) rfl ⟨rfl, rfl⟩ ?_
  refine Go.hav (Kp := CJ 0 h) (CJ.start n112 n100 n2) (fun h1 K => ?_)
  refine Go.iconst (v := nI 0) dCh_init_39 (by decide) ?_
  refine Go.istore_n dCh_init_40 (by decide) rfl ?_
  exact Go.weak (lp_Ch_init 4 0 h1 K rfl)
theorem SC.of {h h' : AH} (r : ∀ c i k, c = 1 ∨ c = 2 ∨ c = 112 → h'.2.1 c i k = h.2.1 c i k) (l : ∀ c i, c = 100 ∨ c = 112 → h'.2.2.2.1 c i = h.2.2.2.1 c i) (s : SC h) : SC h' :=
  ⟨(r _ _ _ (by omega)).trans s.orders, (l _ _ (by omega)).trans s.lorders, (r _ _ _ (by omega)).trans s.setAt, (l _ _ (by omega)).trans s.lsetAt, (r _ _ _ (by omega)).trans s.chosen, (l _ _ (by omega)).trans s.lchosen, (r _ _ _ (by omega)).trans s.best, (l _ _ (by omega)).trans s.lbest,
   fun i hi => (r _ _ _ (by omega)).trans (s.order i hi), fun i hi => (r _ _ _ (by omega)).trans (s.costs i hi), fun i hi => (l _ _ (by omega)).trans (s.lcosts i hi), fun i hi => (r _ _ _ (by omega)).trans (s.bests i hi), fun i hi => (l _ _ (by omega)).trans (s.lbests i hi), fun i hi => (r _ _ _ (by omega)).trans (s.starts i hi), fun i hi => (l _ _ (by omega)).trans (s.lstarts i hi)⟩
theorem CJ.sc {h0 h : AH} (K : CJ 4 h0 h) : SC h := by
  obtain ⟨a1, a2, a3, a4, a5, a6, a7, a8, a9, -⟩ := K
  exact ⟨a1, a2, a3, a4, a5, a6, a7, a8, fun i hi => (a9 i hi).1, fun i hi => (a9 i hi).2.1, fun i hi => (a9 i hi).2.2.1, fun i hi => (a9 i hi).2.2.2.1, fun i hi => (a9 i hi).2.2.2.2.1, fun i hi => (a9 i hi).2.2.2.2.2.1, fun i hi => (a9 i hi).2.2.2.2.2.2⟩
/-- the book, with a doors and b trucks made -/
def BJ (a b : Nat) (h : AH) : Prop := h.2.1 4 0 0 = some (110, 0) ∧ h.2.1 4 0 1 = some (113, 0) ∧ h.2.1 4 0 2 = some (113, 1) ∧ h.2.1 4 0 3 = some (1, 0) ∧ h.2.2.2.1 110 0 = 4 ∧ h.2.2.2.1 113 0 = 12 ∧ h.2.2.2.1 113 1 = 12 ∧ SC h ∧ h.1 4 0 4 = 0 ∧ h.1 4 0 5 = 0 ∧ h.1 4 0 6 = 0 ∧ h.1 4 0 7 = 0 ∧ (∀ i, i < a → h.2.1 110 0 i = some (0, i)) ∧ (∀ i, i < b → h.2.1 113 0 i = some (3, i) ∧ h.2.1 113 1 i = some (3, i)) ∧ ma_n h 0 = a ∧ ma_n h 3 = b ∧ ma_n h 100 = 15 ∧ ma_n h 5 = 0 ∧ ma_n h 101 = 0 ∧ ma_n h 102 = 0 ∧ ∀ c i k, 5 ≤ c → h.1 c i k = 0
set_option maxHeartbeats 4000000 in
theorem BJ.start {h1 : AH} (K : CJ 4 (ma_al (nQ (nQ (nQ (ma_al ma_h0 4) 110 4 4 0 0) 113 12 4 0 1) 113 12 4 0 2) 1) h1) : BJ 0 0 (pI (pI (pI (pI (pI (pR h1 4 0 3 (1, 0)) 4 0 4 (nI 0)) 4 0 5 (nI 0)) 4 0 6 (nI 0)) 4 0 7 (nI 0)) 4 0 8 (nI 0)) := by
  have s := K.sc
  obtain ⟨-, -, -, -, -, -, -, -, -, a10, a11, a12, a13, a14, a15⟩ := K
  have r : ∀ i k, h1.2.1 4 i k = _ := fun i k => a14 4 i k (by decide) (by decide) (by decide)
  have l : ∀ i, h1.2.2.2.1 110 i = _ := fun i => a15 110 i (by decide) (by decide)
  have l' : ∀ i, h1.2.2.2.1 113 i = _ := fun i => a15 113 i (by decide) (by decide)
  have z0 : ∀ k, ma_n ma_h0 k = 0 := fun _ => rfl
  refine ⟨?_, ?_, ?_, ?_, ?_, ?_, ?_, SC.of (h := h1) (fun c i k hc => ?_) (fun c i hc => rfl) s, rfl, rfl, rfl, rfl, fun i hi => absurd hi (Nat.not_lt_zero i), fun i hi => absurd hi (Nat.not_lt_zero i), ?_, ?_, ?_, ?_, ?_, ?_, fun c i k hc => ?_⟩
  · simp [nA_n, nZ_n, nQ_n, pI_n, pR_n, al_n, nA_r, nZ_r, nQ_r, pI_r, pR_r, al_r, nA_l, nZ_l, nQ_l, pI_l, pR_l, al_l, nA_i, nZ_i, nQ_i, pI_i, pR_i, al_i, r, z0]
  · simp [nA_n, nZ_n, nQ_n, pI_n, pR_n, al_n, nA_r, nZ_r, nQ_r, pI_r, pR_r, al_r, nA_l, nZ_l, nQ_l, pI_l, pR_l, al_l, nA_i, nZ_i, nQ_i, pI_i, pR_i, al_i, r, z0]
  · simp [nA_n, nZ_n, nQ_n, pI_n, pR_n, al_n, nA_r, nZ_r, nQ_r, pI_r, pR_r, al_r, nA_l, nZ_l, nQ_l, pI_l, pR_l, al_l, nA_i, nZ_i, nQ_i, pI_i, pR_i, al_i, r, z0]
  · simp [nA_n, nZ_n, nQ_n, pI_n, pR_n, al_n, nA_r, nZ_r, nQ_r, pI_r, pR_r, al_r, nA_l, nZ_l, nQ_l, pI_l, pR_l, al_l, nA_i, nZ_i, nQ_i, pI_i, pR_i, al_i]
  · simp [nA_n, nZ_n, nQ_n, pI_n, pR_n, al_n, nA_r, nZ_r, nQ_r, pI_r, pR_r, al_r, nA_l, nZ_l, nQ_l, pI_l, pR_l, al_l, nA_i, nZ_i, nQ_i, pI_i, pR_i, al_i, l, z0]
  · simp [nA_n, nZ_n, nQ_n, pI_n, pR_n, al_n, nA_r, nZ_r, nQ_r, pI_r, pR_r, al_r, nA_l, nZ_l, nQ_l, pI_l, pR_l, al_l, nA_i, nZ_i, nQ_i, pI_i, pR_i, al_i, l', z0]
  · simp [nA_n, nZ_n, nQ_n, pI_n, pR_n, al_n, nA_r, nZ_r, nQ_r, pI_r, pR_r, al_r, nA_l, nZ_l, nQ_l, pI_l, pR_l, al_l, nA_i, nZ_i, nQ_i, pI_i, pR_i, al_i, l', z0]
  · have hc4 : c ≠ 4 := by omega
    simp [nA_n, nZ_n, nQ_n, pI_n, pR_n, al_n, nA_r, nZ_r, nQ_r, pI_r, pR_r, al_r, nA_l, nZ_l, nQ_l, pI_l, pR_l, al_l, nA_i, nZ_i, nQ_i, pI_i, pR_i, al_i, hc4]
  · simp [nA_n, nZ_n, nQ_n, pI_n, pR_n, al_n, nA_r, nZ_r, nQ_r, pI_r, pR_r, al_r, nA_l, nZ_l, nQ_l, pI_l, pR_l, al_l, nA_i, nZ_i, nQ_i, pI_i, pR_i, al_i, a12 0 (by decide) (by decide) (by decide), z0]
  · simp [nA_n, nZ_n, nQ_n, pI_n, pR_n, al_n, nA_r, nZ_r, nQ_r, pI_r, pR_r, al_r, nA_l, nZ_l, nQ_l, pI_l, pR_l, al_l, nA_i, nZ_i, nQ_i, pI_i, pR_i, al_i, a12 3 (by decide) (by decide) (by decide), z0]
  · simp [nA_n, nZ_n, nQ_n, pI_n, pR_n, al_n, nA_r, nZ_r, nQ_r, pI_r, pR_r, al_r, nA_l, nZ_l, nQ_l, pI_l, pR_l, al_l, nA_i, nZ_i, nQ_i, pI_i, pR_i, al_i, a11]
  · simp [nA_n, nZ_n, nQ_n, pI_n, pR_n, al_n, nA_r, nZ_r, nQ_r, pI_r, pR_r, al_r, nA_l, nZ_l, nQ_l, pI_l, pR_l, al_l, nA_i, nZ_i, nQ_i, pI_i, pR_i, al_i, a12 5 (by decide) (by decide) (by decide), z0]
  · simp [nA_n, nZ_n, nQ_n, pI_n, pR_n, al_n, nA_r, nZ_r, nQ_r, pI_r, pR_r, al_r, nA_l, nZ_l, nQ_l, pI_l, pR_l, al_l, nA_i, nZ_i, nQ_i, pI_i, pR_i, al_i, a12 101 (by decide) (by decide) (by decide), z0]
  · simp [nA_n, nZ_n, nQ_n, pI_n, pR_n, al_n, nA_r, nZ_r, nQ_r, pI_r, pR_r, al_r, nA_l, nZ_l, nQ_l, pI_l, pR_l, al_l, nA_i, nZ_i, nQ_i, pI_i, pR_i, al_i, a12 102 (by decide) (by decide) (by decide), z0]
  · have hc4 : c ≠ 4 := by omega
    simp [nA_n, nZ_n, nQ_n, pI_n, pR_n, al_n, nA_r, nZ_r, nQ_r, pI_r, pR_r, al_r, nA_l, nZ_l, nQ_l, pI_l, pR_l, al_l, nA_i, nZ_i, nQ_i, pI_i, pR_i, al_i, hc4, a13 c i k (by omega), ma_h0]
theorem BJ.stepD {a b : Nat} {h z : AH} (K : BJ a b h) (Z : Ow 0 a (ma_al h 0) z) : BJ (a + 1) b (pR z 110 0 a (0, a)) := by
  obtain ⟨a1, a2, a3, a4, a5, a6, a7, a8, a9, a10, a11, a12, a13, a14, a15, a16, a17, a18, a19, a20, a21⟩ := K
  obtain ⟨m, q⟩ := z
  have e : q = (ma_al h 0).2 := Z.1
  subst e
  have zi : ∀ c i k, c ≠ 0 → m c i k = h.1 c i k := fun c i k hc => Z.2 c i k (by omega)
  refine ⟨a1, a2, a3, a4, a5, a6, a7, SC.of (h := h) (fun c i k hc => ?_) (fun c i hc => rfl) a8, (zi _ _ _ (by decide)).trans a9, (zi _ _ _ (by decide)).trans a10, (zi _ _ _ (by decide)).trans a11, (zi _ _ _ (by decide)).trans a12, fun i hi => ?_, fun i hi => ?_, ?_, ?_, ?_, ?_, ?_, ?_, fun c i k hc => (zi _ _ _ (by omega)).trans (a21 c i k hc)⟩
  · show ma_up h.2.1 110 0 a (some (0, a)) c i k = _
    exact ma_up_ne (by omega)
  · show ma_up h.2.1 110 0 a (some (0, a)) 110 0 i = _
    exact ma_up_cases (fun v => v = some (0, i)) (fun e => by rw [e]) (fun _ => a13 i (by omega))
  · show ma_up h.2.1 110 0 a (some (0, a)) 113 0 i = _ ∧ ma_up h.2.1 110 0 a (some (0, a)) 113 1 i = _
    rw [ma_up_ne (by omega), ma_up_ne (by omega)]
    exact a14 i hi
  · show va_up (ma_n h) 0 (ma_n h 0 + 1) 0 = a + 1
    rw [va_up_at, if_pos rfl, a15]
  · exact a16
  · exact a17
  · exact a18
  · exact a19
  · exact a20
theorem BJ.stepT {a b : Nat} {h z : AH} (K : BJ a b h) (Z : Ow 3 b (ma_al h 3) z) : BJ a (b + 1) (pR (pR z 113 0 b (3, b)) 113 1 b (3, b)) := by
  obtain ⟨a1, a2, a3, a4, a5, a6, a7, a8, a9, a10, a11, a12, a13, a14, a15, a16, a17, a18, a19, a20, a21⟩ := K
  obtain ⟨m, q⟩ := z
  have e : q = (ma_al h 3).2 := Z.1
  subst e
  have zi : ∀ c i k, c ≠ 3 → m c i k = h.1 c i k := fun c i k hc => Z.2 c i k (by omega)
  refine ⟨a1, a2, a3, a4, a5, a6, a7, SC.of (h := h) (fun c i k hc => ?_) (fun c i hc => rfl) a8, (zi _ _ _ (by decide)).trans a9, (zi _ _ _ (by decide)).trans a10, (zi _ _ _ (by decide)).trans a11, (zi _ _ _ (by decide)).trans a12, fun i hi => ?_, fun i hi => ?_, ?_, ?_, ?_, ?_, ?_, ?_, fun c i k hc => (zi _ _ _ (by omega)).trans (a21 c i k hc)⟩
  · show ma_up (ma_up h.2.1 113 0 b (some (3, b))) 113 1 b (some (3, b)) c i k = _
    rw [ma_up_ne (by omega), ma_up_ne (by omega)]
  · show ma_up (ma_up h.2.1 113 0 b (some (3, b))) 113 1 b (some (3, b)) 110 0 i = _
    rw [ma_up_ne (by omega), ma_up_ne (by omega)]
    exact a13 i hi
  · show ma_up (ma_up h.2.1 113 0 b (some (3, b))) 113 1 b (some (3, b)) 113 0 i = _ ∧ ma_up (ma_up h.2.1 113 0 b (some (3, b))) 113 1 b (some (3, b)) 113 1 i = _
    constructor
    · rw [ma_up_ne (by omega)]
      exact ma_up_cases (fun v => v = some (3, i)) (fun e => by rw [e]) (fun _ => (a14 i (by omega)).1)
    · refine ma_up_cases (fun v => v = some (3, i)) (fun e => by rw [e]) (fun _ => ?_)
      rw [ma_up_ne (by omega)]
      exact (a14 i (by omega)).2
  · exact a15
  · show va_up (ma_n h) 3 (ma_n h 3 + 1) 3 = b + 1
    rw [va_up_at, if_pos rfl, a16]
  · exact a17
  · exact a18
  · exact a19
  · exact a20
theorem BJ.kb {h : AH} (K : BJ 4 12 h) : KB ((0, 0), 0) h h := by
  obtain ⟨a1, a2, a3, a4, a5, a6, a7, a8, a9, a10, a11, a12, a13, a14, -, -, -, -, -, -, a21⟩ := K
  exact ⟨⟨a1, a2, a3, a4, a5, a6, a7, a13, fun i hi => (a14 i hi).1⟩, a8, a9, by decide, a10, by decide, a11, Or.inl a12, fun i hi => ⟨i, hi, (a14 i hi).2⟩, fun k _ => Or.inr ⟨0, by decide, a21 100 2 k (by decide)⟩, fun k _ => Or.inr ⟨0, by decide, a21 100 1 k (by decide)⟩, fun k _ => ⟨0, by decide, a21 100 0 k (by decide)⟩, FrB.rf⟩
set_option maxHeartbeats 2000000 in
theorem lp_Bk_init2 {sc : Nat × (Nat → Int32)} {d : Nat} : ∀ (k j : Nat) (h : AH), BJ 4 j h → j + k = 12 → Go sc false false (d + 2) (k * 1) (k * 14) mBk_init 94 [vO 4 0, vI (nI j)] [] h (PN (BJ 4 12)) := by
  intro k
  induction k with
  | zero =>
    intro j h K hj
    have e : j = 12 := by omega
    subst e
    refine Go.iload_n dBk_init_94 rfl ?_
    refine Go.bipush (v := nI 12) dBk_init_95 (by decide) ?_
    refine Go.icmp_ge (tgt := 132) dBk_init_97 (by decide) (fun q3 => ?_) (fun q3 => ?_)
    · replace q3 := tle q3 (by omega) (by omega)
      refine Go.vret dBk_init_132 rfl (by decide) ?_
      exact ⟨rfl, K⟩
    · replace q3 := tnle q3 (by omega) (by omega)
      exact absurd (show (12 : Nat) < 12 from by assumption) (by decide)
  | succ k ih =>
    intro j h K hj
    have z : ma_n h 3 = j := K.2.2.2.2.2.2.2.2.2.2.2.2.2.2.2.1
    rw [show (k + 1) * 1 = k * 1 + 0 + 1 from by omega, show (k + 1) * 14 = k * 14 + 0 + ma_nf 3 from by show (k + 1) * 14 = k * 14 + 0 + 14; omega]
    refine Go.iload_n dBk_init_94 rfl ?_
    refine Go.bipush (v := nI 12) dBk_init_95 (by decide) ?_
    refine Go.icmp_ge (tgt := 132) dBk_init_97 (by decide) (fun q4 => ?_) (fun q4 => ?_)
    · replace q4 := tle q4 (by omega) (by omega)
      omega
    · replace q4 := tnle q4 (by omega) (by omega)
      refine Go.aload_n dBk_init_100 rfl (Nat.ne_of_beq_eq_false rfl) ?_
      refine Go.getR dBk_init_101 flBk_17 (Nat.le_of_ble_eq_true rfl) rfl K.2.1 ?_
      refine Go.iload_n dBk_init_104 rfl ?_
      refine Go.new dBk_init_105 nwBk_15 (Nat.le_of_ble_eq_true rfl) ?_
      refine Go.dup trivial dBk_init_108 ?_
      refine Go.iload_n dBk_init_109 rfl ?_
      rw [z]
      refine Go.cIn (bc2 := 0) (bs2 := 0) mTr_init [vI (nI (j))] dBk_init_110 vwBk_49 (Nat.le_of_ble_eq_true rfl) rfl rfl (Nat.le_of_ble_eq_true rfl) rfl (Nat.le_of_ble_eq_true rfl) (g_Tr_init _ _) (fun h9 Z => ?_)
      obtain ⟨m9, r9⟩ := h9
      have e9 : r9 = (ma_al h 3).2 := Z.1
      subst e9
      refine Go.aast (jn := j) dBk_init_113 (by decide) (Nat.le_of_ble_eq_true rfl) rfl rfl rfl (Nat.lt_of_lt_of_eq (by omega) (K.2.2.2.2.2.1).symm) (by omega) ?_
      refine Go.aload_n dBk_init_114 rfl (Nat.ne_of_beq_eq_false rfl) ?_
      refine Go.getR dBk_init_115 flBk_21 (Nat.le_of_ble_eq_true rfl) rfl K.2.2.1 ?_
      refine Go.iload_n dBk_init_118 rfl ?_
      refine Go.aload_n dBk_init_119 rfl (Nat.ne_of_beq_eq_false rfl) ?_
      refine Go.getR dBk_init_120 flBk_17 (Nat.le_of_ble_eq_true rfl) rfl K.2.1 ?_
      refine Go.iload_n dBk_init_123 rfl ?_
      refine Go.aald (jn := j) dBk_init_124 (by decide) rfl rfl (Nat.lt_of_lt_of_eq (by omega) (K.2.2.2.2.2.1).symm) (by omega) (by show ma_up _ 113 0 j _ 113 0 j = _; exact ma_up_self _ _ _ _ _) ?_
      refine Go.aast (jn := j) dBk_init_125 (by decide) (Nat.le_of_ble_eq_true rfl) rfl rfl rfl (Nat.lt_of_lt_of_eq (by omega) (K.2.2.2.2.2.2.1).symm) (by omega) ?_
      refine Go.hav (Kp := BJ 4 (j + 1)) (by
        have y := K.stepT Z
        exact y) (fun h8 K => ?_)
      refine Go.iinc (v := nI (j + 1)) dBk_init_126 (by decide) rfl (nI_inc _) rfl ?_
      refine Go.goto (tgt := 94) dBk_init_129 (by decide) ?_
      exact ih (j + 1) h8 K (by omega)
set_option maxHeartbeats 2000000 in
theorem lp_Bk_init1 {sc : Nat × (Nat → Int32)} {d : Nat} : ∀ (k j : Nat) (h : AH), BJ j 0 h → j + k = 4 → Go sc false false (d + 2) (12 + k * 1) (168 + k * 8) mBk_init 68 [vO 4 0, vI (nI j)] [] h (PN (BJ 4 12)) := by
  intro k
  induction k with
  | zero =>
    intro j h K hj
    have e : j = 4 := by omega
    subst e
    refine Go.iload_n dBk_init_68 rfl ?_
    refine Go.iconst (v := nI 4) dBk_init_69 (by decide) ?_
    refine Go.icmp_ge (tgt := 92) dBk_init_70 (by decide) (fun q6 => ?_) (fun q6 => ?_)
    · replace q6 := tle q6 (by omega) (by omega)
      refine Go.iconst (v := nI 0) dBk_init_92 (by decide) ?_
      refine Go.istore_n dBk_init_93 (by decide) rfl ?_
      exact lp_Bk_init2 12 0 h K rfl
    · replace q6 := tnle q6 (by omega) (by omega)
      exact absurd (show (4 : Nat) < 4 from by assumption) (by decide)
  | succ k ih =>
    intro j h K hj
    have z : ma_n h 0 = j := K.2.2.2.2.2.2.2.2.2.2.2.2.2.2.1
    rw [show 12 + (k + 1) * 1 = 12 + k * 1 + 0 + 1 from by omega, show 168 + (k + 1) * 8 = 168 + k * 8 + 0 + ma_nf 0 from by show 168 + (k + 1) * 8 = 168 + k * 8 + 0 + 8; omega]
    refine Go.iload_n dBk_init_68 rfl ?_
    refine Go.iconst (v := nI 4) dBk_init_69 (by decide) ?_
    refine Go.icmp_ge (tgt := 92) dBk_init_70 (by decide) (fun q7 => ?_) (fun q7 => ?_)
    · replace q7 := tle q7 (by omega) (by omega)
      omega
    · replace q7 := tnle q7 (by omega) (by omega)
      refine Go.aload_n dBk_init_73 rfl (Nat.ne_of_beq_eq_false rfl) ?_
      refine Go.getR dBk_init_74 flBk_11 (Nat.le_of_ble_eq_true rfl) rfl K.1 ?_
      refine Go.iload_n dBk_init_77 rfl ?_
      refine Go.new dBk_init_78 nwBk_9 (Nat.le_of_ble_eq_true rfl) ?_
      refine Go.dup trivial dBk_init_81 ?_
      rw [z]
      refine Go.cJn (bc2 := 0) (bs2 := 0) mDo_init [] dBk_init_82 vwBk_48 (Nat.le_of_ble_eq_true rfl) rfl rfl (Nat.le_of_ble_eq_true rfl) rfl (Nat.le_of_ble_eq_true rfl) (g_Do_init _) (fun h9 Z => ?_)
      obtain ⟨m9, r9⟩ := h9
      have e9 : r9 = (ma_al h 0).2 := Z.1
      subst e9
      refine Go.aast (jn := j) dBk_init_85 (by decide) (Nat.le_of_ble_eq_true rfl) rfl rfl rfl (Nat.lt_of_lt_of_eq (by omega) (K.2.2.2.2.1).symm) (by omega) ?_
      refine Go.hav (Kp := BJ (j + 1) 0) (by
        have y := K.stepD Z
        exact y) (fun h8 K => ?_)
      refine Go.iinc (v := nI (j + 1)) dBk_init_86 (by decide) rfl (nI_inc _) rfl ?_
      refine Go.goto (tgt := 68) dBk_init_89 (by decide) ?_
      exact ih (j + 1) h8 K (by omega)
set_option maxHeartbeats 2000000 in
theorem g_Bk_init {sc : Nat × (Nat → Int32)} {d : Nat} : Go sc true false (d + 3) 40 1051 mBk_init 0 [vO 4 0, vU] [] (ma_al ma_h0 4) (PN (BJ 4 12)) := by
  refine Go.aload_n dBk_init_0 rfl (Nat.ne_of_beq_eq_false rfl) ?_
  refine Go.objInit dBk_init_1 obBk_3 (by omega) (Nat.le_of_ble_eq_true rfl) ?_
  refine Go.aload_n dBk_init_4 rfl (Nat.ne_of_beq_eq_false rfl) ?_
  refine Go.iconst (v := nI 4) dBk_init_5 (by decide) ?_
  refine Go.newq (a := 110) (N := 4) (C := "DockBook$Door") dBk_init_6 (by decide) rfl (ma_in (by decide +kernel) rfl) (ma_in (by decide +kernel) rfl) rfl (by decide) ?_
  refine Go.putR dBk_init_9 fwBk_init_11 (Nat.le_of_ble_eq_true rfl) (by decide) rfl (fun _ => ⟨rfl, rfl⟩) ?_
  refine Go.aload_n dBk_init_12 rfl (Nat.ne_of_beq_eq_false rfl) ?_
  refine Go.bipush (v := nI 12) dBk_init_13 (by decide) ?_
  refine Go.newq (a := 113) (N := 12) (C := "DockBook$Truck") dBk_init_15 (by decide) rfl (ma_in (by decide +kernel) rfl) (ma_in (by decide +kernel) rfl) rfl (by decide) ?_
  refine Go.putR dBk_init_18 fwBk_init_17 (Nat.le_of_ble_eq_true rfl) (by decide) rfl (fun _ => ⟨rfl, rfl⟩) ?_
  refine Go.aload_n dBk_init_21 rfl (Nat.ne_of_beq_eq_false rfl) ?_
  refine Go.bipush (v := nI 12) dBk_init_22 (by decide) ?_
  refine Go.newq (a := 113) (N := 12) (C := "DockBook$Truck") dBk_init_24 (by decide) rfl (ma_in (by decide +kernel) rfl) (ma_in (by decide +kernel) rfl) rfl (by decide) ?_
  refine Go.putR dBk_init_27 fwBk_init_21 (Nat.le_of_ble_eq_true rfl) (by decide) rfl (fun _ => ⟨rfl, rfl⟩) ?_
  refine Go.aload_n dBk_init_30 rfl (Nat.ne_of_beq_eq_false rfl) ?_
  rw [show (1023 : Nat) = 1018 + ma_nf 1 from by decide]
  refine Go.new dBk_init_31 nwBk_24 (Nat.le_of_ble_eq_true rfl) ?_
  refine Go.dup trivial dBk_init_34 ?_
  refine Go.cIn (bc2 := 20) (bs2 := 818) mCh_init [] dBk_init_35 vwBk_26 (Nat.le_of_ble_eq_true rfl) rfl rfl (Nat.le_of_ble_eq_true rfl) rfl (Nat.le_of_ble_eq_true rfl) (g_Ch_init (bc := 0) (bs := 0) rfl rfl rfl) (fun h1 K1 => ?_)
  refine Go.putR dBk_init_38 fwBk_init_27 (Nat.le_of_ble_eq_true rfl) (by decide) rfl (fun _ => ⟨rfl, rfl⟩) ?_
  refine Go.aload_n dBk_init_41 rfl (Nat.ne_of_beq_eq_false rfl) ?_
  refine Go.iconst (v := nI 0) dBk_init_42 (by decide) ?_
  refine Go.putI dBk_init_43 fwBk_init_31 (Nat.le_of_ble_eq_true rfl) rfl ⟨rfl, rfl⟩ ?_
  refine Go.aload_n dBk_init_46 rfl (Nat.ne_of_beq_eq_false rfl) ?_
  refine Go.iconst (v := nI 0) dBk_init_47 (by decide) ?_
  refine Go.putI dBk_init_48 fwBk_init_35 (Nat.le_of_ble_eq_true rfl) rfl ⟨rfl, rfl⟩ ?_
  refine Go.aload_n dBk_init_51 rfl (Nat.ne_of_beq_eq_false rfl) ?_
  refine Go.iconst (v := nI 0) dBk_init_52 (by decide) ?_
  refine Go.putI dBk_init_53 fwBk_init_38 (Nat.le_of_ble_eq_true rfl) rfl ⟨rfl, rfl⟩ ?_
  refine Go.aload_n dBk_init_56 rfl (Nat.ne_of_beq_eq_false rfl) ?_
  refine Go.iconst (v := nI 0) dBk_init_57 (by decide) ?_
  refine Go.putI dBk_init_58 fwBk_init_41 (Nat.le_of_ble_eq_true rfl) rfl ⟨rfl, rfl⟩ ?_
  refine Go.aload_n dBk_init_61 rfl (Nat.ne_of_beq_eq_false rfl) ?_
  refine Go.iconst (v := nI 0) dBk_init_62 (by decide) ?_
  refine Go.putI dBk_init_63 fwBk_init_45 (Nat.le_of_ble_eq_true rfl) rfl ⟨rfl, rfl⟩ ?_
  refine Go.hav (Kp := BJ 0 0) (BJ.start K1) (fun h2 K => ?_)
  refine Go.iconst (v := nI 0) dBk_init_66 (by decide) ?_
  refine Go.istore_n dBk_init_67 (by decide) rfl ?_
  exact Go.weak (lp_Bk_init1 4 0 h2 K rfl)
