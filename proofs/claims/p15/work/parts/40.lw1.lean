/-! THE LAW, 1: what it needs of class and reference -/
def WB (G : GB) (h h' : AH) : Prop := ∃ G2 : GB, KB G2 h h' ∧ G2.1.2 = G.1.2 ∧ G2.2 = G.2
def WR (G : GR) (h h' : AH) : Prop := ∃ G2 : GR, KR G2 h h' ∧ G2.1.2.1 = G.1.2.1 ∧ G2.2.1 = G.2.1
theorem KB.wb {G : GB} {h h' : AH} (K : KB G h h') : WB G h h' := ⟨G, K, rfl, rfl⟩
theorem KR.wr {G : GR} {h h' : AH} (K : KR G h h') : WR G h h' := ⟨G, K, rfl, rfl⟩
theorem OB.mono {P P' : AH → Prop} {h : AH} {ks ks' : List Nat} (hp : ∀ h', P h' → P' h') (hk : ∀ k, k ∈ ks → k ∈ ks') : ∀ g h', OB P h ks g h' → OB P' h ks' g h' := fun g h' q => q.imp (fun ⟨v, e, p⟩ => ⟨v, e, hp _ p⟩) (fun ⟨k, a, e⟩ => ⟨k, hk _ a, e⟩)
theorem ON.mono {P P' : AH → Prop} {h : AH} {ks ks' : List Nat} (hp : ∀ h', P h' → P' h') (hk : ∀ k, k ∈ ks → k ∈ ks') : ∀ g h', ON P h ks g h' → ON P' h ks' g h' := fun g h' q => q.imp (fun ⟨e, p⟩ => ⟨e, hp _ p⟩) (fun ⟨k, a, e⟩ => ⟨k, hk _ a, e⟩)
/-- what reads alone may be said to write -/
theorem Go.dirty {sc : Nat × (Nat → Int32)} {cl : Bool} {d bc bs : Nat} {y : MD} {pc : Nat} {ls st : List AV} {h : AH} {Q : GO → AH → Prop} (k : Go sc cl true d bc bs y pc ls st h Q) : Go sc cl false d bc bs y pc ls st h Q := by
  intro p l e R s m args below meth c H locs cells slots mc ms D aC A ad ad0 n0 L S hC hDy
  refine ma_W_mono ?_ (k p l e R s m args below meth c H locs cells slots mc ms D aC A ad ad0 n0 L S hC hDy)
  rintro t ⟨o, h1, h2, h3, ⟨L9, h4, h5, h6⟩, h7⟩
  exact ⟨o, h1, h2, h3, ⟨L9, h4, h5, fun z => nomatch z⟩, h7⟩
theorem w_Bk_exact {sc : Nat × (Nat → Int32)} {d : Nat} {G : GB} {h : AH} (K : KB G h h) : Go sc true false (d + 20) 0 0 mBk_exact 0 [vO 4 0] [] h (rP (fun _ => True) h) := by
  exact Go.dirty (Go.mono (fun g h1 q => ⟨_, q.1, trivial, q.2⟩) (Go.wide (bc := 0) (bs := 0) (g_Bk_exact (d := 20) K.ex) (by omega) (by omega) (by omega)))
theorem w_Bk_moved {sc : Nat × (Nat → Int32)} {d : Nat} {G : GB} {h : AH} (K : KB G h h) : Go sc true false (d + 20) 0 0 mBk_moved 0 [vO 4 0] [] h (rP (fun _ => True) h) := by
  exact Go.dirty (Go.mono (fun g h1 q => ⟨_, q.1, trivial, q.2⟩) (Go.wide (bc := 0) (bs := 0) (g_Bk_moved (d := 20) K.ex) (by omega) (by omega) (by omega)))
theorem w_Bk_bound {sc : Nat × (Nat → Int32)} {d : Nat} {G : GB} {h : AH} (K : KB G h h) : Go sc true false (d + 20) 0 0 mBk_bound 0 [vO 4 0, vU, vU] [] h (rP (fun _ => True) h) := by
  exact Go.dirty (Go.mono (fun g h1 q => ⟨_, q.1, trivial, q.2⟩) (Go.wide (bc := 0) (bs := 0) (g_Bk_bound (d := 17) K.sb K.trucks K.trucks_le K.doors K.doors_le) (by omega) (by omega) (by omega)))
theorem w_Bk_count {sc : Nat × (Nat → Int32)} {d : Nat} {G : GB} {h : AH} (K : KB G h h) (x0 : Int32) : Go sc true false (d + 20) 0 0 mBk_count 0 [vO 4 0, vI x0] [] h (rP (fun _ => True) h) := by
  exact Go.dirty (Go.mono (fun g h1 q => ⟨_, q.1, trivial, q.2⟩) (Go.wide (bc := 0) (bs := 0) (g_Bk_count (d := 18) K.sb K.trucks K.trucks_le x0) (by omega) (by omega) (by omega)))
set_option maxHeartbeats 4000000 in
theorem w_Bk_door {sc : Nat × (Nat → Int32)} {d : Nat} {G : GB} {h : AH} (K : KB G h h) (x0 x1 x2 : Int32) : Go sc true false (d + 20) 5 30 mBk_door 0 [vO 4 0, vI x0, vI x1, vI x2, vU] [] h (OB (WB G h) h [1, 2]) := by
  obtain ⟨⟨nd, nt⟩, nw⟩ := G
  refine Go.mono (fun g h1 q => ?_) (Go.wide (d := 9) (bc := 4) (bs := 24) (g_Bk_door (d := 0) (bc := 0) (bs := 0) K.sb K.doors K.doors_le x0 x1 x2) (by omega) (by omega) (by omega))
  rcases q with ⟨-, hn, rfl, rfl⟩ | ⟨-, -, rfl, rfl⟩ | ⟨-, rfl, rfl⟩
  · exact Or.inl ⟨_, rfl, ((nd + 1, nt), nw), (((K.up (by omega)).up (by omega)).up (by omega)).upDoors rfl hn, rfl, rfl⟩
  · exact Or.inr ⟨2, by simp, rfl, rfl⟩
  · exact Or.inr ⟨1, by simp, rfl, rfl⟩
set_option maxHeartbeats 4000000 in
theorem w_Bk_seal {sc : Nat × (Nat → Int32)} {d : Nat} {G : GB} {h : AH} (K : KB G h h) (x0 x1 : Int32) : Go sc true false (d + 20) 5 30 mBk_seal 0 [vO 4 0, vI x0, vI x1, vU] [] h (OB (WB G h) h [3, 1, 4]) := by
  obtain ⟨⟨nd, nt⟩, nw⟩ := G
  refine Go.mono (fun g h1 q => ?_) (Go.wide (d := 9) (bc := 3) (bs := 18) (g_Bk_seal (d := 0) (bc := 0) (bs := 0) K.sb K.trucks K.trucks_le x0 x1) (by omega) (by omega) (by omega))
  rcases q with ⟨j, -, -, ⟨-, -, rfl, rfl⟩ | ⟨-, -, rfl, rfl⟩ | ⟨-, rfl, rfl⟩⟩ | ⟨-, rfl, rfl⟩
  · refine Or.inl ⟨_, rfl, KB.wb ?_⟩
    unfold sp_sealM
    split
    · exact K.up (by omega)
    · split
      · exact K.up (by omega)
      · exact (K.up (by omega)).up (by omega)
  · exact Or.inr ⟨4, by simp, rfl, rfl⟩
  · exact Or.inr ⟨1, by simp, rfl, rfl⟩
  · exact Or.inr ⟨3, by simp, rfl, rfl⟩
set_option maxHeartbeats 4000000 in
theorem w_Bk_load {sc : Nat × (Nat → Int32)} {d : Nat} {G : GB} {h : AH} (K : KB G h h) (x0 x1 x2 : Int32) : Go sc true false (d + 20) 5 30 mBk_load 0 [vO 4 0, vI x0, vI x1, vI x2, vU] [] h (OB (WB G h) h [3, 1, 4]) := by
  obtain ⟨⟨nd, nt⟩, nw⟩ := G
  refine Go.mono (fun g h1 q => ?_) (Go.wide (d := 9) (bc := 4) (bs := 24) (g_Bk_load (d := 0) (bc := 0) (bs := 0) K.sb K.trucks K.trucks_le x0 x1 x2) (by omega) (by omega) (by omega))
  rcases q with ⟨j, -, -, ⟨-, -, rfl, rfl⟩ | ⟨-, -, rfl, rfl⟩ | ⟨-, rfl, rfl⟩⟩ | ⟨-, rfl, rfl⟩
  · exact Or.inl ⟨_, rfl, KB.wb (K.up (by omega))⟩
  · exact Or.inr ⟨4, by simp, rfl, rfl⟩
  · exact Or.inr ⟨1, by simp, rfl, rfl⟩
  · exact Or.inr ⟨3, by simp, rfl, rfl⟩
set_option maxHeartbeats 4000000 in
theorem w_Bk_late {sc : Nat × (Nat → Int32)} {d : Nat} {G : GB} {h : AH} (K : KB G h h) (x0 x1 : Int32) : Go sc true false (d + 20) 5 30 mBk_late 0 [vO 4 0, vI x0, vI x1, vU, vU] [] h (OB (WB G h) h [3, 1, 4]) := by
  obtain ⟨⟨nd, nt⟩, nw⟩ := G
  refine Go.mono (fun g h1 q => ?_) (Go.wide (d := 9) (bc := 3) (bs := 18) (g_Bk_late (d := 0) (bc := 0) (bs := 0) K.sb K.trucks K.trucks_le x0 x1) (by omega) (by omega) (by omega))
  rcases q with ⟨j, -, -, ⟨-, -, rfl, rfl⟩ | ⟨-, -, rfl, rfl⟩ | ⟨-, rfl, rfl⟩⟩ | ⟨-, rfl, rfl⟩
  · refine Or.inl ⟨_, rfl, KB.wb ?_⟩
    unfold up_late
    split
    · exact K.up (by omega)
    · exact ((K.up (by omega)).up (by omega)).up (by omega)
  · exact Or.inr ⟨4, by simp, rfl, rfl⟩
  · exact Or.inr ⟨1, by simp, rfl, rfl⟩
  · exact Or.inr ⟨3, by simp, rfl, rfl⟩
set_option maxHeartbeats 4000000 in
theorem w_Bk_cancel {sc : Nat × (Nat → Int32)} {d : Nat} {G : GB} {h : AH} (K : KB G h h) (x0 : Int32) : Go sc true false (d + 20) 5 30 mBk_cancel 0 [vO 4 0, vI x0, vU] [] h (ON (WB G h) h [3, 4]) := by
  obtain ⟨⟨nd, nt⟩, nw⟩ := G
  refine Go.mono (fun g h1 q => ?_) (Go.wide (d := 9) (bc := 2) (bs := 12) (g_Bk_cancel (d := 0) (bc := 0) (bs := 0) K.sb K.trucks K.trucks_le x0) (by omega) (by omega) (by omega))
  rcases q with ⟨j, -, -, ⟨-, rfl, rfl⟩ | ⟨-, rfl, rfl⟩⟩ | ⟨-, rfl, rfl⟩
  · exact Or.inl ⟨rfl, KB.wb (((K.up (by omega)).up (by omega)).up (by omega))⟩
  · exact Or.inr ⟨4, by simp, rfl, rfl⟩
  · exact Or.inr ⟨3, by simp, rfl, rfl⟩
set_option maxHeartbeats 4000000 in
theorem w_Bk_told {sc : Nat × (Nat → Int32)} {d : Nat} {G : GB} {h : AH} (K : KB G h h) (x0 x1 : Int32) : Go sc true false (d + 20) 5 30 mBk_told 0 [vO 4 0, vI x0, vI x1, vU] [] h (OB (WB G h) h [3, 1]) := by
  obtain ⟨⟨nd, nt⟩, nw⟩ := G
  refine Go.dirty (Go.mono (fun g h1 q => ?_) (Go.wide (d := 9) (bc := 2) (bs := 12) (g_Bk_told (d := 0) (bc := 0) (bs := 0) K.sb K.trucks K.trucks_le x0 x1) (by omega) (by omega) (by omega)))
  rcases q with ⟨j, -, -, rfl, ⟨-, rfl⟩ | ⟨-, rfl⟩⟩ | ⟨-, rfl, rfl⟩
  · exact Or.inl ⟨_, rfl, KB.wb K⟩
  · exact Or.inr ⟨1, by simp, rfl, rfl⟩
  · exact Or.inr ⟨3, by simp, rfl, rfl⟩
set_option maxHeartbeats 4000000 in
theorem w_Bk_assign {sc : Nat × (Nat → Int32)} {d : Nat} {G : GB} {h : AH} (K : KB G h h) (x0 : Int32) : Go sc true false (d + 20) 5 30 mBk_assign 0 [vO 4 0, vI x0, vU, vU] [] h (OB (WB G h) h [1]) := by
  obtain ⟨⟨nd, nt⟩, nw⟩ := G
  exact Go.mono (OB.mono (fun _ z => KB.wb z) (fun _ z => z)) (Go.wide (d := 16) (bc := 1) (bs := 6) (g_Bk_assign (d := 0) (bc := 0) (bs := 0) K x0) (by omega) (by omega) (by omega))
set_option maxHeartbeats 4000000 in
theorem w_Bk_order {sc : Nat × (Nat → Int32)} {d : Nat} {G : GB} {h : AH} (K : KB G h h) (x0 x1 : Int32) : Go sc true false (d + 20) 5 30 mBk_order 0 [vO 4 0, vI x0, vI x1, vU] [] h (OB (WB G h) h [3]) := by
  obtain ⟨⟨nd, nt⟩, nw⟩ := G
  exact Go.dirty (Go.mono (OB.mono (fun _ z => KB.wb z) (fun _ z => z)) (Go.wide (d := 9) (bc := 2) (bs := 12) (g_Bk_order (d := 0) (bc := 0) (bs := 0) K x0 x1) (by omega) (by omega) (by omega)))
set_option maxHeartbeats 4000000 in
theorem w_Bk_known {sc : Nat × (Nat → Int32)} {d : Nat} {G : GB} {h : AH} (K : KB G h h) (x0 x1 : Int32) : Go sc true false (d + 20) 5 30 mBk_known 0 [vO 4 0, vI x0, vI x1, vU] [] h (OB (WB G h) h [3, 1]) := by
  obtain ⟨⟨nd, nt⟩, nw⟩ := G
  exact Go.dirty (Go.mono (OB.mono (fun _ z => KB.wb z) (fun _ z => z)) (Go.wide (d := 9) (bc := 2) (bs := 12) (g_Bk_known (d := 0) (bc := 0) (bs := 0) K x0 x1) (by omega) (by omega) (by omega)))
set_option maxHeartbeats 4000000 in
theorem w_Bk_call {sc : Nat × (Nat → Int32)} {d : Nat} {G : GB} {h : AH} (K : KB G h h) (x0 : Int32) : Go sc true false (d + 20) 5 30 mBk_call 0 [vO 4 0, vI x0, vU, vU] [] h (ON (WB G h) h [3, 4]) := by
  obtain ⟨⟨nd, nt⟩, nw⟩ := G
  exact Go.mono (ON.mono (fun _ z => KB.wb z) (fun _ z => z)) (Go.wide (d := 10) (bc := 4) (bs := 24) (g_Bk_call (d := 0) (bc := 0) (bs := 0) K x0) (by omega) (by omega) (by omega))
set_option maxHeartbeats 4000000 in
theorem w_Bk_depart {sc : Nat × (Nat → Int32)} {d : Nat} {G : GB} {h : AH} (K : KB G h h) (x0 : Int32) : Go sc true false (d + 20) 5 30 mBk_depart 0 [vO 4 0, vI x0, vU, vU] [] h (OB (WB G h) h [3, 4]) := by
  obtain ⟨⟨nd, nt⟩, nw⟩ := G
  exact Go.mono (OB.mono (fun _ z => KB.wb z) (fun _ z => z)) (Go.wide (d := 9) (bc := 3) (bs := 18) (g_Bk_depart (d := 0) (bc := 0) (bs := 0) K x0) (by omega) (by omega) (by omega))
set_option maxHeartbeats 4000000 in
theorem w_Bk_out {sc : Nat × (Nat → Int32)} {d : Nat} {G : GB} {h : AH} (K : KB G h h) (x0 x1 : Int32) (hy : x1 = 0 ∨ x1 = 1) : Go sc true false (d + 20) 5 30 mBk_out 0 [vO 4 0, vI x0, vI x1, vU, vU, vU] [] h (OB (WB G h) h [3, 4]) := by
  obtain ⟨⟨nd, nt⟩, nw⟩ := G
  exact Go.mono (OB.mono (fun _ z => KB.wb z) (fun _ z => z)) (Go.wide (d := 9) (bc := 2) (bs := 12) (g_Bk_out (d := 0) (bc := 0) (bs := 0) K x0 x1 hy) (by omega) (by omega) (by omega))
set_option maxHeartbeats 4000000 in
theorem w_Bk_truck {sc : Nat × (Nat → Int32)} {d : Nat} {G : GB} {h : AH} (K : KB G h h) (x0 x1 x2 x3 : Int32) : Go sc true false (d + 20) 5 30 mBk_truck 0 [vO 4 0, vI x0, vI x1, vI x2, vI x3, vU] [] h (fun g h' => (ok_truck x0 x1 x2 x3 ∧ G.1.2 < 12 ∧ g = .inl (some (vI (nI G.1.2))) ∧ KB ((G.1.1, G.1.2 + 1), G.2) h h') ∨ (ok_truck x0 x1 x2 x3 ∧ G.1.2 = 12 ∧ g = .inr 2 ∧ h' = h) ∨ (¬ ok_truck x0 x1 x2 x3 ∧ g = .inr 1 ∧ h' = h)) := by
  obtain ⟨⟨nd, nt⟩, nw⟩ := G
  refine Go.mono (fun g h1 q => ?_) (Go.wide (d := 9) (bc := 5) (bs := 30) (g_Bk_truck (d := 0) (bc := 0) (bs := 0) K.sb K.trucks K.trucks_le x0 x1 x2 x3) (by omega) (by omega) (by omega))
  rcases q with ⟨z, hn, rfl, rfl⟩ | ⟨z, hn, rfl, rfl⟩ | ⟨z, rfl, rfl⟩
  · exact Or.inl ⟨z, hn, rfl, ((((K.up (by omega)).up (by omega)).up (by omega)).up (by omega)).upTrucks rfl hn⟩
  · exact Or.inr (Or.inl ⟨z, hn, rfl, rfl⟩)
  · exact Or.inr (Or.inr ⟨z, rfl, rfl⟩)
set_option maxHeartbeats 4000000 in
theorem w_Bk_pass {sc : Nat × (Nat → Int32)} {d : Nat} {G : GB} {h : AH} (K : KB G h h) (x0 : Int32) : Go sc true false (d + 20) 5 30 mBk_pass 0 [vO 4 0, vI x0] [] h (fun g h' => ((G.2 ≤ x0 ∧ x0 ≤ 2000) ∧ g = .inl none ∧ KB (G.1, x0) h h') ∨ (¬ (G.2 ≤ x0 ∧ x0 ≤ 2000) ∧ g = .inr 1 ∧ h' = h)) := by
  obtain ⟨⟨nd, nt⟩, nw⟩ := G
  refine Go.mono (fun g h1 q => ?_) (Go.wide (d := 9) (bc := 1) (bs := 6) (g_Bk_pass (d := 0) (bc := 0) (bs := 0) x0) (by omega) (by omega) (by omega))
  have e : h.1 4 0 6 = nw := K.now
  rw [e] at q
  rcases q with ⟨z, rfl, rfl⟩ | ⟨z, rfl, rfl⟩
  · exact Or.inl ⟨z, rfl, K.upNow⟩
  · exact Or.inr ⟨z, rfl, rfl⟩
set_option maxHeartbeats 4000000 in
theorem w_Mo_door {sc : Nat × (Nat → Int32)} {d bc bs : Nat} {G : GR} {h : AH} (R : KR G h h) (x0 x1 x2 : Int32) : Go sc true false (d + 20) bc bs mMo_door 0 [vO 5 0, vI x0, vI x1, vI x2] [] h (PV (fun _ => WR G h)) := by
  obtain ⟨⟨md, mt, wn⟩, nw, stf, wtf⟩ := G
  exact Go.mono (fun g h1 q => q.elim (fun v q => ⟨v, q.1, q.2.elim (fun _ z => ⟨_, z, rfl, rfl⟩)⟩)) (Go.wide (d := 1) (bc := bc) (bs := bs) (g_Mo_door (d := 0) R x0 x1 x2) (by omega) (Nat.le_refl _) (Nat.le_refl _))
set_option maxHeartbeats 4000000 in
theorem w_Mo_assign {sc : Nat × (Nat → Int32)} {d bc bs : Nat} {G : GR} {h : AH} (R : KR G h h) (x0 : Int32) : Go sc true false (d + 20) bc bs mMo_assign 0 [vO 5 0, vI x0, vU, vU] [] h (PV (fun _ => WR G h)) := by
  obtain ⟨⟨md, mt, wn⟩, nw, stf, wtf⟩ := G
  exact Go.mono (fun g h1 q => q.elim (fun v q => ⟨v, q.1, q.2.elim (fun _ q => q.elim (fun _ z => ⟨_, z, rfl, rfl⟩))⟩)) (Go.wide (d := 5) (bc := bc) (bs := bs) (g_Mo_assign (d := 0) R x0) (by omega) (Nat.le_refl _) (Nat.le_refl _))
set_option maxHeartbeats 4000000 in
theorem w_Mo_exact {sc : Nat × (Nat → Int32)} {d bc bs : Nat} {G : GR} {h : AH} (R : KR G h h)  : Go sc true false (d + 20) bc bs mMo_exact 0 [vO 5 0] [] h (PV (fun _ => WR G h)) := by
  obtain ⟨⟨md, mt, wn⟩, nw, stf, wtf⟩ := G
  exact Go.mono (fun g h1 q => q.elim (fun v q => ⟨v, q.1, KR.wr q.2⟩)) (Go.wide (d := 0) (bc := bc) (bs := bs) (g_Mo_exact (d := 0) R ) (by omega) (Nat.le_refl _) (Nat.le_refl _))
set_option maxHeartbeats 4000000 in
theorem w_Mo_moved {sc : Nat × (Nat → Int32)} {d bc bs : Nat} {G : GR} {h : AH} (R : KR G h h)  : Go sc true false (d + 20) bc bs mMo_moved 0 [vO 5 0] [] h (PV (fun _ => WR G h)) := by
  obtain ⟨⟨md, mt, wn⟩, nw, stf, wtf⟩ := G
  exact Go.mono (fun g h1 q => q.elim (fun v q => ⟨v, q.1, KR.wr q.2⟩)) (Go.wide (d := 0) (bc := bc) (bs := bs) (g_Mo_moved (d := 0) R ) (by omega) (Nat.le_refl _) (Nat.le_refl _))
set_option maxHeartbeats 4000000 in
theorem w_Mo_bound {sc : Nat × (Nat → Int32)} {d bc bs : Nat} {G : GR} {h : AH} (R : KR G h h)  : Go sc true false (d + 20) bc bs mMo_bound 0 [vO 5 0, vU, vU, vU, vU, vU] [] h (PV (fun _ => WR G h)) := by
  obtain ⟨⟨md, mt, wn⟩, nw, stf, wtf⟩ := G
  exact Go.mono (fun g h1 q => q.elim (fun v q => ⟨v, q.1, KR.wr q.2⟩)) (Go.wide (d := 2) (bc := bc) (bs := bs) (g_Mo_bound (d := 0) R ) (by omega) (Nat.le_refl _) (Nat.le_refl _))
set_option maxHeartbeats 4000000 in
theorem w_Mo_call {sc : Nat × (Nat → Int32)} {d bc bs : Nat} {G : GR} {h : AH} (R : KR G h h) (x0 : Int32) : Go sc true false (d + 20) bc bs mMo_call 0 [vO 5 0, vI x0, vU] [] h (PN (WR G h)) := by
  obtain ⟨⟨md, mt, wn⟩, nw, stf, wtf⟩ := G
  exact Go.mono (fun g h1 q => ⟨q.1, q.2.elim (fun _ z => ⟨_, z, rfl, rfl⟩)⟩) (Go.wide (d := 1) (bc := bc) (bs := bs) (g_Mo_call (d := 0) R x0) (by omega) (Nat.le_refl _) (Nat.le_refl _))
set_option maxHeartbeats 4000000 in
theorem w_Mo_seal {sc : Nat × (Nat → Int32)} {d bc bs : Nat} {G : GR} {h : AH} (R : KR G h h) (x0 x1 : Int32) : Go sc true false (d + 20) bc bs mMo_seal 0 [vO 5 0, vI x0, vI x1] [] h (PV (fun _ => WR G h)) := by
  obtain ⟨⟨md, mt, wn⟩, nw, stf, wtf⟩ := G
  exact Go.mono (fun g h1 q => q.elim (fun v q => ⟨v, q.1, KR.wr q.2⟩)) (Go.wide (d := 1) (bc := bc) (bs := bs) (g_Mo_seal (d := 0) R x0 x1) (by omega) (Nat.le_refl _) (Nat.le_refl _))
set_option maxHeartbeats 4000000 in
theorem w_Mo_load {sc : Nat × (Nat → Int32)} {d bc bs : Nat} {G : GR} {h : AH} (R : KR G h h) (x0 x1 x2 : Int32) : Go sc true false (d + 20) bc bs mMo_load 0 [vO 5 0, vI x0, vI x1, vI x2] [] h (PV (fun _ => WR G h)) := by
  obtain ⟨⟨md, mt, wn⟩, nw, stf, wtf⟩ := G
  exact Go.mono (fun g h1 q => q.elim (fun v q => ⟨v, q.1, KR.wr q.2⟩)) (Go.wide (d := 1) (bc := bc) (bs := bs) (g_Mo_load (d := 0) R x0 x1 x2) (by omega) (Nat.le_refl _) (Nat.le_refl _))
set_option maxHeartbeats 4000000 in
theorem w_Mo_depart {sc : Nat × (Nat → Int32)} {d bc bs : Nat} {G : GR} {h : AH} (R : KR G h h) (x0 : Int32) : Go sc true false (d + 20) bc bs mMo_depart 0 [vO 5 0, vI x0] [] h (PV (fun _ => WR G h)) := by
  obtain ⟨⟨md, mt, wn⟩, nw, stf, wtf⟩ := G
  exact Go.mono (fun g h1 q => q.elim (fun v q => ⟨v, q.1, q.2.elim (fun _ z => ⟨_, z, rfl, rfl⟩)⟩)) (Go.wide (d := 1) (bc := bc) (bs := bs) (g_Mo_depart (d := 0) R x0) (by omega) (Nat.le_refl _) (Nat.le_refl _))
set_option maxHeartbeats 4000000 in
theorem w_Mo_late {sc : Nat × (Nat → Int32)} {d bc bs : Nat} {G : GR} {h : AH} (R : KR G h h) (x0 x1 : Int32) : Go sc true false (d + 20) bc bs mMo_late 0 [vO 5 0, vI x0, vI x1, vU] [] h (PV (fun _ => WR G h)) := by
  obtain ⟨⟨md, mt, wn⟩, nw, stf, wtf⟩ := G
  exact Go.mono (fun g h1 q => q.elim (fun v q => ⟨v, q.1, KR.wr q.2⟩)) (Go.wide (d := 1) (bc := bc) (bs := bs) (g_Mo_late (d := 0) R x0 x1) (by omega) (Nat.le_refl _) (Nat.le_refl _))
set_option maxHeartbeats 4000000 in
theorem w_Mo_cancel {sc : Nat × (Nat → Int32)} {d bc bs : Nat} {G : GR} {h : AH} (R : KR G h h) (x0 : Int32) : Go sc true false (d + 20) bc bs mMo_cancel 0 [vO 5 0, vI x0] [] h (PN (WR G h)) := by
  obtain ⟨⟨md, mt, wn⟩, nw, stf, wtf⟩ := G
  exact Go.mono (fun g h1 q => ⟨q.1, q.2.elim (fun _ z => ⟨_, z, rfl, rfl⟩)⟩) (Go.wide (d := 1) (bc := bc) (bs := bs) (g_Mo_cancel (d := 0) R x0) (by omega) (Nat.le_refl _) (Nat.le_refl _))
set_option maxHeartbeats 4000000 in
theorem w_Mo_out {sc : Nat × (Nat → Int32)} {d bc bs : Nat} {G : GR} {h : AH} (R : KR G h h) (x0 x1 : Int32) (hy : x1 = 0 ∨ x1 = 1) : Go sc true false (d + 20) bc bs mMo_out 0 [vO 5 0, vI x0, vI x1, vU, vU] [] h (PV (fun _ => WR G h)) := by
  obtain ⟨⟨md, mt, wn⟩, nw, stf, wtf⟩ := G
  exact Go.mono (fun g h1 q => q.elim (fun v q => ⟨v, q.1, KR.wr q.2⟩)) (Go.wide (d := 1) (bc := bc) (bs := bs) (g_Mo_out (d := 0) R x0 x1 hy) (by omega) (Nat.le_refl _) (Nat.le_refl _))
set_option maxHeartbeats 4000000 in
theorem w_Mo_order {sc : Nat × (Nat → Int32)} {d bc bs : Nat} {G : GR} {h : AH} (R : KR G h h) (x0 x1 : Int32) : Go sc true false (d + 20) bc bs mMo_order 0 [vO 5 0, vI x0, vI x1, vU, vU, vU] [] h (PV (fun _ => WR G h)) := by
  obtain ⟨⟨md, mt, wn⟩, nw, stf, wtf⟩ := G
  exact Go.mono (fun g h1 q => q.elim (fun v q => ⟨v, q.1, KR.wr q.2⟩)) (Go.wide (d := 1) (bc := bc) (bs := bs) (g_Mo_order (d := 0) R x0 x1) (by omega) (Nat.le_refl _) (Nat.le_refl _))
set_option maxHeartbeats 4000000 in
theorem w_Mo_told {sc : Nat × (Nat → Int32)} {d bc bs : Nat} {G : GR} {h : AH} (R : KR G h h) (x0 x1 : Int32) : Go sc true false (d + 20) bc bs mMo_told 0 [vO 5 0, vI x0, vI x1] [] h (PV (fun _ => WR G h)) := by
  obtain ⟨⟨md, mt, wn⟩, nw, stf, wtf⟩ := G
  exact Go.mono (fun g h1 q => q.elim (fun v q => ⟨v, q.1, KR.wr q.2⟩)) (Go.wide (d := 1) (bc := bc) (bs := bs) (g_Mo_told (d := 0) R x0 x1) (by omega) (Nat.le_refl _) (Nat.le_refl _))
set_option maxHeartbeats 4000000 in
theorem w_Mo_known {sc : Nat × (Nat → Int32)} {d bc bs : Nat} {G : GR} {h : AH} (R : KR G h h) (x0 x1 : Int32) : Go sc true false (d + 20) bc bs mMo_known 0 [vO 5 0, vI x0, vI x1, vU, vU] [] h (PV (fun _ => WR G h)) := by
  obtain ⟨⟨md, mt, wn⟩, nw, stf, wtf⟩ := G
  exact Go.mono (fun g h1 q => q.elim (fun v q => ⟨v, q.1, KR.wr q.2⟩)) (Go.wide (d := 1) (bc := bc) (bs := bs) (g_Mo_known (d := 0) R x0 x1) (by omega) (Nat.le_refl _) (Nat.le_refl _))
set_option maxHeartbeats 4000000 in
theorem w_Mo_count {sc : Nat × (Nat → Int32)} {d bc bs : Nat} {G : GR} {h : AH} (R : KR G h h) (x0 : Int32) : Go sc true false (d + 20) bc bs mMo_count 0 [vO 5 0, vI x0, vU, vU] [] h (PV (fun _ => WR G h)) := by
  obtain ⟨⟨md, mt, wn⟩, nw, stf, wtf⟩ := G
  exact Go.mono (fun g h1 q => q.elim (fun v q => ⟨v, q.1, KR.wr q.2⟩)) (Go.wide (d := 1) (bc := bc) (bs := bs) (g_Mo_count (d := 0) R x0) (by omega) (Nat.le_refl _) (Nat.le_refl _))
def LQ (G : GB) (G' : GR) (h : AH) : Prop := ∃ G2 : GB, KB G2 h h ∧ KR G' h h ∧ h.2.2.2.1 101 0 = 1 ∧ G2.1.2 = G.1.2 ∧ G2.2 = G.2
theorem KB.long {G : GB} {h0 h : AH} {f : Nat → Nat → Nat → Int64} (K : KB G h0 h) : KB G (h.1, h.2.1, f, h.2.2.2) (h.1, h.2.1, f, h.2.2.2) := ⟨K.sb, K.sc, K.doors, K.doors_le, K.trucks, K.trucks_le, K.now, K.ex, K.wait, K.bd, K.cd, K.sa, FrB.rf⟩
theorem KR.long {G : GR} {h0 h : AH} {f : Nat → Nat → Nat → Int64} (K : KR G h0 h) : KR G (h.1, h.2.1, f, h.2.2.2) (h.1, h.2.1, f, h.2.2.2) := ⟨K.sh, K.now, K.doors, K.doors_le, K.trucks, K.trucks_le, K.waits, K.waits_le, K.state, K.st4, K.fresh, K.doorOf, K.atd, K.ex, K.waiting, K.wt12, K.newDoor, FrR.rf⟩
theorem FrB.len {h h1 : AH} (F : FrB h h1) (l : h.2.2.2.1 101 0 = 1) : h1.2.2.2.1 101 0 = 1 := by rw [F.2.2]; exact l
theorem FrR.len {h h1 : AH} (F : FrR h h1) (l : h.2.2.2.1 101 0 = 1) : h1.2.2.2.1 101 0 = 1 := by rw [F.2]; exact l
theorem WB.lp {G : GB} {G' : GR} {h h1 : AH} (q : WB G h h1) (R : KR G' h h) (l : h.2.2.2.1 101 0 = 1) : LQ G G' h1 := by
  obtain ⟨G2, K, e1, e2⟩ := q
  exact ⟨G2, K.st0, R.keep K.fr, K.fr.len l, e1, e2⟩
theorem LQ.long {G : GB} {G' : GR} {h : AH} {f : Nat → Nat → Nat → Int64} (q : LQ G G' h) : LQ G G' (h.1, h.2.1, f, h.2.2.2) := by
  obtain ⟨G2, K, R, l, e1, e2⟩ := q
  exact ⟨G2, K.long, R.long, l, e1, e2⟩
/-- before and behind each call of the law -/
def LI (h : AH) : Prop := ∃ (G : GB) (G' : GR), KB G h h ∧ KR G' h h ∧ h.2.2.2.1 101 0 = 1 ∧ G.1.2 = G'.1.2.1 ∧ G.2 = G'.2.1
theorem LQ.li {G : GB} {G' : GR} {h h1 : AH} (q : LQ G G' h) (r : WR G' h h1) (e1 : G.1.2 = G'.1.2.1) (e2 : G.2 = G'.2.1) : LI h1 := by
  obtain ⟨G2, K, R, l, e3, e4⟩ := q
  obtain ⟨G3, R3, e5, e6⟩ := r
  exact ⟨G2, G3, K.keep R3.fr, R3.st0, R3.fr.len l, by rw [e3, e1, e5], by rw [e4, e2, e6]⟩
