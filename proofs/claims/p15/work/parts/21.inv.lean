/-! THE REFERENCE: shape, invariant, writes -/
def SM (h : AH) : Prop := (h.2.1 5 0 3 = some (100, 15)) ∧ (h.2.2.2.1 100 15 = 4) ∧ (h.2.1 5 0 4 = some (100, 16)) ∧ (h.2.2.2.1 100 16 = 4) ∧ (h.2.1 5 0 5 = some (100, 17)) ∧ (h.2.2.2.1 100 17 = 4) ∧ (h.2.1 5 0 6 = some (102, 0)) ∧ (h.2.2.2.1 102 0 = 4) ∧ (h.2.1 5 0 7 = some (100, 18)) ∧ (h.2.2.2.1 100 18 = 4) ∧ (h.2.1 5 0 9 = some (100, 19)) ∧ (h.2.2.2.1 100 19 = 12) ∧ (h.2.1 5 0 10 = some (100, 20)) ∧ (h.2.2.2.1 100 20 = 12) ∧ (h.2.1 5 0 11 = some (100, 21)) ∧ (h.2.2.2.1 100 21 = 12) ∧ (h.2.1 5 0 12 = some (100, 22)) ∧ (h.2.2.2.1 100 22 = 12) ∧ (h.2.1 5 0 13 = some (100, 23)) ∧ (h.2.2.2.1 100 23 = 12) ∧ (h.2.1 5 0 14 = some (100, 24)) ∧ (h.2.2.2.1 100 24 = 12) ∧ (h.2.1 5 0 15 = some (100, 25)) ∧ (h.2.2.2.1 100 25 = 12) ∧ (h.2.1 5 0 16 = some (100, 26)) ∧ (h.2.2.2.1 100 26 = 12) ∧ (h.2.1 5 0 17 = some (100, 27)) ∧ (h.2.2.2.1 100 27 = 12) ∧ (h.2.1 5 0 18 = some (102, 1)) ∧ (h.2.2.2.1 102 1 = 12) ∧ (h.2.1 5 0 19 = some (102, 2)) ∧ (h.2.2.2.1 102 2 = 12) ∧ (h.2.1 5 0 23 = some (100, 28)) ∧ (h.2.2.2.1 100 28 = 12) ∧ (h.2.1 5 0 24 = some (100, 29)) ∧ (h.2.2.2.1 100 29 = 12) ∧ (h.2.1 5 0 25 = some (100, 30)) ∧ (h.2.2.2.1 100 30 = 12) ∧ (h.2.1 5 0 26 = some (100, 31)) ∧ (h.2.2.2.1 100 31 = 128) ∧ (h.2.1 5 0 27 = some (100, 32)) ∧ (h.2.2.2.1 100 32 = 640) ∧ (h.2.1 5 0 28 = some (100, 33)) ∧ (h.2.2.2.1 100 33 = 5) ∧ (h.2.1 5 0 29 = some (100, 34)) ∧ (h.2.2.2.1 100 34 = 4)
theorem SM.r_kinds {h : AH} (K : SM h) : h.2.1 5 0 3 = some (100, 15) := K.1
theorem SM.l_kinds {h : AH} (K : SM h) : h.2.2.2.1 100 15 = 4 := K.2.1
theorem SM.r_opens {h : AH} (K : SM h) : h.2.1 5 0 4 = some (100, 16) := K.2.2.1
theorem SM.l_opens {h : AH} (K : SM h) : h.2.2.2.1 100 16 = 4 := K.2.2.2.1
theorem SM.r_closes {h : AH} (K : SM h) : h.2.1 5 0 5 = some (100, 17) := K.2.2.2.2.1
theorem SM.l_closes {h : AH} (K : SM h) : h.2.2.2.1 100 17 = 4 := K.2.2.2.2.2.1
theorem SM.r_isOut {h : AH} (K : SM h) : h.2.1 5 0 6 = some (102, 0) := K.2.2.2.2.2.2.1
theorem SM.l_isOut {h : AH} (K : SM h) : h.2.2.2.1 102 0 = 4 := K.2.2.2.2.2.2.2.1
theorem SM.r_left {h : AH} (K : SM h) : h.2.1 5 0 7 = some (100, 18) := K.2.2.2.2.2.2.2.2.1
theorem SM.l_left {h : AH} (K : SM h) : h.2.2.2.1 100 18 = 4 := K.2.2.2.2.2.2.2.2.2.1
theorem SM.r_state {h : AH} (K : SM h) : h.2.1 5 0 9 = some (100, 19) := K.2.2.2.2.2.2.2.2.2.2.1
theorem SM.l_state {h : AH} (K : SM h) : h.2.2.2.1 100 19 = 12 := K.2.2.2.2.2.2.2.2.2.2.2.1
theorem SM.r_kind {h : AH} (K : SM h) : h.2.1 5 0 10 = some (100, 20) := K.2.2.2.2.2.2.2.2.2.2.2.2.1
theorem SM.l_kind {h : AH} (K : SM h) : h.2.2.2.1 100 20 = 12 := K.2.2.2.2.2.2.2.2.2.2.2.2.2.1
theorem SM.r_arrival {h : AH} (K : SM h) : h.2.1 5 0 11 = some (100, 21) := K.2.2.2.2.2.2.2.2.2.2.2.2.2.2.1
theorem SM.l_arrival {h : AH} (K : SM h) : h.2.2.2.1 100 21 = 12 := K.2.2.2.2.2.2.2.2.2.2.2.2.2.2.2.1
theorem SM.r_need {h : AH} (K : SM h) : h.2.1 5 0 12 = some (100, 22) := K.2.2.2.2.2.2.2.2.2.2.2.2.2.2.2.2.1
theorem SM.l_need {h : AH} (K : SM h) : h.2.2.2.1 100 22 = 12 := K.2.2.2.2.2.2.2.2.2.2.2.2.2.2.2.2.2.1
theorem SM.r_ranks {h : AH} (K : SM h) : h.2.1 5 0 13 = some (100, 23) := K.2.2.2.2.2.2.2.2.2.2.2.2.2.2.2.2.2.2.1
theorem SM.l_ranks {h : AH} (K : SM h) : h.2.2.2.1 100 23 = 12 := K.2.2.2.2.2.2.2.2.2.2.2.2.2.2.2.2.2.2.2.1
theorem SM.r_doorOf {h : AH} (K : SM h) : h.2.1 5 0 14 = some (100, 24) := K.2.2.2.2.2.2.2.2.2.2.2.2.2.2.2.2.2.2.2.2.1
theorem SM.l_doorOf {h : AH} (K : SM h) : h.2.2.2.1 100 24 = 12 := K.2.2.2.2.2.2.2.2.2.2.2.2.2.2.2.2.2.2.2.2.2.1
theorem SM.r_start {h : AH} (K : SM h) : h.2.1 5 0 15 = some (100, 25) := K.2.2.2.2.2.2.2.2.2.2.2.2.2.2.2.2.2.2.2.2.2.2.1
theorem SM.l_start {h : AH} (K : SM h) : h.2.2.2.1 100 25 = 12 := K.2.2.2.2.2.2.2.2.2.2.2.2.2.2.2.2.2.2.2.2.2.2.2.1
theorem SM.r_gone {h : AH} (K : SM h) : h.2.1 5 0 16 = some (100, 26) := K.2.2.2.2.2.2.2.2.2.2.2.2.2.2.2.2.2.2.2.2.2.2.2.2.1
theorem SM.l_gone {h : AH} (K : SM h) : h.2.2.2.1 100 26 = 12 := K.2.2.2.2.2.2.2.2.2.2.2.2.2.2.2.2.2.2.2.2.2.2.2.2.2.1
theorem SM.r_seals {h : AH} (K : SM h) : h.2.1 5 0 17 = some (100, 27) := K.2.2.2.2.2.2.2.2.2.2.2.2.2.2.2.2.2.2.2.2.2.2.2.2.2.2.1
theorem SM.l_seals {h : AH} (K : SM h) : h.2.2.2.1 100 27 = 12 := K.2.2.2.2.2.2.2.2.2.2.2.2.2.2.2.2.2.2.2.2.2.2.2.2.2.2.2.1
theorem SM.r_twice {h : AH} (K : SM h) : h.2.1 5 0 18 = some (102, 1) := K.2.2.2.2.2.2.2.2.2.2.2.2.2.2.2.2.2.2.2.2.2.2.2.2.2.2.2.2.1
theorem SM.l_twice {h : AH} (K : SM h) : h.2.2.2.1 102 1 = 12 := K.2.2.2.2.2.2.2.2.2.2.2.2.2.2.2.2.2.2.2.2.2.2.2.2.2.2.2.2.2.1
theorem SM.r_same {h : AH} (K : SM h) : h.2.1 5 0 19 = some (102, 2) := K.2.2.2.2.2.2.2.2.2.2.2.2.2.2.2.2.2.2.2.2.2.2.2.2.2.2.2.2.2.2.1
theorem SM.l_same {h : AH} (K : SM h) : h.2.2.2.1 102 2 = 12 := K.2.2.2.2.2.2.2.2.2.2.2.2.2.2.2.2.2.2.2.2.2.2.2.2.2.2.2.2.2.2.2.1
theorem SM.r_waiting {h : AH} (K : SM h) : h.2.1 5 0 23 = some (100, 28) := K.2.2.2.2.2.2.2.2.2.2.2.2.2.2.2.2.2.2.2.2.2.2.2.2.2.2.2.2.2.2.2.2.1
theorem SM.l_waiting {h : AH} (K : SM h) : h.2.2.2.1 100 28 = 12 := K.2.2.2.2.2.2.2.2.2.2.2.2.2.2.2.2.2.2.2.2.2.2.2.2.2.2.2.2.2.2.2.2.2.1
theorem SM.r_newDoor {h : AH} (K : SM h) : h.2.1 5 0 24 = some (100, 29) := K.2.2.2.2.2.2.2.2.2.2.2.2.2.2.2.2.2.2.2.2.2.2.2.2.2.2.2.2.2.2.2.2.2.2.1
theorem SM.l_newDoor {h : AH} (K : SM h) : h.2.2.2.1 100 29 = 12 := K.2.2.2.2.2.2.2.2.2.2.2.2.2.2.2.2.2.2.2.2.2.2.2.2.2.2.2.2.2.2.2.2.2.2.2.1
theorem SM.r_newStart {h : AH} (K : SM h) : h.2.1 5 0 25 = some (100, 30) := K.2.2.2.2.2.2.2.2.2.2.2.2.2.2.2.2.2.2.2.2.2.2.2.2.2.2.2.2.2.2.2.2.2.2.2.2.1
theorem SM.l_newStart {h : AH} (K : SM h) : h.2.2.2.1 100 30 = 12 := K.2.2.2.2.2.2.2.2.2.2.2.2.2.2.2.2.2.2.2.2.2.2.2.2.2.2.2.2.2.2.2.2.2.2.2.2.2.1
theorem SM.r_setCost {h : AH} (K : SM h) : h.2.1 5 0 26 = some (100, 31) := K.2.2.2.2.2.2.2.2.2.2.2.2.2.2.2.2.2.2.2.2.2.2.2.2.2.2.2.2.2.2.2.2.2.2.2.2.2.2.1
theorem SM.l_setCost {h : AH} (K : SM h) : h.2.2.2.1 100 31 = 128 := K.2.2.2.2.2.2.2.2.2.2.2.2.2.2.2.2.2.2.2.2.2.2.2.2.2.2.2.2.2.2.2.2.2.2.2.2.2.2.2.1
theorem SM.r_setStart {h : AH} (K : SM h) : h.2.1 5 0 27 = some (100, 32) := K.2.2.2.2.2.2.2.2.2.2.2.2.2.2.2.2.2.2.2.2.2.2.2.2.2.2.2.2.2.2.2.2.2.2.2.2.2.2.2.2.1
theorem SM.l_setStart {h : AH} (K : SM h) : h.2.2.2.1 100 32 = 640 := K.2.2.2.2.2.2.2.2.2.2.2.2.2.2.2.2.2.2.2.2.2.2.2.2.2.2.2.2.2.2.2.2.2.2.2.2.2.2.2.2.2.1
theorem SM.r_trial {h : AH} (K : SM h) : h.2.1 5 0 28 = some (100, 33) := K.2.2.2.2.2.2.2.2.2.2.2.2.2.2.2.2.2.2.2.2.2.2.2.2.2.2.2.2.2.2.2.2.2.2.2.2.2.2.2.2.2.2.1
theorem SM.l_trial {h : AH} (K : SM h) : h.2.2.2.1 100 33 = 5 := K.2.2.2.2.2.2.2.2.2.2.2.2.2.2.2.2.2.2.2.2.2.2.2.2.2.2.2.2.2.2.2.2.2.2.2.2.2.2.2.2.2.2.2.1
theorem SM.r_counts {h : AH} (K : SM h) : h.2.1 5 0 29 = some (100, 34) := K.2.2.2.2.2.2.2.2.2.2.2.2.2.2.2.2.2.2.2.2.2.2.2.2.2.2.2.2.2.2.2.2.2.2.2.2.2.2.2.2.2.2.2.2.1
theorem SM.l_counts {h : AH} (K : SM h) : h.2.2.2.1 100 34 = 4 := K.2.2.2.2.2.2.2.2.2.2.2.2.2.2.2.2.2.2.2.2.2.2.2.2.2.2.2.2.2.2.2.2.2.2.2.2.2.2.2.2.2.2.2.2.2
def FrR (h0 h : AH) : Prop := (∀ c i k, ¬ (c = 5 ∨ (c = 100 ∧ 15 ≤ i) ∨ c = 102) → h.1 c i k = h0.1 c i k) ∧ h.2 = h0.2
/-- G: doors, trucks, waiting ones; now, states, the waiting ones' numbers -/
abbrev GR : Type := (Nat × Nat × Nat) × Int32 × (Nat → Int32) × (Nat → Int32)
def KR (G : GR) (h0 h : AH) : Prop := (SM h) ∧ (h.1 5 0 1 = G.2.1) ∧ (h.1 5 0 2 = nI G.1.1) ∧ (G.1.1 ≤ 4) ∧ (h.1 5 0 8 = nI G.1.2.1) ∧ (G.1.2.1 ≤ 12) ∧ (h.1 5 0 22 = nI G.1.2.2) ∧ (G.1.2.2 ≤ 12) ∧ (∀ t, h.1 100 19 t = G.2.2.1 t) ∧ (∀ t, t < 12 → inR 4 (G.2.2.1 t)) ∧ (∀ t, t < 12 → G.1.2.1 ≤ t → G.2.2.1 t = 0) ∧ (∀ t, t < 12 → inD (h.1 100 24 t)) ∧ (∀ t, t < 12 → G.2.2.1 t = 1 → inR 4 (h.1 100 24 t)) ∧ (h.1 5 0 20 = 0 ∨ h.1 5 0 20 = 1) ∧ (∀ i, h.1 100 28 i = G.2.2.2 i) ∧ (∀ i, i < 12 → inR 12 (G.2.2.2 i)) ∧ (∀ i, i < 12 → inD (h.1 100 29 i)) ∧ (FrR h0 h)
theorem KR.sh {G : GR} {h0 h : AH} (K : KR G h0 h) : SM h := K.1
theorem KR.now {G : GR} {h0 h : AH} (K : KR G h0 h) : h.1 5 0 1 = G.2.1 := K.2.1
theorem KR.doors {G : GR} {h0 h : AH} (K : KR G h0 h) : h.1 5 0 2 = nI G.1.1 := K.2.2.1
theorem KR.doors_le {G : GR} {h0 h : AH} (K : KR G h0 h) : G.1.1 ≤ 4 := K.2.2.2.1
theorem KR.trucks {G : GR} {h0 h : AH} (K : KR G h0 h) : h.1 5 0 8 = nI G.1.2.1 := K.2.2.2.2.1
theorem KR.trucks_le {G : GR} {h0 h : AH} (K : KR G h0 h) : G.1.2.1 ≤ 12 := K.2.2.2.2.2.1
theorem KR.waits {G : GR} {h0 h : AH} (K : KR G h0 h) : h.1 5 0 22 = nI G.1.2.2 := K.2.2.2.2.2.2.1
theorem KR.waits_le {G : GR} {h0 h : AH} (K : KR G h0 h) : G.1.2.2 ≤ 12 := K.2.2.2.2.2.2.2.1
theorem KR.state {G : GR} {h0 h : AH} (K : KR G h0 h) : ∀ t, h.1 100 19 t = G.2.2.1 t := K.2.2.2.2.2.2.2.2.1
theorem KR.st4 {G : GR} {h0 h : AH} (K : KR G h0 h) : ∀ t, t < 12 → inR 4 (G.2.2.1 t) := K.2.2.2.2.2.2.2.2.2.1
theorem KR.fresh {G : GR} {h0 h : AH} (K : KR G h0 h) : ∀ t, t < 12 → G.1.2.1 ≤ t → G.2.2.1 t = 0 := K.2.2.2.2.2.2.2.2.2.2.1
theorem KR.doorOf {G : GR} {h0 h : AH} (K : KR G h0 h) : ∀ t, t < 12 → inD (h.1 100 24 t) := K.2.2.2.2.2.2.2.2.2.2.2.1
theorem KR.atd {G : GR} {h0 h : AH} (K : KR G h0 h) : ∀ t, t < 12 → G.2.2.1 t = 1 → inR 4 (h.1 100 24 t) := K.2.2.2.2.2.2.2.2.2.2.2.2.1
theorem KR.ex {G : GR} {h0 h : AH} (K : KR G h0 h) : h.1 5 0 20 = 0 ∨ h.1 5 0 20 = 1 := K.2.2.2.2.2.2.2.2.2.2.2.2.2.1
theorem KR.waiting {G : GR} {h0 h : AH} (K : KR G h0 h) : ∀ i, h.1 100 28 i = G.2.2.2 i := K.2.2.2.2.2.2.2.2.2.2.2.2.2.2.1
theorem KR.wt12 {G : GR} {h0 h : AH} (K : KR G h0 h) : ∀ i, i < 12 → inR 12 (G.2.2.2 i) := K.2.2.2.2.2.2.2.2.2.2.2.2.2.2.2.1
theorem KR.newDoor {G : GR} {h0 h : AH} (K : KR G h0 h) : ∀ i, i < 12 → inD (h.1 100 29 i) := K.2.2.2.2.2.2.2.2.2.2.2.2.2.2.2.2.1
theorem KR.fr {G : GR} {h0 h : AH} (K : KR G h0 h) : FrR h0 h := K.2.2.2.2.2.2.2.2.2.2.2.2.2.2.2.2.2
theorem KR.r_kinds {G : GR} {h0 h : AH} (K : KR G h0 h) : h.2.1 5 0 3 = some (100, 15) := K.sh.r_kinds
theorem KR.l_kinds {G : GR} {h0 h : AH} (K : KR G h0 h) : h.2.2.2.1 100 15 = 4 := K.sh.l_kinds
theorem KR.r_opens {G : GR} {h0 h : AH} (K : KR G h0 h) : h.2.1 5 0 4 = some (100, 16) := K.sh.r_opens
theorem KR.l_opens {G : GR} {h0 h : AH} (K : KR G h0 h) : h.2.2.2.1 100 16 = 4 := K.sh.l_opens
theorem KR.r_closes {G : GR} {h0 h : AH} (K : KR G h0 h) : h.2.1 5 0 5 = some (100, 17) := K.sh.r_closes
theorem KR.l_closes {G : GR} {h0 h : AH} (K : KR G h0 h) : h.2.2.2.1 100 17 = 4 := K.sh.l_closes
theorem KR.r_isOut {G : GR} {h0 h : AH} (K : KR G h0 h) : h.2.1 5 0 6 = some (102, 0) := K.sh.r_isOut
theorem KR.l_isOut {G : GR} {h0 h : AH} (K : KR G h0 h) : h.2.2.2.1 102 0 = 4 := K.sh.l_isOut
theorem KR.r_left {G : GR} {h0 h : AH} (K : KR G h0 h) : h.2.1 5 0 7 = some (100, 18) := K.sh.r_left
theorem KR.l_left {G : GR} {h0 h : AH} (K : KR G h0 h) : h.2.2.2.1 100 18 = 4 := K.sh.l_left
theorem KR.r_state {G : GR} {h0 h : AH} (K : KR G h0 h) : h.2.1 5 0 9 = some (100, 19) := K.sh.r_state
theorem KR.l_state {G : GR} {h0 h : AH} (K : KR G h0 h) : h.2.2.2.1 100 19 = 12 := K.sh.l_state
theorem KR.r_kind {G : GR} {h0 h : AH} (K : KR G h0 h) : h.2.1 5 0 10 = some (100, 20) := K.sh.r_kind
theorem KR.l_kind {G : GR} {h0 h : AH} (K : KR G h0 h) : h.2.2.2.1 100 20 = 12 := K.sh.l_kind
theorem KR.r_arrival {G : GR} {h0 h : AH} (K : KR G h0 h) : h.2.1 5 0 11 = some (100, 21) := K.sh.r_arrival
theorem KR.l_arrival {G : GR} {h0 h : AH} (K : KR G h0 h) : h.2.2.2.1 100 21 = 12 := K.sh.l_arrival
theorem KR.r_need {G : GR} {h0 h : AH} (K : KR G h0 h) : h.2.1 5 0 12 = some (100, 22) := K.sh.r_need
theorem KR.l_need {G : GR} {h0 h : AH} (K : KR G h0 h) : h.2.2.2.1 100 22 = 12 := K.sh.l_need
theorem KR.r_ranks {G : GR} {h0 h : AH} (K : KR G h0 h) : h.2.1 5 0 13 = some (100, 23) := K.sh.r_ranks
theorem KR.l_ranks {G : GR} {h0 h : AH} (K : KR G h0 h) : h.2.2.2.1 100 23 = 12 := K.sh.l_ranks
theorem KR.r_doorOf {G : GR} {h0 h : AH} (K : KR G h0 h) : h.2.1 5 0 14 = some (100, 24) := K.sh.r_doorOf
theorem KR.l_doorOf {G : GR} {h0 h : AH} (K : KR G h0 h) : h.2.2.2.1 100 24 = 12 := K.sh.l_doorOf
theorem KR.r_start {G : GR} {h0 h : AH} (K : KR G h0 h) : h.2.1 5 0 15 = some (100, 25) := K.sh.r_start
theorem KR.l_start {G : GR} {h0 h : AH} (K : KR G h0 h) : h.2.2.2.1 100 25 = 12 := K.sh.l_start
theorem KR.r_gone {G : GR} {h0 h : AH} (K : KR G h0 h) : h.2.1 5 0 16 = some (100, 26) := K.sh.r_gone
theorem KR.l_gone {G : GR} {h0 h : AH} (K : KR G h0 h) : h.2.2.2.1 100 26 = 12 := K.sh.l_gone
theorem KR.r_seals {G : GR} {h0 h : AH} (K : KR G h0 h) : h.2.1 5 0 17 = some (100, 27) := K.sh.r_seals
theorem KR.l_seals {G : GR} {h0 h : AH} (K : KR G h0 h) : h.2.2.2.1 100 27 = 12 := K.sh.l_seals
theorem KR.r_twice {G : GR} {h0 h : AH} (K : KR G h0 h) : h.2.1 5 0 18 = some (102, 1) := K.sh.r_twice
theorem KR.l_twice {G : GR} {h0 h : AH} (K : KR G h0 h) : h.2.2.2.1 102 1 = 12 := K.sh.l_twice
theorem KR.r_same {G : GR} {h0 h : AH} (K : KR G h0 h) : h.2.1 5 0 19 = some (102, 2) := K.sh.r_same
theorem KR.l_same {G : GR} {h0 h : AH} (K : KR G h0 h) : h.2.2.2.1 102 2 = 12 := K.sh.l_same
theorem KR.r_waiting {G : GR} {h0 h : AH} (K : KR G h0 h) : h.2.1 5 0 23 = some (100, 28) := K.sh.r_waiting
theorem KR.l_waiting {G : GR} {h0 h : AH} (K : KR G h0 h) : h.2.2.2.1 100 28 = 12 := K.sh.l_waiting
theorem KR.r_newDoor {G : GR} {h0 h : AH} (K : KR G h0 h) : h.2.1 5 0 24 = some (100, 29) := K.sh.r_newDoor
theorem KR.l_newDoor {G : GR} {h0 h : AH} (K : KR G h0 h) : h.2.2.2.1 100 29 = 12 := K.sh.l_newDoor
theorem KR.r_newStart {G : GR} {h0 h : AH} (K : KR G h0 h) : h.2.1 5 0 25 = some (100, 30) := K.sh.r_newStart
theorem KR.l_newStart {G : GR} {h0 h : AH} (K : KR G h0 h) : h.2.2.2.1 100 30 = 12 := K.sh.l_newStart
theorem KR.r_setCost {G : GR} {h0 h : AH} (K : KR G h0 h) : h.2.1 5 0 26 = some (100, 31) := K.sh.r_setCost
theorem KR.l_setCost {G : GR} {h0 h : AH} (K : KR G h0 h) : h.2.2.2.1 100 31 = 128 := K.sh.l_setCost
theorem KR.r_setStart {G : GR} {h0 h : AH} (K : KR G h0 h) : h.2.1 5 0 27 = some (100, 32) := K.sh.r_setStart
theorem KR.l_setStart {G : GR} {h0 h : AH} (K : KR G h0 h) : h.2.2.2.1 100 32 = 640 := K.sh.l_setStart
theorem KR.r_trial {G : GR} {h0 h : AH} (K : KR G h0 h) : h.2.1 5 0 28 = some (100, 33) := K.sh.r_trial
theorem KR.l_trial {G : GR} {h0 h : AH} (K : KR G h0 h) : h.2.2.2.1 100 33 = 5 := K.sh.l_trial
theorem KR.r_counts {G : GR} {h0 h : AH} (K : KR G h0 h) : h.2.1 5 0 29 = some (100, 34) := K.sh.r_counts
theorem KR.l_counts {G : GR} {h0 h : AH} (K : KR G h0 h) : h.2.2.2.1 100 34 = 4 := K.sh.l_counts
theorem FrR.rf {h : AH} : FrR h h := ⟨fun _ _ _ _ => rfl, rfl⟩
theorem FrR.up {h0 h : AH} {c i k : Nat} {v : Int32} (F : FrR h0 h) (ho : c = 5 ∨ (c = 100 ∧ 15 ≤ i) ∨ c = 102) : FrR h0 (ma_up h.1 c i k v, h.2) :=
  ⟨fun c' i' k' hn => by
    show ma_up h.1 c i k v c' i' k' = _
    rw [ma_up_ne (by omega)]
    exact F.1 c' i' k' hn, F.2⟩
theorem FrR.tr {h0 h1 h2 : AH} (F : FrR h0 h1) (F2 : FrR h1 h2) : FrR h0 h2 := ⟨fun c i k hn => (F2.1 c i k hn).trans (F.1 c i k hn), F2.2.trans F.2⟩
theorem KR.refr {G : GR} {h0 h0' h : AH} (K : KR G h0 h) (F : FrR h0' h) : KR G h0' h :=
  ⟨K.sh, K.now, K.doors, K.doors_le, K.trucks, K.trucks_le, K.waits, K.waits_le, K.state, K.st4, K.fresh, K.doorOf, K.atd, K.ex, K.waiting, K.wt12, K.newDoor, F⟩
theorem KR.st0 {G : GR} {h0 h : AH} (K : KR G h0 h) : KR G h h := K.refr FrR.rf
theorem KR.tr {G G' : GR} {h0 h1 h2 : AH} (K : KR G h0 h1) (K2 : KR G' h1 h2) : KR G' h0 h2 := K2.refr (K.fr.tr K2.fr)
/-- a place that nobody minds -/
theorem KR.up {G : GR} {h0 h : AH} {c i k : Nat} {v : Int32} (K : KR G h0 h) (ho : (c = 5 ∧ k ≠ 1 ∧ k ≠ 2 ∧ k ≠ 8 ∧ k ≠ 20 ∧ k ≠ 22) ∨ (c = 100 ∧ 15 ≤ i ∧ i ≠ 19 ∧ i ≠ 24 ∧ i ≠ 28 ∧ i ≠ 29) ∨ c = 102) : KR G h0 (ma_up h.1 c i k v, h.2) := by
  have e : ∀ c' i' k', (c' = 5 ∧ (k' = 1 ∨ k' = 2 ∨ k' = 8 ∨ k' = 20 ∨ k' = 22)) ∨ (c' = 100 ∧ (i' = 19 ∨ i' = 24 ∨ i' = 28 ∨ i' = 29)) → ma_up h.1 c i k v c' i' k' = h.1 c' i' k' := fun c' i' k' h9 => ma_up_ne (by omega)
  refine ⟨K.sh, (e _ _ _ (by omega)).trans K.now, (e _ _ _ (by omega)).trans K.doors, K.doors_le, (e _ _ _ (by omega)).trans K.trucks, K.trucks_le, (e _ _ _ (by omega)).trans K.waits, K.waits_le, fun t => (e _ _ _ (by omega)).trans (K.state t), K.st4, K.fresh, fun t ht => ?_, fun t ht hs => ?_, ?_, fun t => (e _ _ _ (by omega)).trans (K.waiting t), K.wt12, fun t ht => ?_, K.fr.up (by omega)⟩
  · show inD (ma_up h.1 c i k v 100 24 t); rw [e _ _ _ (by omega)]; exact K.doorOf t ht
  · show inR 4 (ma_up h.1 c i k v 100 24 t); rw [e _ _ _ (by omega)]; exact K.atd t ht hs
  · show ma_up h.1 c i k v 5 0 20 = 0 ∨ ma_up h.1 c i k v 5 0 20 = 1; rw [e _ _ _ (by omega)]; exact K.ex
  · show inD (ma_up h.1 c i k v 100 29 t); rw [e _ _ _ (by omega)]; exact K.newDoor t ht
theorem KR.upNow {G : GR} {h0 h : AH} {v : Int32}  (K : KR G h0 h)  : KR (G.1, v, G.2.2) h0 (ma_up h.1 5 0 1 v, h.2) :=
  ⟨K.sh,
   ma_up_self h.1 5 0 1 v,
   (show ma_up h.1 5 0 1 v 5 0 2 = h.1 5 0 2 from ma_up_ne (by omega)).trans K.doors,
   K.doors_le,
   (show ma_up h.1 5 0 1 v 5 0 8 = h.1 5 0 8 from ma_up_ne (by omega)).trans K.trucks,
   K.trucks_le,
   (show ma_up h.1 5 0 1 v 5 0 22 = h.1 5 0 22 from ma_up_ne (by omega)).trans K.waits,
   K.waits_le,
   fun t => (show ma_up h.1 5 0 1 v 100 19 t = h.1 100 19 t from ma_up_ne (by omega)).trans (K.state t),
   K.st4,
   K.fresh,
   fun t ht => by
    show inD (ma_up h.1 5 0 1 v 100 24 t)
    rw [ma_up_ne (by omega)]
    exact K.doorOf t ht,
   fun t ht hs => by
    show inR 4 (ma_up h.1 5 0 1 v 100 24 t)
    rw [ma_up_ne (by omega)]
    exact K.atd t ht hs,
   by
    show ma_up h.1 5 0 1 v 5 0 20 = 0 ∨ ma_up h.1 5 0 1 v 5 0 20 = 1
    rw [ma_up_ne (by omega)]
    exact K.ex,
   fun t => (show ma_up h.1 5 0 1 v 100 28 t = h.1 100 28 t from ma_up_ne (by omega)).trans (K.waiting t),
   K.wt12,
   fun t ht => by
    show inD (ma_up h.1 5 0 1 v 100 29 t)
    rw [ma_up_ne (by omega)]
    exact K.newDoor t ht,
   K.fr.up (by omega)⟩
theorem KR.upDoors {G : GR} {h0 h : AH} {v : Int32}  (K : KR G h0 h) (hv : v = nI (G.1.1 + 1)) (hl : G.1.1 < 4) : KR ((G.1.1 + 1, G.1.2), G.2) h0 (ma_up h.1 5 0 2 v, h.2) :=
  ⟨K.sh,
   (show ma_up h.1 5 0 2 v 5 0 1 = h.1 5 0 1 from ma_up_ne (by omega)).trans K.now,
   (ma_up_self h.1 5 0 2 v).trans hv,
   hl,
   (show ma_up h.1 5 0 2 v 5 0 8 = h.1 5 0 8 from ma_up_ne (by omega)).trans K.trucks,
   K.trucks_le,
   (show ma_up h.1 5 0 2 v 5 0 22 = h.1 5 0 22 from ma_up_ne (by omega)).trans K.waits,
   K.waits_le,
   fun t => (show ma_up h.1 5 0 2 v 100 19 t = h.1 100 19 t from ma_up_ne (by omega)).trans (K.state t),
   K.st4,
   K.fresh,
   fun t ht => by
    show inD (ma_up h.1 5 0 2 v 100 24 t)
    rw [ma_up_ne (by omega)]
    exact K.doorOf t ht,
   fun t ht hs => by
    show inR 4 (ma_up h.1 5 0 2 v 100 24 t)
    rw [ma_up_ne (by omega)]
    exact K.atd t ht hs,
   by
    show ma_up h.1 5 0 2 v 5 0 20 = 0 ∨ ma_up h.1 5 0 2 v 5 0 20 = 1
    rw [ma_up_ne (by omega)]
    exact K.ex,
   fun t => (show ma_up h.1 5 0 2 v 100 28 t = h.1 100 28 t from ma_up_ne (by omega)).trans (K.waiting t),
   K.wt12,
   fun t ht => by
    show inD (ma_up h.1 5 0 2 v 100 29 t)
    rw [ma_up_ne (by omega)]
    exact K.newDoor t ht,
   K.fr.up (by omega)⟩
theorem KR.upTrucks {G : GR} {h0 h : AH} {v : Int32}  (K : KR G h0 h) (hv : v = nI (G.1.2.1 + 1)) (hl : G.1.2.1 < 12) : KR ((G.1.1, G.1.2.1 + 1, G.1.2.2), G.2) h0 (ma_up h.1 5 0 8 v, h.2) :=
  ⟨K.sh,
   (show ma_up h.1 5 0 8 v 5 0 1 = h.1 5 0 1 from ma_up_ne (by omega)).trans K.now,
   (show ma_up h.1 5 0 8 v 5 0 2 = h.1 5 0 2 from ma_up_ne (by omega)).trans K.doors,
   K.doors_le,
   (ma_up_self h.1 5 0 8 v).trans hv,
   hl,
   (show ma_up h.1 5 0 8 v 5 0 22 = h.1 5 0 22 from ma_up_ne (by omega)).trans K.waits,
   K.waits_le,
   fun t => (show ma_up h.1 5 0 8 v 100 19 t = h.1 100 19 t from ma_up_ne (by omega)).trans (K.state t),
   K.st4,
   fun t ht h9 => K.fresh t ht (Nat.le_of_succ_le h9),
   fun t ht => by
    show inD (ma_up h.1 5 0 8 v 100 24 t)
    rw [ma_up_ne (by omega)]
    exact K.doorOf t ht,
   fun t ht hs => by
    show inR 4 (ma_up h.1 5 0 8 v 100 24 t)
    rw [ma_up_ne (by omega)]
    exact K.atd t ht hs,
   by
    show ma_up h.1 5 0 8 v 5 0 20 = 0 ∨ ma_up h.1 5 0 8 v 5 0 20 = 1
    rw [ma_up_ne (by omega)]
    exact K.ex,
   fun t => (show ma_up h.1 5 0 8 v 100 28 t = h.1 100 28 t from ma_up_ne (by omega)).trans (K.waiting t),
   K.wt12,
   fun t ht => by
    show inD (ma_up h.1 5 0 8 v 100 29 t)
    rw [ma_up_ne (by omega)]
    exact K.newDoor t ht,
   K.fr.up (by omega)⟩
theorem KR.upWaits {G : GR} {h0 h : AH} {v : Int32} {w : Nat} (K : KR G h0 h) (hv : v = nI w) (hl : w ≤ 12) : KR ((G.1.1, G.1.2.1, w), G.2) h0 (ma_up h.1 5 0 22 v, h.2) :=
  ⟨K.sh,
   (show ma_up h.1 5 0 22 v 5 0 1 = h.1 5 0 1 from ma_up_ne (by omega)).trans K.now,
   (show ma_up h.1 5 0 22 v 5 0 2 = h.1 5 0 2 from ma_up_ne (by omega)).trans K.doors,
   K.doors_le,
   (show ma_up h.1 5 0 22 v 5 0 8 = h.1 5 0 8 from ma_up_ne (by omega)).trans K.trucks,
   K.trucks_le,
   (ma_up_self h.1 5 0 22 v).trans hv,
   hl,
   fun t => (show ma_up h.1 5 0 22 v 100 19 t = h.1 100 19 t from ma_up_ne (by omega)).trans (K.state t),
   K.st4,
   K.fresh,
   fun t ht => by
    show inD (ma_up h.1 5 0 22 v 100 24 t)
    rw [ma_up_ne (by omega)]
    exact K.doorOf t ht,
   fun t ht hs => by
    show inR 4 (ma_up h.1 5 0 22 v 100 24 t)
    rw [ma_up_ne (by omega)]
    exact K.atd t ht hs,
   by
    show ma_up h.1 5 0 22 v 5 0 20 = 0 ∨ ma_up h.1 5 0 22 v 5 0 20 = 1
    rw [ma_up_ne (by omega)]
    exact K.ex,
   fun t => (show ma_up h.1 5 0 22 v 100 28 t = h.1 100 28 t from ma_up_ne (by omega)).trans (K.waiting t),
   K.wt12,
   fun t ht => by
    show inD (ma_up h.1 5 0 22 v 100 29 t)
    rw [ma_up_ne (by omega)]
    exact K.newDoor t ht,
   K.fr.up (by omega)⟩
theorem KR.upEx {G : GR} {h0 h : AH} {v : Int32}  (K : KR G h0 h) (hv : v = 0 ∨ v = 1) : KR G h0 (ma_up h.1 5 0 20 v, h.2) :=
  ⟨K.sh,
   (show ma_up h.1 5 0 20 v 5 0 1 = h.1 5 0 1 from ma_up_ne (by omega)).trans K.now,
   (show ma_up h.1 5 0 20 v 5 0 2 = h.1 5 0 2 from ma_up_ne (by omega)).trans K.doors,
   K.doors_le,
   (show ma_up h.1 5 0 20 v 5 0 8 = h.1 5 0 8 from ma_up_ne (by omega)).trans K.trucks,
   K.trucks_le,
   (show ma_up h.1 5 0 20 v 5 0 22 = h.1 5 0 22 from ma_up_ne (by omega)).trans K.waits,
   K.waits_le,
   fun t => (show ma_up h.1 5 0 20 v 100 19 t = h.1 100 19 t from ma_up_ne (by omega)).trans (K.state t),
   K.st4,
   K.fresh,
   fun t ht => by
    show inD (ma_up h.1 5 0 20 v 100 24 t)
    rw [ma_up_ne (by omega)]
    exact K.doorOf t ht,
   fun t ht hs => by
    show inR 4 (ma_up h.1 5 0 20 v 100 24 t)
    rw [ma_up_ne (by omega)]
    exact K.atd t ht hs,
   by
    show ma_up h.1 5 0 20 v 5 0 20 = 0 ∨ ma_up h.1 5 0 20 v 5 0 20 = 1
    rw [ma_up_self]
    exact hv,
   fun t => (show ma_up h.1 5 0 20 v 100 28 t = h.1 100 28 t from ma_up_ne (by omega)).trans (K.waiting t),
   K.wt12,
   fun t ht => by
    show inD (ma_up h.1 5 0 20 v 100 29 t)
    rw [ma_up_ne (by omega)]
    exact K.newDoor t ht,
   K.fr.up (by omega)⟩
theorem KR.upNewDoor {G : GR} {h0 h : AH} {v : Int32} {x : Nat} (K : KR G h0 h) (hv : inD v) : KR G h0 (ma_up h.1 100 29 x v, h.2) :=
  ⟨K.sh,
   (show ma_up h.1 100 29 x v 5 0 1 = h.1 5 0 1 from ma_up_ne (by omega)).trans K.now,
   (show ma_up h.1 100 29 x v 5 0 2 = h.1 5 0 2 from ma_up_ne (by omega)).trans K.doors,
   K.doors_le,
   (show ma_up h.1 100 29 x v 5 0 8 = h.1 5 0 8 from ma_up_ne (by omega)).trans K.trucks,
   K.trucks_le,
   (show ma_up h.1 100 29 x v 5 0 22 = h.1 5 0 22 from ma_up_ne (by omega)).trans K.waits,
   K.waits_le,
   fun t => (show ma_up h.1 100 29 x v 100 19 t = h.1 100 19 t from ma_up_ne (by omega)).trans (K.state t),
   K.st4,
   K.fresh,
   fun t ht => by
    show inD (ma_up h.1 100 29 x v 100 24 t)
    rw [ma_up_ne (by omega)]
    exact K.doorOf t ht,
   fun t ht hs => by
    show inR 4 (ma_up h.1 100 29 x v 100 24 t)
    rw [ma_up_ne (by omega)]
    exact K.atd t ht hs,
   by
    show ma_up h.1 100 29 x v 5 0 20 = 0 ∨ ma_up h.1 100 29 x v 5 0 20 = 1
    rw [ma_up_ne (by omega)]
    exact K.ex,
   fun t => (show ma_up h.1 100 29 x v 100 28 t = h.1 100 28 t from ma_up_ne (by omega)).trans (K.waiting t),
   K.wt12,
   fun t ht => by
    show inD (ma_up h.1 100 29 x v 100 29 t)
    exact ma_up_cases inD (fun _ => hv) (fun _ => K.newDoor t ht),
   K.fr.up (by omega)⟩
theorem KR.upDoorOf {G : GR} {h0 h : AH} {v : Int32} {x : Nat} (K : KR G h0 h) (hv : inD v) (hs1 : G.2.2.1 x = 1 → inR 4 v) : KR G h0 (ma_up h.1 100 24 x v, h.2) :=
  ⟨K.sh,
   (show ma_up h.1 100 24 x v 5 0 1 = h.1 5 0 1 from ma_up_ne (by omega)).trans K.now,
   (show ma_up h.1 100 24 x v 5 0 2 = h.1 5 0 2 from ma_up_ne (by omega)).trans K.doors,
   K.doors_le,
   (show ma_up h.1 100 24 x v 5 0 8 = h.1 5 0 8 from ma_up_ne (by omega)).trans K.trucks,
   K.trucks_le,
   (show ma_up h.1 100 24 x v 5 0 22 = h.1 5 0 22 from ma_up_ne (by omega)).trans K.waits,
   K.waits_le,
   fun t => (show ma_up h.1 100 24 x v 100 19 t = h.1 100 19 t from ma_up_ne (by omega)).trans (K.state t),
   K.st4,
   K.fresh,
   fun t ht => by
    show inD (ma_up h.1 100 24 x v 100 24 t)
    exact ma_up_cases inD (fun _ => hv) (fun _ => K.doorOf t ht),
   fun t ht hs => by
    show inR 4 (ma_up h.1 100 24 x v 100 24 t)
    exact ma_up_cases (inR 4) (fun e => hs1 (e ▸ hs)) (fun _ => K.atd t ht hs),
   by
    show ma_up h.1 100 24 x v 5 0 20 = 0 ∨ ma_up h.1 100 24 x v 5 0 20 = 1
    rw [ma_up_ne (by omega)]
    exact K.ex,
   fun t => (show ma_up h.1 100 24 x v 100 28 t = h.1 100 28 t from ma_up_ne (by omega)).trans (K.waiting t),
   K.wt12,
   fun t ht => by
    show inD (ma_up h.1 100 24 x v 100 29 t)
    rw [ma_up_ne (by omega)]
    exact K.newDoor t ht,
   K.fr.up (by omega)⟩
/-- a row at one place -/
def f_up (f : Nat → Int32) (x : Nat) (v : Int32) : Nat → Int32 := fun t => if t = x then v else f t
theorem f_up_self (f : Nat → Int32) (x : Nat) (v : Int32) : f_up f x v x = v := if_pos rfl
theorem f_up_ne {f : Nat → Int32} {x t : Nat} {v : Int32} (h : t ≠ x) : f_up f x v t = f t := if_neg h
theorem ma_up_f {m : Nat → Nat → Nat → Int32} {c i x t : Nat} {v : Int32} {f : Nat → Int32} (h : m c i t = f t) : ma_up m c i x v c i t = f_up f x v t := by
  by_cases e : t = x
  · subst e; rw [ma_up_self, f_up_self]
  · rw [ma_up_ne (Or.inr (Or.inr e)), f_up_ne e]; exact h
theorem KR.upState {G : GR} {h0 h : AH} {v : Int32} {x : Nat} (K : KR G h0 h) (hv : inR 4 v) (hx : x < G.1.2.1) (hs1 : v = 1 → inR 4 (h.1 100 24 x)) : KR (G.1, G.2.1, f_up G.2.2.1 x v, G.2.2.2) h0 (ma_up h.1 100 19 x v, h.2) :=
  ⟨K.sh,
   (show ma_up h.1 100 19 x v 5 0 1 = h.1 5 0 1 from ma_up_ne (by omega)).trans K.now,
   (show ma_up h.1 100 19 x v 5 0 2 = h.1 5 0 2 from ma_up_ne (by omega)).trans K.doors,
   K.doors_le,
   (show ma_up h.1 100 19 x v 5 0 8 = h.1 5 0 8 from ma_up_ne (by omega)).trans K.trucks,
   K.trucks_le,
   (show ma_up h.1 100 19 x v 5 0 22 = h.1 5 0 22 from ma_up_ne (by omega)).trans K.waits,
   K.waits_le,
   fun t => ma_up_f (K.state t),
   fun t ht => by
    by_cases e : t = x
    · subst e; show inR 4 (f_up G.2.2.1 t v t); rw [f_up_self]; exact hv
    · show inR 4 (f_up G.2.2.1 x v t); rw [f_up_ne e]; exact K.st4 t ht,
   fun t ht h9 => (f_up_ne (by have := h9; simp only at this; omega)).trans (K.fresh t ht h9),
   fun t ht => by
    show inD (ma_up h.1 100 19 x v 100 24 t)
    rw [ma_up_ne (by omega)]
    exact K.doorOf t ht,
   fun t ht hs => by
    show inR 4 (ma_up h.1 100 19 x v 100 24 t)
    rw [ma_up_ne (by omega)]
    by_cases e : t = x
    · subst e; have h9 : f_up G.2.2.1 t v t = 1 := hs; rw [f_up_self] at h9; exact hs1 h9
    · have h9 : f_up G.2.2.1 x v t = 1 := hs; rw [f_up_ne e] at h9; exact K.atd t ht h9,
   by
    show ma_up h.1 100 19 x v 5 0 20 = 0 ∨ ma_up h.1 100 19 x v 5 0 20 = 1
    rw [ma_up_ne (by omega)]
    exact K.ex,
   fun t => (show ma_up h.1 100 19 x v 100 28 t = h.1 100 28 t from ma_up_ne (by omega)).trans (K.waiting t),
   K.wt12,
   fun t ht => by
    show inD (ma_up h.1 100 19 x v 100 29 t)
    rw [ma_up_ne (by omega)]
    exact K.newDoor t ht,
   K.fr.up (by omega)⟩
theorem KR.upWaiting {G : GR} {h0 h : AH} {v : Int32} {x : Nat} (K : KR G h0 h) (hv : inR 12 v) : KR (G.1, G.2.1, G.2.2.1, f_up G.2.2.2 x v) h0 (ma_up h.1 100 28 x v, h.2) :=
  ⟨K.sh,
   (show ma_up h.1 100 28 x v 5 0 1 = h.1 5 0 1 from ma_up_ne (by omega)).trans K.now,
   (show ma_up h.1 100 28 x v 5 0 2 = h.1 5 0 2 from ma_up_ne (by omega)).trans K.doors,
   K.doors_le,
   (show ma_up h.1 100 28 x v 5 0 8 = h.1 5 0 8 from ma_up_ne (by omega)).trans K.trucks,
   K.trucks_le,
   (show ma_up h.1 100 28 x v 5 0 22 = h.1 5 0 22 from ma_up_ne (by omega)).trans K.waits,
   K.waits_le,
   fun t => (show ma_up h.1 100 28 x v 100 19 t = h.1 100 19 t from ma_up_ne (by omega)).trans (K.state t),
   K.st4,
   K.fresh,
   fun t ht => by
    show inD (ma_up h.1 100 28 x v 100 24 t)
    rw [ma_up_ne (by omega)]
    exact K.doorOf t ht,
   fun t ht hs => by
    show inR 4 (ma_up h.1 100 28 x v 100 24 t)
    rw [ma_up_ne (by omega)]
    exact K.atd t ht hs,
   by
    show ma_up h.1 100 28 x v 5 0 20 = 0 ∨ ma_up h.1 100 28 x v 5 0 20 = 1
    rw [ma_up_ne (by omega)]
    exact K.ex,
   fun t => ma_up_f (K.waiting t),
   fun t ht => by
    by_cases e : t = x
    · subst e; show inR 12 (f_up G.2.2.2 t v t); rw [f_up_self]; exact hv
    · show inR 12 (f_up G.2.2.2 x v t); rw [f_up_ne e]; exact K.wt12 t ht,
   fun t ht => by
    show inD (ma_up h.1 100 28 x v 100 29 t)
    rw [ma_up_ne (by omega)]
    exact K.newDoor t ht,
   K.fr.up (by omega)⟩
/-! THE BOOK: shape, invariant, writes -/
def SC (h : AH) : Prop := (h.2.1 1 0 0 = some (112, 0)) ∧ (h.2.2.2.1 112 0 = 4) ∧ (h.2.1 1 0 1 = some (100, 0)) ∧ (h.2.2.2.1 100 0 = 4) ∧ (h.2.1 1 0 2 = some (100, 1)) ∧ (h.2.2.2.1 100 1 = 5) ∧ (h.2.1 1 0 3 = some (100, 2)) ∧ (h.2.2.2.1 100 2 = 5) ∧ (∀ i, i < 4 → h.2.1 112 0 i = some (2, i)) ∧ (∀ i, i < 4 → h.2.1 2 i 0 = some (100, 3 + 3 * i)) ∧ (∀ i, i < 4 → h.2.2.2.1 100 (3 + 3 * i) = 32) ∧ (∀ i, i < 4 → h.2.1 2 i 1 = some (100, 4 + 3 * i)) ∧ (∀ i, i < 4 → h.2.2.2.1 100 (4 + 3 * i) = 160) ∧ (∀ i, i < 4 → h.2.1 2 i 2 = some (100, 5 + 3 * i)) ∧ (∀ i, i < 4 → h.2.2.2.1 100 (5 + 3 * i) = 5)
theorem SC.orders {h : AH} (K : SC h) : h.2.1 1 0 0 = some (112, 0) := K.1
theorem SC.lorders {h : AH} (K : SC h) : h.2.2.2.1 112 0 = 4 := K.2.1
theorem SC.setAt {h : AH} (K : SC h) : h.2.1 1 0 1 = some (100, 0) := K.2.2.1
theorem SC.lsetAt {h : AH} (K : SC h) : h.2.2.2.1 100 0 = 4 := K.2.2.2.1
theorem SC.chosen {h : AH} (K : SC h) : h.2.1 1 0 2 = some (100, 1) := K.2.2.2.2.1
theorem SC.lchosen {h : AH} (K : SC h) : h.2.2.2.1 100 1 = 5 := K.2.2.2.2.2.1
theorem SC.best {h : AH} (K : SC h) : h.2.1 1 0 3 = some (100, 2) := K.2.2.2.2.2.2.1
theorem SC.lbest {h : AH} (K : SC h) : h.2.2.2.1 100 2 = 5 := K.2.2.2.2.2.2.2.1
theorem SC.order {h : AH} (K : SC h) : ∀ i, i < 4 → h.2.1 112 0 i = some (2, i) := K.2.2.2.2.2.2.2.2.1
theorem SC.costs {h : AH} (K : SC h) : ∀ i, i < 4 → h.2.1 2 i 0 = some (100, 3 + 3 * i) := K.2.2.2.2.2.2.2.2.2.1
theorem SC.lcosts {h : AH} (K : SC h) : ∀ i, i < 4 → h.2.2.2.1 100 (3 + 3 * i) = 32 := K.2.2.2.2.2.2.2.2.2.2.1
theorem SC.bests {h : AH} (K : SC h) : ∀ i, i < 4 → h.2.1 2 i 1 = some (100, 4 + 3 * i) := K.2.2.2.2.2.2.2.2.2.2.2.1
theorem SC.lbests {h : AH} (K : SC h) : ∀ i, i < 4 → h.2.2.2.1 100 (4 + 3 * i) = 160 := K.2.2.2.2.2.2.2.2.2.2.2.2.1
theorem SC.starts {h : AH} (K : SC h) : ∀ i, i < 4 → h.2.1 2 i 2 = some (100, 5 + 3 * i) := K.2.2.2.2.2.2.2.2.2.2.2.2.2.1
theorem SC.lstarts {h : AH} (K : SC h) : ∀ i, i < 4 → h.2.2.2.1 100 (5 + 3 * i) = 5 := K.2.2.2.2.2.2.2.2.2.2.2.2.2.2
def FrB (h0 h : AH) : Prop := (∀ c i k, ¬ (c ≤ 4 ∨ (c = 100 ∧ i < 15)) → h.1 c i k = h0.1 c i k) ∧ (∀ c i k, ¬ (c = 113 ∧ i = 1) → h.2.1 c i k = h0.2.1 c i k) ∧ h.2.2 = h0.2.2
/-- G: doors, trucks; now -/
abbrev GB : Type := (Nat × Nat) × Int32
def KB (G : GB) (h0 h : AH) : Prop := (SB h) ∧ (SC h) ∧ (h.1 4 0 4 = nI G.1.1) ∧ (G.1.1 ≤ 4) ∧ (h.1 4 0 5 = nI G.1.2) ∧ (G.1.2 ≤ 12) ∧ (h.1 4 0 6 = G.2) ∧ (h.1 4 0 7 = 0 ∨ h.1 4 0 7 = 1) ∧ (∀ i, i < 12 → ∃ j, j < 12 ∧ h.2.1 113 1 i = some (3, j)) ∧ (∀ k, k < 5 → inD (h.1 100 2 k)) ∧ (∀ k, k < 5 → inD (h.1 100 1 k)) ∧ (∀ k, k < 4 → inR 32 (h.1 100 0 k)) ∧ (FrB h0 h)
theorem KB.sb {G : GB} {h0 h : AH} (K : KB G h0 h) : SB h := K.1
theorem KB.sc {G : GB} {h0 h : AH} (K : KB G h0 h) : SC h := K.2.1
theorem KB.doors {G : GB} {h0 h : AH} (K : KB G h0 h) : h.1 4 0 4 = nI G.1.1 := K.2.2.1
theorem KB.doors_le {G : GB} {h0 h : AH} (K : KB G h0 h) : G.1.1 ≤ 4 := K.2.2.2.1
theorem KB.trucks {G : GB} {h0 h : AH} (K : KB G h0 h) : h.1 4 0 5 = nI G.1.2 := K.2.2.2.2.1
theorem KB.trucks_le {G : GB} {h0 h : AH} (K : KB G h0 h) : G.1.2 ≤ 12 := K.2.2.2.2.2.1
theorem KB.now {G : GB} {h0 h : AH} (K : KB G h0 h) : h.1 4 0 6 = G.2 := K.2.2.2.2.2.2.1
theorem KB.ex {G : GB} {h0 h : AH} (K : KB G h0 h) : h.1 4 0 7 = 0 ∨ h.1 4 0 7 = 1 := K.2.2.2.2.2.2.2.1
theorem KB.wait {G : GB} {h0 h : AH} (K : KB G h0 h) : ∀ i, i < 12 → ∃ j, j < 12 ∧ h.2.1 113 1 i = some (3, j) := K.2.2.2.2.2.2.2.2.1
theorem KB.bd {G : GB} {h0 h : AH} (K : KB G h0 h) : ∀ k, k < 5 → inD (h.1 100 2 k) := K.2.2.2.2.2.2.2.2.2.1
theorem KB.cd {G : GB} {h0 h : AH} (K : KB G h0 h) : ∀ k, k < 5 → inD (h.1 100 1 k) := K.2.2.2.2.2.2.2.2.2.2.1
theorem KB.sa {G : GB} {h0 h : AH} (K : KB G h0 h) : ∀ k, k < 4 → inR 32 (h.1 100 0 k) := K.2.2.2.2.2.2.2.2.2.2.2.1
theorem KB.fr {G : GB} {h0 h : AH} (K : KB G h0 h) : FrB h0 h := K.2.2.2.2.2.2.2.2.2.2.2.2
theorem SB.wait {h : AH} (s : SB h) : h.2.1 4 0 2 = some (113, 1) := s.2.2.1
theorem SB.lwait {h : AH} (s : SB h) : h.2.2.2.1 113 1 = 12 := s.2.2.2.2.2.2.1
theorem SB.choice {h : AH} (s : SB h) : h.2.1 4 0 3 = some (1, 0) := s.2.2.2.1
theorem FrB.rf {h : AH} : FrB h h := ⟨fun _ _ _ _ => rfl, fun _ _ _ _ => rfl, rfl⟩
theorem FrB.up {h0 h : AH} {c i k : Nat} {v : Int32} (F : FrB h0 h) (ho : c ≤ 4 ∨ (c = 100 ∧ i < 15)) : FrB h0 (ma_up h.1 c i k v, h.2) :=
  ⟨fun c' i' k' hn => by
    show ma_up h.1 c i k v c' i' k' = _
    rw [ma_up_ne (by omega)]
    exact F.1 c' i' k' hn, F.2⟩
theorem FrB.tr {h0 h1 h2 : AH} (F : FrB h0 h1) (F2 : FrB h1 h2) : FrB h0 h2 := ⟨fun c i k hn => (F2.1 c i k hn).trans (F.1 c i k hn), fun c i k hn => (F2.2.1 c i k hn).trans (F.2.1 c i k hn), F2.2.2.trans F.2.2⟩
theorem KB.refr {G : GB} {h0 h0' h : AH} (K : KB G h0 h) (F : FrB h0' h) : KB G h0' h := ⟨K.sb, K.sc, K.doors, K.doors_le, K.trucks, K.trucks_le, K.now, K.ex, K.wait, K.bd, K.cd, K.sa, F⟩
theorem KB.st0 {G : GB} {h0 h : AH} (K : KB G h0 h) : KB G h h := K.refr FrB.rf
theorem KB.tr {G G' : GB} {h0 h1 h2 : AH} (K : KB G h0 h1) (K2 : KB G' h1 h2) : KB G' h0 h2 := K2.refr (K.fr.tr K2.fr)
/-- a place that nobody minds -/
theorem KB.up {G : GB} {h0 h : AH} {c i k : Nat} {v : Int32} (K : KB G h0 h) (ho : c ≤ 3 ∨ (c = 4 ∧ k = 8) ∨ (c = 100 ∧ i < 15 ∧ 2 < i)) : KB G h0 (ma_up h.1 c i k v, h.2) := by
  have e : ∀ c' i' k', (c' = 4 ∧ (k' = 4 ∨ k' = 5 ∨ k' = 6 ∨ k' = 7)) ∨ (c' = 100 ∧ i' ≤ 2) → ma_up h.1 c i k v c' i' k' = h.1 c' i' k' := fun c' i' k' h9 => ma_up_ne (by omega)
  refine ⟨K.sb, K.sc, (e _ _ _ (by omega)).trans K.doors, K.doors_le, (e _ _ _ (by omega)).trans K.trucks, K.trucks_le, (e _ _ _ (by omega)).trans K.now, ?_, K.wait, fun t ht => ?_, fun t ht => ?_, fun t ht => ?_, K.fr.up (by omega)⟩
  · show ma_up h.1 c i k v 4 0 7 = 0 ∨ ma_up h.1 c i k v 4 0 7 = 1; rw [e _ _ _ (by omega)]; exact K.ex
  · show inD (ma_up h.1 c i k v 100 2 t); rw [e _ _ _ (by omega)]; exact K.bd t ht
  · show inD (ma_up h.1 c i k v 100 1 t); rw [e _ _ _ (by omega)]; exact K.cd t ht
  · show inR 32 (ma_up h.1 c i k v 100 0 t); rw [e _ _ _ (by omega)]; exact K.sa t ht
theorem KB.upBest {G : GB} {h0 h : AH} {v : Int32} {x : Nat} (K : KB G h0 h) (hv : inD v) : KB G h0 (ma_up h.1 100 2 x v, h.2) :=
  ⟨K.sb,
   K.sc,
   (show ma_up h.1 100 2 x v 4 0 4 = h.1 4 0 4 from ma_up_ne (by omega)).trans K.doors,
   K.doors_le,
   (show ma_up h.1 100 2 x v 4 0 5 = h.1 4 0 5 from ma_up_ne (by omega)).trans K.trucks,
   K.trucks_le,
   (show ma_up h.1 100 2 x v 4 0 6 = h.1 4 0 6 from ma_up_ne (by omega)).trans K.now,
   by
    show ma_up h.1 100 2 x v 4 0 7 = 0 ∨ ma_up h.1 100 2 x v 4 0 7 = 1
    rw [ma_up_ne (by omega)]
    exact K.ex,
   K.wait,
   fun t ht => by
    show inD (ma_up h.1 100 2 x v 100 2 t)
    exact ma_up_cases (inD) (fun _ => hv) (fun _ => K.bd t ht),
   fun t ht => by
    show inD (ma_up h.1 100 2 x v 100 1 t)
    rw [ma_up_ne (by omega)]
    exact K.cd t ht,
   fun t ht => by
    show inR 32 (ma_up h.1 100 2 x v 100 0 t)
    rw [ma_up_ne (by omega)]
    exact K.sa t ht,
   K.fr.up (by omega)⟩
theorem KB.upChosen {G : GB} {h0 h : AH} {v : Int32} {x : Nat} (K : KB G h0 h) (hv : inD v) : KB G h0 (ma_up h.1 100 1 x v, h.2) :=
  ⟨K.sb,
   K.sc,
   (show ma_up h.1 100 1 x v 4 0 4 = h.1 4 0 4 from ma_up_ne (by omega)).trans K.doors,
   K.doors_le,
   (show ma_up h.1 100 1 x v 4 0 5 = h.1 4 0 5 from ma_up_ne (by omega)).trans K.trucks,
   K.trucks_le,
   (show ma_up h.1 100 1 x v 4 0 6 = h.1 4 0 6 from ma_up_ne (by omega)).trans K.now,
   by
    show ma_up h.1 100 1 x v 4 0 7 = 0 ∨ ma_up h.1 100 1 x v 4 0 7 = 1
    rw [ma_up_ne (by omega)]
    exact K.ex,
   K.wait,
   fun t ht => by
    show inD (ma_up h.1 100 1 x v 100 2 t)
    rw [ma_up_ne (by omega)]
    exact K.bd t ht,
   fun t ht => by
    show inD (ma_up h.1 100 1 x v 100 1 t)
    exact ma_up_cases (inD) (fun _ => hv) (fun _ => K.cd t ht),
   fun t ht => by
    show inR 32 (ma_up h.1 100 1 x v 100 0 t)
    rw [ma_up_ne (by omega)]
    exact K.sa t ht,
   K.fr.up (by omega)⟩
theorem KB.upSetAt {G : GB} {h0 h : AH} {v : Int32} {x : Nat} (K : KB G h0 h) (hv : inR 32 v) : KB G h0 (ma_up h.1 100 0 x v, h.2) :=
  ⟨K.sb,
   K.sc,
   (show ma_up h.1 100 0 x v 4 0 4 = h.1 4 0 4 from ma_up_ne (by omega)).trans K.doors,
   K.doors_le,
   (show ma_up h.1 100 0 x v 4 0 5 = h.1 4 0 5 from ma_up_ne (by omega)).trans K.trucks,
   K.trucks_le,
   (show ma_up h.1 100 0 x v 4 0 6 = h.1 4 0 6 from ma_up_ne (by omega)).trans K.now,
   by
    show ma_up h.1 100 0 x v 4 0 7 = 0 ∨ ma_up h.1 100 0 x v 4 0 7 = 1
    rw [ma_up_ne (by omega)]
    exact K.ex,
   K.wait,
   fun t ht => by
    show inD (ma_up h.1 100 0 x v 100 2 t)
    rw [ma_up_ne (by omega)]
    exact K.bd t ht,
   fun t ht => by
    show inD (ma_up h.1 100 0 x v 100 1 t)
    rw [ma_up_ne (by omega)]
    exact K.cd t ht,
   fun t ht => by
    show inR 32 (ma_up h.1 100 0 x v 100 0 t)
    exact ma_up_cases (inR 32) (fun _ => hv) (fun _ => K.sa t ht),
   K.fr.up (by omega)⟩
theorem KB.upEx {G : GB} {h0 h : AH} {v : Int32}  (K : KB G h0 h) (hv : v = 0 ∨ v = 1) : KB G h0 (ma_up h.1 4 0 7 v, h.2) :=
  ⟨K.sb,
   K.sc,
   (show ma_up h.1 4 0 7 v 4 0 4 = h.1 4 0 4 from ma_up_ne (by omega)).trans K.doors,
   K.doors_le,
   (show ma_up h.1 4 0 7 v 4 0 5 = h.1 4 0 5 from ma_up_ne (by omega)).trans K.trucks,
   K.trucks_le,
   (show ma_up h.1 4 0 7 v 4 0 6 = h.1 4 0 6 from ma_up_ne (by omega)).trans K.now,
   by
    show ma_up h.1 4 0 7 v 4 0 7 = 0 ∨ ma_up h.1 4 0 7 v 4 0 7 = 1
    rw [ma_up_self]
    exact hv,
   K.wait,
   fun t ht => by
    show inD (ma_up h.1 4 0 7 v 100 2 t)
    rw [ma_up_ne (by omega)]
    exact K.bd t ht,
   fun t ht => by
    show inD (ma_up h.1 4 0 7 v 100 1 t)
    rw [ma_up_ne (by omega)]
    exact K.cd t ht,
   fun t ht => by
    show inR 32 (ma_up h.1 4 0 7 v 100 0 t)
    rw [ma_up_ne (by omega)]
    exact K.sa t ht,
   K.fr.up (by omega)⟩
theorem KB.upNow {G : GB} {h0 h : AH} {v : Int32}  (K : KB G h0 h)  : KB (G.1, v) h0 (ma_up h.1 4 0 6 v, h.2) :=
  ⟨K.sb,
   K.sc,
   (show ma_up h.1 4 0 6 v 4 0 4 = h.1 4 0 4 from ma_up_ne (by omega)).trans K.doors,
   K.doors_le,
   (show ma_up h.1 4 0 6 v 4 0 5 = h.1 4 0 5 from ma_up_ne (by omega)).trans K.trucks,
   K.trucks_le,
   ma_up_self h.1 4 0 6 v,
   by
    show ma_up h.1 4 0 6 v 4 0 7 = 0 ∨ ma_up h.1 4 0 6 v 4 0 7 = 1
    rw [ma_up_ne (by omega)]
    exact K.ex,
   K.wait,
   fun t ht => by
    show inD (ma_up h.1 4 0 6 v 100 2 t)
    rw [ma_up_ne (by omega)]
    exact K.bd t ht,
   fun t ht => by
    show inD (ma_up h.1 4 0 6 v 100 1 t)
    rw [ma_up_ne (by omega)]
    exact K.cd t ht,
   fun t ht => by
    show inR 32 (ma_up h.1 4 0 6 v 100 0 t)
    rw [ma_up_ne (by omega)]
    exact K.sa t ht,
   K.fr.up (by omega)⟩
theorem KB.upDoors {G : GB} {h0 h : AH} {v : Int32}  (K : KB G h0 h) (hv : v = nI (G.1.1 + 1)) (hl : G.1.1 < 4) : KB ((G.1.1 + 1, G.1.2), G.2) h0 (ma_up h.1 4 0 4 v, h.2) :=
  ⟨K.sb,
   K.sc,
   (ma_up_self h.1 4 0 4 v).trans hv,
   hl,
   (show ma_up h.1 4 0 4 v 4 0 5 = h.1 4 0 5 from ma_up_ne (by omega)).trans K.trucks,
   K.trucks_le,
   (show ma_up h.1 4 0 4 v 4 0 6 = h.1 4 0 6 from ma_up_ne (by omega)).trans K.now,
   by
    show ma_up h.1 4 0 4 v 4 0 7 = 0 ∨ ma_up h.1 4 0 4 v 4 0 7 = 1
    rw [ma_up_ne (by omega)]
    exact K.ex,
   K.wait,
   fun t ht => by
    show inD (ma_up h.1 4 0 4 v 100 2 t)
    rw [ma_up_ne (by omega)]
    exact K.bd t ht,
   fun t ht => by
    show inD (ma_up h.1 4 0 4 v 100 1 t)
    rw [ma_up_ne (by omega)]
    exact K.cd t ht,
   fun t ht => by
    show inR 32 (ma_up h.1 4 0 4 v 100 0 t)
    rw [ma_up_ne (by omega)]
    exact K.sa t ht,
   K.fr.up (by omega)⟩
theorem KB.upTrucks {G : GB} {h0 h : AH} {v : Int32}  (K : KB G h0 h) (hv : v = nI (G.1.2 + 1)) (hl : G.1.2 < 12) : KB ((G.1.1, G.1.2 + 1), G.2) h0 (ma_up h.1 4 0 5 v, h.2) :=
  ⟨K.sb,
   K.sc,
   (show ma_up h.1 4 0 5 v 4 0 4 = h.1 4 0 4 from ma_up_ne (by omega)).trans K.doors,
   K.doors_le,
   (ma_up_self h.1 4 0 5 v).trans hv,
   hl,
   (show ma_up h.1 4 0 5 v 4 0 6 = h.1 4 0 6 from ma_up_ne (by omega)).trans K.now,
   by
    show ma_up h.1 4 0 5 v 4 0 7 = 0 ∨ ma_up h.1 4 0 5 v 4 0 7 = 1
    rw [ma_up_ne (by omega)]
    exact K.ex,
   K.wait,
   fun t ht => by
    show inD (ma_up h.1 4 0 5 v 100 2 t)
    rw [ma_up_ne (by omega)]
    exact K.bd t ht,
   fun t ht => by
    show inD (ma_up h.1 4 0 5 v 100 1 t)
    rw [ma_up_ne (by omega)]
    exact K.cd t ht,
   fun t ht => by
    show inR 32 (ma_up h.1 4 0 5 v 100 0 t)
    rw [ma_up_ne (by omega)]
    exact K.sa t ht,
   K.fr.up (by omega)⟩
/-- a waiting one is laid to a place of their row -/
theorem KB.upWait {G : GB} {h0 h : AH} {x j : Nat} (K : KB G h0 h) (hj : j < 12) : KB G h0 (h.1, ma_up h.2.1 113 1 x (some (3, j)), h.2.2) := by
  have e : ∀ c i k, ¬ (c = 113 ∧ i = 1) → ma_up h.2.1 113 1 x (some (3, j)) c i k = h.2.1 c i k := fun c i k h9 => ma_up_ne (by omega)
  refine ⟨⟨(e _ _ _ (by omega)).trans K.sb.1, (e _ _ _ (by omega)).trans K.sb.2.1, (e _ _ _ (by omega)).trans K.sb.2.2.1, (e _ _ _ (by omega)).trans K.sb.2.2.2.1, K.sb.2.2.2.2.1, K.sb.2.2.2.2.2.1, K.sb.2.2.2.2.2.2.1, fun i hi => (e _ _ _ (by omega)).trans (K.sb.door hi), fun i hi => (e _ _ _ (by omega)).trans (K.sb.truck hi)⟩,
    ⟨(e _ _ _ (by omega)).trans K.sc.orders, K.sc.lorders, (e _ _ _ (by omega)).trans K.sc.setAt, K.sc.lsetAt, (e _ _ _ (by omega)).trans K.sc.chosen, K.sc.lchosen, (e _ _ _ (by omega)).trans K.sc.best, K.sc.lbest, fun i hi => (e _ _ _ (by omega)).trans (K.sc.order i hi), fun i hi => (e _ _ _ (by omega)).trans (K.sc.costs i hi), K.sc.lcosts, fun i hi => (e _ _ _ (by omega)).trans (K.sc.bests i hi), K.sc.lbests, fun i hi => (e _ _ _ (by omega)).trans (K.sc.starts i hi), K.sc.lstarts⟩,
    K.doors, K.doors_le, K.trucks, K.trucks_le, K.now, K.ex, fun i hi => ?_, K.bd, K.cd, K.sa, K.fr.1, fun c i k hn => (e c i k hn).trans (K.fr.2.1 c i k hn), K.fr.2.2⟩
  show ∃ j', j' < 12 ∧ ma_up h.2.1 113 1 x (some (3, j)) 113 1 i = some (3, j')
  exact ma_up_cases (fun z => ∃ j', j' < 12 ∧ z = some (3, j')) (fun _ => ⟨j, hj, rfl⟩) (fun _ => K.wait i hi)
/-- the other one's writes leave it -/
theorem KB.keep {G : GB} {h0 h h1 : AH} (K : KB G h0 h) (F : FrR h h1) : KB G h1 h1 := by
  have e2 := F.2
  have e : ∀ c i k, c ≤ 4 ∨ (c = 100 ∧ i < 15) → h1.1 c i k = h.1 c i k := fun c i k h9 => F.1 c i k (by omega)
  obtain ⟨m1, r1⟩ := h1
  obtain ⟨m, r⟩ := h
  have e3 : r1 = r := e2
  subst e3
  exact ⟨K.sb, K.sc, (e _ _ _ (by omega)).trans K.doors, K.doors_le, (e _ _ _ (by omega)).trans K.trucks, K.trucks_le, (e _ _ _ (by omega)).trans K.now, (K.ex).imp (fun z => (e _ _ _ (by omega)).trans z) (fun z => (e _ _ _ (by omega)).trans z), K.wait, fun k hk => by
    show inD (m1 100 2 k)
    rw [show m1 100 2 k = m 100 2 k from e 100 2 k (by omega)]
    exact K.bd k hk, fun k hk => by
    show inD (m1 100 1 k)
    rw [show m1 100 1 k = m 100 1 k from e 100 1 k (by omega)]
    exact K.cd k hk, fun k hk => by
    show inR 32 (m1 100 0 k)
    rw [show m1 100 0 k = m 100 0 k from e 100 0 k (by omega)]
    exact K.sa k hk, FrB.rf⟩
theorem KR.keep {G : GR} {h0 h h1 : AH} (K : KR G h0 h) (F : FrB h h1) : KR G h1 h1 := by
  have e : ∀ c i k, c = 5 ∨ (c = 100 ∧ 15 ≤ i) ∨ c = 102 → h1.1 c i k = h.1 c i k := fun c i k h9 => F.1 c i k (by omega)
  have e2 : ∀ k, h1.2.1 5 0 k = h.2.1 5 0 k := fun k => F.2.1 5 0 k (by omega)
  have e3 : h1.2.2 = h.2.2 := F.2.2
  have e4 : ∀ c i, h1.2.2.2.1 c i = h.2.2.2.1 c i := fun c i => by rw [e3]
  refine ⟨?_, (e _ _ _ (by omega)).trans K.now, (e _ _ _ (by omega)).trans K.doors, K.doors_le, (e _ _ _ (by omega)).trans K.trucks, K.trucks_le, (e _ _ _ (by omega)).trans K.waits, K.waits_le, fun t => (e _ _ _ (by omega)).trans (K.state t), K.st4, K.fresh, fun t ht => ?_, fun t ht hs => ?_, ?_, fun t => (e _ _ _ (by omega)).trans (K.waiting t), K.wt12, fun t ht => ?_, FrR.rf⟩
  · exact ⟨(e2 _).trans K.r_kinds, (e4 _ _).trans K.l_kinds, (e2 _).trans K.r_opens, (e4 _ _).trans K.l_opens, (e2 _).trans K.r_closes, (e4 _ _).trans K.l_closes, (e2 _).trans K.r_isOut, (e4 _ _).trans K.l_isOut, (e2 _).trans K.r_left, (e4 _ _).trans K.l_left, (e2 _).trans K.r_state, (e4 _ _).trans K.l_state, (e2 _).trans K.r_kind, (e4 _ _).trans K.l_kind, (e2 _).trans K.r_arrival, (e4 _ _).trans K.l_arrival, (e2 _).trans K.r_need, (e4 _ _).trans K.l_need, (e2 _).trans K.r_ranks, (e4 _ _).trans K.l_ranks, (e2 _).trans K.r_doorOf, (e4 _ _).trans K.l_doorOf, (e2 _).trans K.r_start, (e4 _ _).trans K.l_start, (e2 _).trans K.r_gone, (e4 _ _).trans K.l_gone, (e2 _).trans K.r_seals, (e4 _ _).trans K.l_seals, (e2 _).trans K.r_twice, (e4 _ _).trans K.l_twice, (e2 _).trans K.r_same, (e4 _ _).trans K.l_same, (e2 _).trans K.r_waiting, (e4 _ _).trans K.l_waiting, (e2 _).trans K.r_newDoor, (e4 _ _).trans K.l_newDoor, (e2 _).trans K.r_newStart, (e4 _ _).trans K.l_newStart, (e2 _).trans K.r_setCost, (e4 _ _).trans K.l_setCost, (e2 _).trans K.r_setStart, (e4 _ _).trans K.l_setStart, (e2 _).trans K.r_trial, (e4 _ _).trans K.l_trial, (e2 _).trans K.r_counts, (e4 _ _).trans K.l_counts⟩
  · rw [e _ _ _ (by omega)]; exact K.doorOf t ht
  · rw [e _ _ _ (by omega)]; exact K.atd t ht hs
  · rw [e _ _ _ (by omega)]; exact K.ex
  · rw [e _ _ _ (by omega)]; exact K.newDoor t ht
