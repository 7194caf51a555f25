def mo_h (h : AH) : AH := nA (nA (nA (nA (nA (nA (nA (pI (pI (pI (nZ (nZ (nA (nA (nA (nA (nA (nA (nA (nA (nA (pI (nA (nZ (nA (nA (nA (pI (pI (pI h 5 0 0 (nI 0)) 5 0 1 (nI 0)) 5 0 2 (nI 0)) 4 5 0 3) 4 5 0 4) 4 5 0 5) 4 5 0 6) 4 5 0 7) 5 0 8 (nI 0)) 12 5 0 9) 12 5 0 10) 12 5 0 11) 12 5 0 12) 12 5 0 13) 12 5 0 14) 12 5 0 15) 12 5 0 16) 12 5 0 17) 12 5 0 18) 12 5 0 19) 5 0 20 (nI 0)) 5 0 21 (nI 0)) 5 0 22 (nI 0)) 12 5 0 23) 12 5 0 24) 12 5 0 25) 128 5 0 26) 640 5 0 27) 5 5 0 28) 4 5 0 29
theorem KB.agree {G : GB} {h h' : AH} (K : KB G h h) (e1 : ∀ c i k, c ≤ 4 ∨ (c = 100 ∧ i < 15) → h'.1 c i k = h.1 c i k) (r : ∀ c i k, c ≠ 5 → h'.2.1 c i k = h.2.1 c i k) (l : ∀ c i, c = 110 ∨ c = 112 ∨ c = 113 ∨ (c = 100 ∧ i < 15) → h'.2.2.2.1 c i = h.2.2.2.1 c i) : KB G h' h' := by
  obtain ⟨b1, b2, b3, b4, b5, b6, b7, b8, b9⟩ := K.sb
  have s := K.sc
  refine ⟨⟨(r _ _ _ (by decide)).trans b1, (r _ _ _ (by decide)).trans b2, (r _ _ _ (by decide)).trans b3, (r _ _ _ (by decide)).trans b4, (l _ _ (by omega)).trans b5, (l _ _ (by omega)).trans b6, (l _ _ (by omega)).trans b7, fun i hi => (r _ _ _ (by decide)).trans (b8 i hi), fun i hi => (r _ _ _ (by decide)).trans (b9 i hi)⟩,
    ⟨(r _ _ _ (by omega)).trans s.orders, (l _ _ (by omega)).trans s.lorders, (r _ _ _ (by omega)).trans s.setAt, (l _ _ (by omega)).trans s.lsetAt, (r _ _ _ (by omega)).trans s.chosen, (l _ _ (by omega)).trans s.lchosen, (r _ _ _ (by omega)).trans s.best, (l _ _ (by omega)).trans s.lbest,
   fun i hi => (r _ _ _ (by omega)).trans (s.order i hi), fun i hi => (r _ _ _ (by omega)).trans (s.costs i hi), fun i hi => (l _ _ (by omega)).trans (s.lcosts i hi), fun i hi => (r _ _ _ (by omega)).trans (s.bests i hi), fun i hi => (l _ _ (by omega)).trans (s.lbests i hi), fun i hi => (r _ _ _ (by omega)).trans (s.starts i hi), fun i hi => (l _ _ (by omega)).trans (s.lstarts i hi)⟩,
    (e1 _ _ _ (by omega)).trans K.doors, K.doors_le, (e1 _ _ _ (by omega)).trans K.trucks, K.trucks_le, (e1 _ _ _ (by omega)).trans K.now, ?_, fun i hi => ?_, fun k hk => ?_, fun k hk => ?_, fun k hk => ?_, FrB.rf⟩
  · rw [e1 _ _ _ (by omega)]; exact K.ex
  · rw [r _ _ _ (by decide)]; exact K.wait i hi
  · rw [e1 _ _ _ (by omega)]; exact K.bd k hk
  · rw [e1 _ _ _ (by omega)]; exact K.cd k hk
  · rw [e1 _ _ _ (by omega)]; exact K.sa k hk
set_option maxHeartbeats 8000000 in
theorem mo_kb {G : GB} {h : AH} (K : KB G h h) (n100 : ma_n h 100 = 15) (n102 : ma_n h 102 = 0) : KB G (mo_h h) (mo_h h) := by
  refine K.agree (fun c i k hc => ?_) (fun c i k hc => ?_) (fun c i hc => ?_)
  · have h5 : c ≠ 5 := by omega
    simp [mo_h, nA_n, nZ_n, nQ_n, pI_n, pR_n, al_n, nA_r, nZ_r, nQ_r, pI_r, pR_r, al_r, nA_l, nZ_l, nQ_l, pI_l, pR_l, al_l, nA_i, nZ_i, nQ_i, pI_i, pR_i, al_i, h5]
  · simp [mo_h, nA_n, nZ_n, nQ_n, pI_n, pR_n, al_n, nA_r, nZ_r, nQ_r, pI_r, pR_r, al_r, nA_l, nZ_l, nQ_l, pI_l, pR_l, al_l, nA_i, nZ_i, nQ_i, pI_i, pR_i, al_i, hc]
  · by_cases h1 : c = 100
    · subst h1
      have ne : ∀ n, 15 ≤ n → i ≠ n := fun n hn => by omega
      simp [mo_h, nA_n, nZ_n, nQ_n, pI_n, pR_n, al_n, nA_r, nZ_r, nQ_r, pI_r, pR_r, al_r, nA_l, nZ_l, nQ_l, pI_l, pR_l, al_l, nA_i, nZ_i, nQ_i, pI_i, pR_i, al_i, n100, ne 15 (by decide), ne 16 (by decide), ne 17 (by decide), ne 18 (by decide), ne 19 (by decide), ne 20 (by decide), ne 21 (by decide), ne 22 (by decide), ne 23 (by decide), ne 24 (by decide), ne 25 (by decide), ne 26 (by decide), ne 27 (by decide), ne 28 (by decide), ne 29 (by decide), ne 30 (by decide), ne 31 (by decide), ne 32 (by decide), ne 33 (by decide), ne 34 (by decide)]
    · have h2 : c ≠ 102 := by omega
      simp [mo_h, nA_n, nZ_n, nQ_n, pI_n, pR_n, al_n, nA_r, nZ_r, nQ_r, pI_r, pR_r, al_r, nA_l, nZ_l, nQ_l, pI_l, pR_l, al_l, nA_i, nZ_i, nQ_i, pI_i, pR_i, al_i, h1, h2]
set_option maxHeartbeats 8000000 in
theorem mo_r_kinds {h : AH} (n100 : ma_n h 100 = 15) (n102 : ma_n h 102 = 0) : (mo_h h).2.1 5 0 3 = some (100, 15) ∧ (mo_h h).2.2.2.1 100 15 = 4 := by
  constructor <;> simp [mo_h, nA_n, nZ_n, nQ_n, pI_n, pR_n, al_n, nA_r, nZ_r, nQ_r, pI_r, pR_r, al_r, nA_l, nZ_l, nQ_l, pI_l, pR_l, al_l, nA_i, nZ_i, nQ_i, pI_i, pR_i, al_i, n100, n102]
set_option maxHeartbeats 8000000 in
theorem mo_r_opens {h : AH} (n100 : ma_n h 100 = 15) (n102 : ma_n h 102 = 0) : (mo_h h).2.1 5 0 4 = some (100, 16) ∧ (mo_h h).2.2.2.1 100 16 = 4 := by
  constructor <;> simp [mo_h, nA_n, nZ_n, nQ_n, pI_n, pR_n, al_n, nA_r, nZ_r, nQ_r, pI_r, pR_r, al_r, nA_l, nZ_l, nQ_l, pI_l, pR_l, al_l, nA_i, nZ_i, nQ_i, pI_i, pR_i, al_i, n100, n102]
set_option maxHeartbeats 8000000 in
theorem mo_r_closes {h : AH} (n100 : ma_n h 100 = 15) (n102 : ma_n h 102 = 0) : (mo_h h).2.1 5 0 5 = some (100, 17) ∧ (mo_h h).2.2.2.1 100 17 = 4 := by
  constructor <;> simp [mo_h, nA_n, nZ_n, nQ_n, pI_n, pR_n, al_n, nA_r, nZ_r, nQ_r, pI_r, pR_r, al_r, nA_l, nZ_l, nQ_l, pI_l, pR_l, al_l, nA_i, nZ_i, nQ_i, pI_i, pR_i, al_i, n100, n102]
set_option maxHeartbeats 8000000 in
theorem mo_r_isOut {h : AH} (n100 : ma_n h 100 = 15) (n102 : ma_n h 102 = 0) : (mo_h h).2.1 5 0 6 = some (102, 0) ∧ (mo_h h).2.2.2.1 102 0 = 4 := by
  constructor <;> simp [mo_h, nA_n, nZ_n, nQ_n, pI_n, pR_n, al_n, nA_r, nZ_r, nQ_r, pI_r, pR_r, al_r, nA_l, nZ_l, nQ_l, pI_l, pR_l, al_l, nA_i, nZ_i, nQ_i, pI_i, pR_i, al_i, n100, n102]
set_option maxHeartbeats 8000000 in
theorem mo_r_left {h : AH} (n100 : ma_n h 100 = 15) (n102 : ma_n h 102 = 0) : (mo_h h).2.1 5 0 7 = some (100, 18) ∧ (mo_h h).2.2.2.1 100 18 = 4 := by
  constructor <;> simp [mo_h, nA_n, nZ_n, nQ_n, pI_n, pR_n, al_n, nA_r, nZ_r, nQ_r, pI_r, pR_r, al_r, nA_l, nZ_l, nQ_l, pI_l, pR_l, al_l, nA_i, nZ_i, nQ_i, pI_i, pR_i, al_i, n100, n102]
set_option maxHeartbeats 8000000 in
theorem mo_r_state {h : AH} (n100 : ma_n h 100 = 15) (n102 : ma_n h 102 = 0) : (mo_h h).2.1 5 0 9 = some (100, 19) ∧ (mo_h h).2.2.2.1 100 19 = 12 := by
  constructor <;> simp [mo_h, nA_n, nZ_n, nQ_n, pI_n, pR_n, al_n, nA_r, nZ_r, nQ_r, pI_r, pR_r, al_r, nA_l, nZ_l, nQ_l, pI_l, pR_l, al_l, nA_i, nZ_i, nQ_i, pI_i, pR_i, al_i, n100, n102]
set_option maxHeartbeats 8000000 in
theorem mo_r_kind {h : AH} (n100 : ma_n h 100 = 15) (n102 : ma_n h 102 = 0) : (mo_h h).2.1 5 0 10 = some (100, 20) ∧ (mo_h h).2.2.2.1 100 20 = 12 := by
  constructor <;> simp [mo_h, nA_n, nZ_n, nQ_n, pI_n, pR_n, al_n, nA_r, nZ_r, nQ_r, pI_r, pR_r, al_r, nA_l, nZ_l, nQ_l, pI_l, pR_l, al_l, nA_i, nZ_i, nQ_i, pI_i, pR_i, al_i, n100, n102]
set_option maxHeartbeats 8000000 in
theorem mo_r_arrival {h : AH} (n100 : ma_n h 100 = 15) (n102 : ma_n h 102 = 0) : (mo_h h).2.1 5 0 11 = some (100, 21) ∧ (mo_h h).2.2.2.1 100 21 = 12 := by
  constructor <;> simp [mo_h, nA_n, nZ_n, nQ_n, pI_n, pR_n, al_n, nA_r, nZ_r, nQ_r, pI_r, pR_r, al_r, nA_l, nZ_l, nQ_l, pI_l, pR_l, al_l, nA_i, nZ_i, nQ_i, pI_i, pR_i, al_i, n100, n102]
set_option maxHeartbeats 8000000 in
theorem mo_r_need {h : AH} (n100 : ma_n h 100 = 15) (n102 : ma_n h 102 = 0) : (mo_h h).2.1 5 0 12 = some (100, 22) ∧ (mo_h h).2.2.2.1 100 22 = 12 := by
  constructor <;> simp [mo_h, nA_n, nZ_n, nQ_n, pI_n, pR_n, al_n, nA_r, nZ_r, nQ_r, pI_r, pR_r, al_r, nA_l, nZ_l, nQ_l, pI_l, pR_l, al_l, nA_i, nZ_i, nQ_i, pI_i, pR_i, al_i, n100, n102]
set_option maxHeartbeats 8000000 in
theorem mo_r_ranks {h : AH} (n100 : ma_n h 100 = 15) (n102 : ma_n h 102 = 0) : (mo_h h).2.1 5 0 13 = some (100, 23) ∧ (mo_h h).2.2.2.1 100 23 = 12 := by
  constructor <;> simp [mo_h, nA_n, nZ_n, nQ_n, pI_n, pR_n, al_n, nA_r, nZ_r, nQ_r, pI_r, pR_r, al_r, nA_l, nZ_l, nQ_l, pI_l, pR_l, al_l, nA_i, nZ_i, nQ_i, pI_i, pR_i, al_i, n100, n102]
set_option maxHeartbeats 8000000 in
theorem mo_r_doorOf {h : AH} (n100 : ma_n h 100 = 15) (n102 : ma_n h 102 = 0) : (mo_h h).2.1 5 0 14 = some (100, 24) ∧ (mo_h h).2.2.2.1 100 24 = 12 := by
  constructor <;> simp [mo_h, nA_n, nZ_n, nQ_n, pI_n, pR_n, al_n, nA_r, nZ_r, nQ_r, pI_r, pR_r, al_r, nA_l, nZ_l, nQ_l, pI_l, pR_l, al_l, nA_i, nZ_i, nQ_i, pI_i, pR_i, al_i, n100, n102]
set_option maxHeartbeats 8000000 in
theorem mo_r_start {h : AH} (n100 : ma_n h 100 = 15) (n102 : ma_n h 102 = 0) : (mo_h h).2.1 5 0 15 = some (100, 25) ∧ (mo_h h).2.2.2.1 100 25 = 12 := by
  constructor <;> simp [mo_h, nA_n, nZ_n, nQ_n, pI_n, pR_n, al_n, nA_r, nZ_r, nQ_r, pI_r, pR_r, al_r, nA_l, nZ_l, nQ_l, pI_l, pR_l, al_l, nA_i, nZ_i, nQ_i, pI_i, pR_i, al_i, n100, n102]
set_option maxHeartbeats 8000000 in
theorem mo_r_gone {h : AH} (n100 : ma_n h 100 = 15) (n102 : ma_n h 102 = 0) : (mo_h h).2.1 5 0 16 = some (100, 26) ∧ (mo_h h).2.2.2.1 100 26 = 12 := by
  constructor <;> simp [mo_h, nA_n, nZ_n, nQ_n, pI_n, pR_n, al_n, nA_r, nZ_r, nQ_r, pI_r, pR_r, al_r, nA_l, nZ_l, nQ_l, pI_l, pR_l, al_l, nA_i, nZ_i, nQ_i, pI_i, pR_i, al_i, n100, n102]
set_option maxHeartbeats 8000000 in
theorem mo_r_seals {h : AH} (n100 : ma_n h 100 = 15) (n102 : ma_n h 102 = 0) : (mo_h h).2.1 5 0 17 = some (100, 27) ∧ (mo_h h).2.2.2.1 100 27 = 12 := by
  constructor <;> simp [mo_h, nA_n, nZ_n, nQ_n, pI_n, pR_n, al_n, nA_r, nZ_r, nQ_r, pI_r, pR_r, al_r, nA_l, nZ_l, nQ_l, pI_l, pR_l, al_l, nA_i, nZ_i, nQ_i, pI_i, pR_i, al_i, n100, n102]
set_option maxHeartbeats 8000000 in
theorem mo_r_twice {h : AH} (n100 : ma_n h 100 = 15) (n102 : ma_n h 102 = 0) : (mo_h h).2.1 5 0 18 = some (102, 1) ∧ (mo_h h).2.2.2.1 102 1 = 12 := by
  constructor <;> simp [mo_h, nA_n, nZ_n, nQ_n, pI_n, pR_n, al_n, nA_r, nZ_r, nQ_r, pI_r, pR_r, al_r, nA_l, nZ_l, nQ_l, pI_l, pR_l, al_l, nA_i, nZ_i, nQ_i, pI_i, pR_i, al_i, n100, n102]
set_option maxHeartbeats 8000000 in
theorem mo_r_same {h : AH} (n100 : ma_n h 100 = 15) (n102 : ma_n h 102 = 0) : (mo_h h).2.1 5 0 19 = some (102, 2) ∧ (mo_h h).2.2.2.1 102 2 = 12 := by
  constructor <;> simp [mo_h, nA_n, nZ_n, nQ_n, pI_n, pR_n, al_n, nA_r, nZ_r, nQ_r, pI_r, pR_r, al_r, nA_l, nZ_l, nQ_l, pI_l, pR_l, al_l, nA_i, nZ_i, nQ_i, pI_i, pR_i, al_i, n100, n102]
set_option maxHeartbeats 8000000 in
theorem mo_r_waiting {h : AH} (n100 : ma_n h 100 = 15) (n102 : ma_n h 102 = 0) : (mo_h h).2.1 5 0 23 = some (100, 28) ∧ (mo_h h).2.2.2.1 100 28 = 12 := by
  constructor <;> simp [mo_h, nA_n, nZ_n, nQ_n, pI_n, pR_n, al_n, nA_r, nZ_r, nQ_r, pI_r, pR_r, al_r, nA_l, nZ_l, nQ_l, pI_l, pR_l, al_l, nA_i, nZ_i, nQ_i, pI_i, pR_i, al_i, n100, n102]
set_option maxHeartbeats 8000000 in
theorem mo_r_newDoor {h : AH} (n100 : ma_n h 100 = 15) (n102 : ma_n h 102 = 0) : (mo_h h).2.1 5 0 24 = some (100, 29) ∧ (mo_h h).2.2.2.1 100 29 = 12 := by
  constructor <;> simp [mo_h, nA_n, nZ_n, nQ_n, pI_n, pR_n, al_n, nA_r, nZ_r, nQ_r, pI_r, pR_r, al_r, nA_l, nZ_l, nQ_l, pI_l, pR_l, al_l, nA_i, nZ_i, nQ_i, pI_i, pR_i, al_i, n100, n102]
set_option maxHeartbeats 8000000 in
theorem mo_r_newStart {h : AH} (n100 : ma_n h 100 = 15) (n102 : ma_n h 102 = 0) : (mo_h h).2.1 5 0 25 = some (100, 30) ∧ (mo_h h).2.2.2.1 100 30 = 12 := by
  constructor <;> simp [mo_h, nA_n, nZ_n, nQ_n, pI_n, pR_n, al_n, nA_r, nZ_r, nQ_r, pI_r, pR_r, al_r, nA_l, nZ_l, nQ_l, pI_l, pR_l, al_l, nA_i, nZ_i, nQ_i, pI_i, pR_i, al_i, n100, n102]
set_option maxHeartbeats 8000000 in
theorem mo_r_setCost {h : AH} (n100 : ma_n h 100 = 15) (n102 : ma_n h 102 = 0) : (mo_h h).2.1 5 0 26 = some (100, 31) ∧ (mo_h h).2.2.2.1 100 31 = 128 := by
  constructor <;> simp [mo_h, nA_n, nZ_n, nQ_n, pI_n, pR_n, al_n, nA_r, nZ_r, nQ_r, pI_r, pR_r, al_r, nA_l, nZ_l, nQ_l, pI_l, pR_l, al_l, nA_i, nZ_i, nQ_i, pI_i, pR_i, al_i, n100, n102]
set_option maxHeartbeats 8000000 in
theorem mo_r_setStart {h : AH} (n100 : ma_n h 100 = 15) (n102 : ma_n h 102 = 0) : (mo_h h).2.1 5 0 27 = some (100, 32) ∧ (mo_h h).2.2.2.1 100 32 = 640 := by
  constructor <;> simp [mo_h, nA_n, nZ_n, nQ_n, pI_n, pR_n, al_n, nA_r, nZ_r, nQ_r, pI_r, pR_r, al_r, nA_l, nZ_l, nQ_l, pI_l, pR_l, al_l, nA_i, nZ_i, nQ_i, pI_i, pR_i, al_i, n100, n102]
set_option maxHeartbeats 8000000 in
theorem mo_r_trial {h : AH} (n100 : ma_n h 100 = 15) (n102 : ma_n h 102 = 0) : (mo_h h).2.1 5 0 28 = some (100, 33) ∧ (mo_h h).2.2.2.1 100 33 = 5 := by
  constructor <;> simp [mo_h, nA_n, nZ_n, nQ_n, pI_n, pR_n, al_n, nA_r, nZ_r, nQ_r, pI_r, pR_r, al_r, nA_l, nZ_l, nQ_l, pI_l, pR_l, al_l, nA_i, nZ_i, nQ_i, pI_i, pR_i, al_i, n100, n102]
set_option maxHeartbeats 8000000 in
theorem mo_r_counts {h : AH} (n100 : ma_n h 100 = 15) (n102 : ma_n h 102 = 0) : (mo_h h).2.1 5 0 29 = some (100, 34) ∧ (mo_h h).2.2.2.1 100 34 = 4 := by
  constructor <;> simp [mo_h, nA_n, nZ_n, nQ_n, pI_n, pR_n, al_n, nA_r, nZ_r, nQ_r, pI_r, pR_r, al_r, nA_l, nZ_l, nQ_l, pI_l, pR_l, al_l, nA_i, nZ_i, nQ_i, pI_i, pR_i, al_i, n100, n102]
set_option maxHeartbeats 8000000 in
theorem mo_kr {h : AH} (n100 : ma_n h 100 = 15) (n102 : ma_n h 102 = 0) (z : ∀ c i k, 5 ≤ c → h.1 c i k = 0) : KR ((0, 0, 0), 0, (fun _ => 0), (fun _ => 0)) (mo_h h) (mo_h h) := by
  have e : ∀ i k, (mo_h h).1 100 i k = 0 := fun i k => by simp [mo_h, nA_n, nZ_n, nQ_n, pI_n, pR_n, al_n, nA_r, nZ_r, nQ_r, pI_r, pR_r, al_r, nA_l, nZ_l, nQ_l, pI_l, pR_l, al_l, nA_i, nZ_i, nQ_i, pI_i, pR_i, al_i, z 100 i k (by decide)]
  have g : ∀ k, k = 1 ∨ k = 2 ∨ k = 8 ∨ k = 20 ∨ k = 22 → (mo_h h).1 5 0 k = 0 := fun k hk => by
    rcases hk with rfl | rfl | rfl | rfl | rfl <;> simp [mo_h, nA_n, nZ_n, nQ_n, pI_n, pR_n, al_n, nA_r, nZ_r, nQ_r, pI_r, pR_r, al_r, nA_l, nZ_l, nQ_l, pI_l, pR_l, al_l, nA_i, nZ_i, nQ_i, pI_i, pR_i, al_i, nI_0]
  refine ⟨⟨(mo_r_kinds n100 n102).1, (mo_r_kinds n100 n102).2, (mo_r_opens n100 n102).1, (mo_r_opens n100 n102).2, (mo_r_closes n100 n102).1, (mo_r_closes n100 n102).2, (mo_r_isOut n100 n102).1, (mo_r_isOut n100 n102).2, (mo_r_left n100 n102).1, (mo_r_left n100 n102).2, (mo_r_state n100 n102).1, (mo_r_state n100 n102).2, (mo_r_kind n100 n102).1, (mo_r_kind n100 n102).2, (mo_r_arrival n100 n102).1, (mo_r_arrival n100 n102).2, (mo_r_need n100 n102).1, (mo_r_need n100 n102).2, (mo_r_ranks n100 n102).1, (mo_r_ranks n100 n102).2, (mo_r_doorOf n100 n102).1, (mo_r_doorOf n100 n102).2, (mo_r_start n100 n102).1, (mo_r_start n100 n102).2, (mo_r_gone n100 n102).1, (mo_r_gone n100 n102).2, (mo_r_seals n100 n102).1, (mo_r_seals n100 n102).2, (mo_r_twice n100 n102).1, (mo_r_twice n100 n102).2, (mo_r_same n100 n102).1, (mo_r_same n100 n102).2, (mo_r_waiting n100 n102).1, (mo_r_waiting n100 n102).2, (mo_r_newDoor n100 n102).1, (mo_r_newDoor n100 n102).2, (mo_r_newStart n100 n102).1, (mo_r_newStart n100 n102).2, (mo_r_setCost n100 n102).1, (mo_r_setCost n100 n102).2, (mo_r_setStart n100 n102).1, (mo_r_setStart n100 n102).2, (mo_r_trial n100 n102).1, (mo_r_trial n100 n102).2, (mo_r_counts n100 n102).1, (mo_r_counts n100 n102).2⟩, g _ (by omega), g _ (by omega), by decide, g _ (by omega), by decide, g _ (by omega), by decide, fun t => e _ _, fun t _ => ⟨0, by decide, rfl⟩, fun t _ _ => rfl, fun t _ => Or.inr ⟨0, by decide, e _ _⟩, fun t _ _ => ⟨0, by decide, e _ _⟩, Or.inl (g _ (by omega)), fun t => e _ _, fun t _ => ⟨0, by decide, rfl⟩, fun t _ => Or.inr ⟨0, by decide, e _ _⟩, FrR.rf⟩
set_option maxHeartbeats 2000000 in
theorem g_Mo_init {sc : Nat × (Nat → Int32)} {d bc bs : Nat} {h : AH} : Go sc true false (d + 1) (bc + 23) (bs + 965) mMo_init 0 [vO 5 0] [] h (PN (fun h' => h' = mo_h h)) := by
  refine Go.aload_n dMo_init_0 rfl (Nat.ne_of_beq_eq_false rfl) ?_
  refine Go.objInit dMo_init_1 obMo_1 (by omega) (Nat.le_of_ble_eq_true rfl) ?_
  refine Go.aload_n dMo_init_4 rfl (Nat.ne_of_beq_eq_false rfl) ?_
  refine Go.iconst (v := nI 0) dMo_init_5 (by decide) ?_
  refine Go.putI dMo_init_6 fwMo_init_7 (Nat.le_of_ble_eq_true rfl) rfl ⟨rfl, rfl⟩ ?_
  refine Go.hav (Kp := fun z => z = pI h 5 0 0 (nI 0)) rfl (fun g1 eg1 => ?_)
  refine Go.aload_n dMo_init_9 rfl (Nat.ne_of_beq_eq_false rfl) ?_
  refine Go.iconst (v := nI 0) dMo_init_10 (by decide) ?_
  refine Go.putI dMo_init_11 fwMo_init_13 (Nat.le_of_ble_eq_true rfl) rfl ⟨rfl, rfl⟩ ?_
  refine Go.hav (Kp := fun z => z = pI g1 5 0 1 (nI 0)) rfl (fun g2 eg2 => ?_)
  refine Go.aload_n dMo_init_14 rfl (Nat.ne_of_beq_eq_false rfl) ?_
  refine Go.iconst (v := nI 0) dMo_init_15 (by decide) ?_
  refine Go.putI dMo_init_16 fwMo_init_16 (Nat.le_of_ble_eq_true rfl) rfl ⟨rfl, rfl⟩ ?_
  refine Go.hav (Kp := fun z => z = pI g2 5 0 2 (nI 0)) rfl (fun g3 eg3 => ?_)
  refine Go.aload_n dMo_init_19 rfl (Nat.ne_of_beq_eq_false rfl) ?_
  refine Go.iconst (v := nI 4) dMo_init_20 (by decide) ?_
  refine Go.newi (N := 4) dMo_init_21 (ma_in (by decide +kernel) rfl) rfl (by decide) ?_
  refine Go.putR dMo_init_23 fwMo_init_19 (Nat.le_of_ble_eq_true rfl) (by decide) rfl (fun _ => ⟨rfl, rfl⟩) ?_
  refine Go.hav (Kp := fun z => z = nA g3 4 5 0 3) rfl (fun g4 eg4 => ?_)
  refine Go.aload_n dMo_init_26 rfl (Nat.ne_of_beq_eq_false rfl) ?_
  refine Go.iconst (v := nI 4) dMo_init_27 (by decide) ?_
  refine Go.newi (N := 4) dMo_init_28 (ma_in (by decide +kernel) rfl) rfl (by decide) ?_
  refine Go.putR dMo_init_30 fwMo_init_23 (Nat.le_of_ble_eq_true rfl) (by decide) rfl (fun _ => ⟨rfl, rfl⟩) ?_
  refine Go.hav (Kp := fun z => z = nA g4 4 5 0 4) rfl (fun g5 eg5 => ?_)
  refine Go.aload_n dMo_init_33 rfl (Nat.ne_of_beq_eq_false rfl) ?_
  refine Go.iconst (v := nI 4) dMo_init_34 (by decide) ?_
  refine Go.newi (N := 4) dMo_init_35 (ma_in (by decide +kernel) rfl) rfl (by decide) ?_
  refine Go.putR dMo_init_37 fwMo_init_26 (Nat.le_of_ble_eq_true rfl) (by decide) rfl (fun _ => ⟨rfl, rfl⟩) ?_
  refine Go.hav (Kp := fun z => z = nA g5 4 5 0 5) rfl (fun g6 eg6 => ?_)
  refine Go.aload_n dMo_init_40 rfl (Nat.ne_of_beq_eq_false rfl) ?_
  refine Go.iconst (v := nI 4) dMo_init_41 (by decide) ?_
  refine Go.newz (N := 4) dMo_init_42 (ma_in (by decide +kernel) rfl) rfl (by decide) ?_
  refine Go.putR dMo_init_44 fwMo_init_29 (Nat.le_of_ble_eq_true rfl) (by decide) rfl (fun _ => ⟨rfl, rfl⟩) ?_
  refine Go.hav (Kp := fun z => z = nZ g6 4 5 0 6) rfl (fun g7 eg7 => ?_)
  refine Go.aload_n dMo_init_47 rfl (Nat.ne_of_beq_eq_false rfl) ?_
  refine Go.iconst (v := nI 4) dMo_init_48 (by decide) ?_
  refine Go.newi (N := 4) dMo_init_49 (ma_in (by decide +kernel) rfl) rfl (by decide) ?_
  refine Go.putR dMo_init_51 fwMo_init_33 (Nat.le_of_ble_eq_true rfl) (by decide) rfl (fun _ => ⟨rfl, rfl⟩) ?_
  refine Go.hav (Kp := fun z => z = nA g7 4 5 0 7) rfl (fun g8 eg8 => ?_)
  refine Go.aload_n dMo_init_54 rfl (Nat.ne_of_beq_eq_false rfl) ?_
  refine Go.iconst (v := nI 0) dMo_init_55 (by decide) ?_
  refine Go.putI dMo_init_56 fwMo_init_36 (Nat.le_of_ble_eq_true rfl) rfl ⟨rfl, rfl⟩ ?_
  refine Go.hav (Kp := fun z => z = pI g8 5 0 8 (nI 0)) rfl (fun g9 eg9 => ?_)
  refine Go.aload_n dMo_init_59 rfl (Nat.ne_of_beq_eq_false rfl) ?_
  refine Go.bipush (v := nI 12) dMo_init_60 (by decide) ?_
  refine Go.newi (N := 12) dMo_init_62 (ma_in (by decide +kernel) rfl) rfl (by decide) ?_
  refine Go.putR dMo_init_64 fwMo_init_39 (Nat.le_of_ble_eq_true rfl) (by decide) rfl (fun _ => ⟨rfl, rfl⟩) ?_
  refine Go.hav (Kp := fun z => z = nA g9 12 5 0 9) rfl (fun g10 eg10 => ?_)
  refine Go.aload_n dMo_init_67 rfl (Nat.ne_of_beq_eq_false rfl) ?_
  refine Go.bipush (v := nI 12) dMo_init_68 (by decide) ?_
  refine Go.newi (N := 12) dMo_init_70 (ma_in (by decide +kernel) rfl) rfl (by decide) ?_
  refine Go.putR dMo_init_72 fwMo_init_42 (Nat.le_of_ble_eq_true rfl) (by decide) rfl (fun _ => ⟨rfl, rfl⟩) ?_
  refine Go.hav (Kp := fun z => z = nA g10 12 5 0 10) rfl (fun g11 eg11 => ?_)
  refine Go.aload_n dMo_init_75 rfl (Nat.ne_of_beq_eq_false rfl) ?_
  refine Go.bipush (v := nI 12) dMo_init_76 (by decide) ?_
  refine Go.newi (N := 12) dMo_init_78 (ma_in (by decide +kernel) rfl) rfl (by decide) ?_
  refine Go.putR dMo_init_80 fwMo_init_45 (Nat.le_of_ble_eq_true rfl) (by decide) rfl (fun _ => ⟨rfl, rfl⟩) ?_
  refine Go.hav (Kp := fun z => z = nA g11 12 5 0 11) rfl (fun g12 eg12 => ?_)
  refine Go.aload_n dMo_init_83 rfl (Nat.ne_of_beq_eq_false rfl) ?_
  refine Go.bipush (v := nI 12) dMo_init_84 (by decide) ?_
  refine Go.newi (N := 12) dMo_init_86 (ma_in (by decide +kernel) rfl) rfl (by decide) ?_
  refine Go.putR dMo_init_88 fwMo_init_48 (Nat.le_of_ble_eq_true rfl) (by decide) rfl (fun _ => ⟨rfl, rfl⟩) ?_
  refine Go.hav (Kp := fun z => z = nA g12 12 5 0 12) rfl (fun g13 eg13 => ?_)
  refine Go.aload_n dMo_init_91 rfl (Nat.ne_of_beq_eq_false rfl) ?_
  refine Go.bipush (v := nI 12) dMo_init_92 (by decide) ?_
  refine Go.newi (N := 12) dMo_init_94 (ma_in (by decide +kernel) rfl) rfl (by decide) ?_
  refine Go.putR dMo_init_96 fwMo_init_51 (Nat.le_of_ble_eq_true rfl) (by decide) rfl (fun _ => ⟨rfl, rfl⟩) ?_
  refine Go.hav (Kp := fun z => z = nA g13 12 5 0 13) rfl (fun g14 eg14 => ?_)
  refine Go.aload_n dMo_init_99 rfl (Nat.ne_of_beq_eq_false rfl) ?_
  refine Go.bipush (v := nI 12) dMo_init_100 (by decide) ?_
  refine Go.newi (N := 12) dMo_init_102 (ma_in (by decide +kernel) rfl) rfl (by decide) ?_
  refine Go.putR dMo_init_104 fwMo_init_54 (Nat.le_of_ble_eq_true rfl) (by decide) rfl (fun _ => ⟨rfl, rfl⟩) ?_
  refine Go.hav (Kp := fun z => z = nA g14 12 5 0 14) rfl (fun g15 eg15 => ?_)
  refine Go.aload_n dMo_init_107 rfl (Nat.ne_of_beq_eq_false rfl) ?_
  refine Go.bipush (v := nI 12) dMo_init_108 (by decide) ?_
  refine Go.newi (N := 12) dMo_init_110 (ma_in (by decide +kernel) rfl) rfl (by decide) ?_
  refine Go.putR dMo_init_112 fwMo_init_57 (Nat.le_of_ble_eq_true rfl) (by decide) rfl (fun _ => ⟨rfl, rfl⟩) ?_
  refine Go.hav (Kp := fun z => z = nA g15 12 5 0 15) rfl (fun g16 eg16 => ?_)
  refine Go.aload_n dMo_init_115 rfl (Nat.ne_of_beq_eq_false rfl) ?_
  refine Go.bipush (v := nI 12) dMo_init_116 (by decide) ?_
  refine Go.newi (N := 12) dMo_init_118 (ma_in (by decide +kernel) rfl) rfl (by decide) ?_
  refine Go.putR dMo_init_120 fwMo_init_60 (Nat.le_of_ble_eq_true rfl) (by decide) rfl (fun _ => ⟨rfl, rfl⟩) ?_
  refine Go.hav (Kp := fun z => z = nA g16 12 5 0 16) rfl (fun g17 eg17 => ?_)
  refine Go.aload_n dMo_init_123 rfl (Nat.ne_of_beq_eq_false rfl) ?_
  refine Go.bipush (v := nI 12) dMo_init_124 (by decide) ?_
  refine Go.newi (N := 12) dMo_init_126 (ma_in (by decide +kernel) rfl) rfl (by decide) ?_
  refine Go.putR dMo_init_128 fwMo_init_63 (Nat.le_of_ble_eq_true rfl) (by decide) rfl (fun _ => ⟨rfl, rfl⟩) ?_
  refine Go.hav (Kp := fun z => z = nA g17 12 5 0 17) rfl (fun g18 eg18 => ?_)
  refine Go.aload_n dMo_init_131 rfl (Nat.ne_of_beq_eq_false rfl) ?_
  refine Go.bipush (v := nI 12) dMo_init_132 (by decide) ?_
  refine Go.newz (N := 12) dMo_init_134 (ma_in (by decide +kernel) rfl) rfl (by decide) ?_
  refine Go.putR dMo_init_136 fwMo_init_66 (Nat.le_of_ble_eq_true rfl) (by decide) rfl (fun _ => ⟨rfl, rfl⟩) ?_
  refine Go.hav (Kp := fun z => z = nZ g18 12 5 0 18) rfl (fun g19 eg19 => ?_)
  refine Go.aload_n dMo_init_139 rfl (Nat.ne_of_beq_eq_false rfl) ?_
  refine Go.bipush (v := nI 12) dMo_init_140 (by decide) ?_
  refine Go.newz (N := 12) dMo_init_142 (ma_in (by decide +kernel) rfl) rfl (by decide) ?_
  refine Go.putR dMo_init_144 fwMo_init_69 (Nat.le_of_ble_eq_true rfl) (by decide) rfl (fun _ => ⟨rfl, rfl⟩) ?_
  refine Go.hav (Kp := fun z => z = nZ g19 12 5 0 19) rfl (fun g20 eg20 => ?_)
  refine Go.aload_n dMo_init_147 rfl (Nat.ne_of_beq_eq_false rfl) ?_
  refine Go.iconst (v := nI 0) dMo_init_148 (by decide) ?_
  refine Go.putI dMo_init_149 fwMo_init_72 (Nat.le_of_ble_eq_true rfl) rfl ⟨rfl, rfl⟩ ?_
  refine Go.hav (Kp := fun z => z = pI g20 5 0 20 (nI 0)) rfl (fun g21 eg21 => ?_)
  refine Go.aload_n dMo_init_152 rfl (Nat.ne_of_beq_eq_false rfl) ?_
  refine Go.iconst (v := nI 0) dMo_init_153 (by decide) ?_
  refine Go.putI dMo_init_154 fwMo_init_76 (Nat.le_of_ble_eq_true rfl) rfl ⟨rfl, rfl⟩ ?_
  refine Go.hav (Kp := fun z => z = pI g21 5 0 21 (nI 0)) rfl (fun g22 eg22 => ?_)
  refine Go.aload_n dMo_init_157 rfl (Nat.ne_of_beq_eq_false rfl) ?_
  refine Go.iconst (v := nI 0) dMo_init_158 (by decide) ?_
  refine Go.putI dMo_init_159 fwMo_init_79 (Nat.le_of_ble_eq_true rfl) rfl ⟨rfl, rfl⟩ ?_
  refine Go.hav (Kp := fun z => z = pI g22 5 0 22 (nI 0)) rfl (fun g23 eg23 => ?_)
  refine Go.aload_n dMo_init_162 rfl (Nat.ne_of_beq_eq_false rfl) ?_
  refine Go.bipush (v := nI 12) dMo_init_163 (by decide) ?_
  refine Go.newi (N := 12) dMo_init_165 (ma_in (by decide +kernel) rfl) rfl (by decide) ?_
  refine Go.putR dMo_init_167 fwMo_init_82 (Nat.le_of_ble_eq_true rfl) (by decide) rfl (fun _ => ⟨rfl, rfl⟩) ?_
  refine Go.hav (Kp := fun z => z = nA g23 12 5 0 23) rfl (fun g24 eg24 => ?_)
  refine Go.aload_n dMo_init_170 rfl (Nat.ne_of_beq_eq_false rfl) ?_
  refine Go.bipush (v := nI 12) dMo_init_171 (by decide) ?_
  refine Go.newi (N := 12) dMo_init_173 (ma_in (by decide +kernel) rfl) rfl (by decide) ?_
  refine Go.putR dMo_init_175 fwMo_init_85 (Nat.le_of_ble_eq_true rfl) (by decide) rfl (fun _ => ⟨rfl, rfl⟩) ?_
  refine Go.hav (Kp := fun z => z = nA g24 12 5 0 24) rfl (fun g25 eg25 => ?_)
  refine Go.aload_n dMo_init_178 rfl (Nat.ne_of_beq_eq_false rfl) ?_
  refine Go.bipush (v := nI 12) dMo_init_179 (by decide) ?_
  refine Go.newi (N := 12) dMo_init_181 (ma_in (by decide +kernel) rfl) rfl (by decide) ?_
  refine Go.putR dMo_init_183 fwMo_init_88 (Nat.le_of_ble_eq_true rfl) (by decide) rfl (fun _ => ⟨rfl, rfl⟩) ?_
  refine Go.hav (Kp := fun z => z = nA g25 12 5 0 25) rfl (fun g26 eg26 => ?_)
  refine Go.aload_n dMo_init_186 rfl (Nat.ne_of_beq_eq_false rfl) ?_
  refine Go.sipush (v := nI 128) dMo_init_187 (by decide) ?_
  refine Go.newi (N := 128) dMo_init_190 (ma_in (by decide +kernel) rfl) rfl (by decide) ?_
  refine Go.putR dMo_init_192 fwMo_init_91 (Nat.le_of_ble_eq_true rfl) (by decide) rfl (fun _ => ⟨rfl, rfl⟩) ?_
  refine Go.hav (Kp := fun z => z = nA g26 128 5 0 26) rfl (fun g27 eg27 => ?_)
  refine Go.aload_n dMo_init_195 rfl (Nat.ne_of_beq_eq_false rfl) ?_
  refine Go.sipush (v := nI 640) dMo_init_196 (by decide) ?_
  refine Go.newi (N := 640) dMo_init_199 (ma_in (by decide +kernel) rfl) rfl (by decide) ?_
  refine Go.putR dMo_init_201 fwMo_init_94 (Nat.le_of_ble_eq_true rfl) (by decide) rfl (fun _ => ⟨rfl, rfl⟩) ?_
  refine Go.hav (Kp := fun z => z = nA g27 640 5 0 27) rfl (fun g28 eg28 => ?_)
  refine Go.aload_n dMo_init_204 rfl (Nat.ne_of_beq_eq_false rfl) ?_
  refine Go.iconst (v := nI 5) dMo_init_205 (by decide) ?_
  refine Go.newi (N := 5) dMo_init_206 (ma_in (by decide +kernel) rfl) rfl (by decide) ?_
  refine Go.putR dMo_init_208 fwMo_init_97 (Nat.le_of_ble_eq_true rfl) (by decide) rfl (fun _ => ⟨rfl, rfl⟩) ?_
  refine Go.hav (Kp := fun z => z = nA g28 5 5 0 28) rfl (fun g29 eg29 => ?_)
  refine Go.aload_n dMo_init_211 rfl (Nat.ne_of_beq_eq_false rfl) ?_
  refine Go.iconst (v := nI 4) dMo_init_212 (by decide) ?_
  refine Go.newi (N := 4) dMo_init_213 (ma_in (by decide +kernel) rfl) rfl (by decide) ?_
  refine Go.putR dMo_init_215 fwMo_init_100 (Nat.le_of_ble_eq_true rfl) (by decide) rfl (fun _ => ⟨rfl, rfl⟩) ?_
  refine Go.hav (Kp := fun z => z = nA g29 4 5 0 29) rfl (fun g30 eg30 => ?_)
  refine Go.vret dMo_init_218 rfl (by decide) ?_
  refine ⟨rfl, ?_⟩
  subst eg30
  subst eg29
  subst eg28
  subst eg27
  subst eg26
  subst eg25
  subst eg24
  subst eg23
  subst eg22
  subst eg21
  subst eg20
  subst eg19
  subst eg18
  subst eg17
  subst eg16
  subst eg15
  subst eg14
  subst eg13
  subst eg12
  subst eg11
  subst eg10
  subst eg9
  subst eg8
  subst eg7
  subst eg6
  subst eg5
  subst eg4
  subst eg3
  subst eg2
  subst eg1
  rfl
