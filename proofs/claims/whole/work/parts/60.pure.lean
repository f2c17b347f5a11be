-- ===== the law: both sides answer alike, for every list of words =====
section LP
variable {xs : Nat → Int32} {L p : Nat} {k : Int32 → St → St → Option Int32} {u v : St}
theorem n7 (p : Nat) : nI p + 7 = nI (p + 7) := nI_add p 7
theorem p_law_0 (hL : L < 2 ^ 31) (hp : p + 7 ≤ L) (hR : R u v) (ih : ∀ u v, R u v → k (nI (p + 7)) u v = some 1) : f_law_0 xs L k (nI p) u v = some 1 := by
  obtain ⟨nC, nP, nS, h⟩ := hR
  unfold f_law_0
  rw [show nI p + 1 = nI (p + 1) from nI_add p 1, oobF (show p + 1 < L by omega) hL, fT]
  obtain ⟨r, u1, v1, e1, e2, hR1⟩ := (type_ok h _ : Wo (f_X7_type u (xs (Int32.toNatClampNeg (nI (p + 1))))) (f_X8_type v (xs (Int32.toNatClampNeg (nI (p + 1))))))
  rw [e1, e2, Option.bind_some, Option.bind_some]
  dsimp only
  rw [if_pos rfl, n7]
  exact ih u1 v1 hR1
theorem p_law_1 (hL : L < 2 ^ 31) (hp : p + 7 ≤ L) (hR : R u v) (ih : ∀ u v, R u v → k (nI (p + 7)) u v = some 1) : f_law_1 xs L k (nI p) u v = some 1 := by
  obtain ⟨nC, nP, nS, h⟩ := hR
  unfold f_law_1
  obtain ⟨r, u1, v1, e1, e2, hR1⟩ := (clear_w h : Wo (f_X7_clear u) (f_X8_clear v))
  rw [e1, e2, Option.bind_some, Option.bind_some]
  dsimp only
  rw [if_pos rfl, n7]
  exact ih u1 v1 hR1
theorem p_law_2 (hL : L < 2 ^ 31) (hp : p + 7 ≤ L) (hR : R u v) (ih : ∀ u v, R u v → k (nI (p + 7)) u v = some 1) : f_law_2 xs L k (nI p) u v = some 1 := by
  obtain ⟨nC, nP, nS, h⟩ := hR
  unfold f_law_2
  obtain ⟨r, u1, v1, e1, e2, hR1⟩ := (diocese_ok h : Wo (f_X7_diocese u) (f_X8_diocese v))
  rw [e1, e2, Option.bind_some, Option.bind_some]
  dsimp only
  rw [if_pos rfl, n7]
  exact ih u1 v1 hR1
theorem p_law_3 (hL : L < 2 ^ 31) (hp : p + 7 ≤ L) (hR : R u v) (ih : ∀ u v, R u v → k (nI (p + 7)) u v = some 1) : f_law_3 xs L k (nI p) u v = some 1 := by
  obtain ⟨nC, nP, nS, h⟩ := id hR
  unfold f_law_3
  rw [show nI p + 1 = nI (p + 1) from nI_add p 1, oobF (show p + 1 < L by omega) hL, fT]
  obtain ⟨r, e1, e2⟩ := (roof_ok h.2.1 _ : Eo (f_X7_roof u (xs (Int32.toNatClampNeg (nI (p + 1))))) (f_X8_roof v (xs (Int32.toNatClampNeg (nI (p + 1))))))
  rw [e1, e2, Option.bind_some, Option.bind_some, if_pos rfl, n7]
  exact ih u v hR
theorem p_law_4 (hL : L < 2 ^ 31) (hp : p + 7 ≤ L) (hR : R u v) (ih : ∀ u v, R u v → k (nI (p + 7)) u v = some 1) : f_law_4 xs L k (nI p) u v = some 1 := by
  obtain ⟨nC, nP, nS, h⟩ := id hR
  unfold f_law_4
  rw [show nI p + 1 = nI (p + 1) from nI_add p 1, oobF (show p + 1 < L by omega) hL, fT]
  rw [show nI p + 2 = nI (p + 2) from nI_add p 2, oobF (show p + 2 < L by omega) hL, fT]
  obtain ⟨r, e1, e2⟩ := (cock_ok h.1 h.2.1 _ _ : Eo (f_X7_cock u (xs (Int32.toNatClampNeg (nI (p + 1)))) (xs (Int32.toNatClampNeg (nI (p + 2))))) (f_X8_cock v (xs (Int32.toNatClampNeg (nI (p + 1)))) (xs (Int32.toNatClampNeg (nI (p + 2))))))
  rw [e1, e2, Option.bind_some, Option.bind_some, if_pos rfl, n7]
  exact ih u v hR
theorem p_law_5 (hL : L < 2 ^ 31) (hp : p + 7 ≤ L) (hR : R u v) (ih : ∀ u v, R u v → k (nI (p + 7)) u v = some 1) : f_law_5 xs L k (nI p) u v = some 1 := by
  obtain ⟨nC, nP, nS, h⟩ := id hR
  unfold f_law_5
  rw [show nI p + 1 = nI (p + 1) from nI_add p 1, oobF (show p + 1 < L by omega) hL, fT]
  rw [show nI p + 2 = nI (p + 2) from nI_add p 2, oobF (show p + 2 < L by omega) hL, fT]
  obtain ⟨r, e1, e2⟩ := (one_ok h.1 h.2.1 _ _ : Eo (f_X7_one u (xs (Int32.toNatClampNeg (nI (p + 1)))) (xs (Int32.toNatClampNeg (nI (p + 2))))) (f_X8_one v (xs (Int32.toNatClampNeg (nI (p + 1)))) (xs (Int32.toNatClampNeg (nI (p + 2))))))
  rw [e1, e2, Option.bind_some, Option.bind_some, if_pos rfl, n7]
  exact ih u v hR
theorem p_law_6 (hL : L < 2 ^ 31) (hp : p + 7 ≤ L) (hR : R u v) (ih : ∀ u v, R u v → k (nI (p + 7)) u v = some 1) : f_law_6 xs L k (nI p) u v = some 1 := by
  obtain ⟨nC, nP, nS, h⟩ := id hR
  unfold f_law_6
  rw [show nI p + 1 = nI (p + 1) from nI_add p 1, oobF (show p + 1 < L by omega) hL, fT]
  rw [show nI p + 2 = nI (p + 2) from nI_add p 2, oobF (show p + 2 < L by omega) hL, fT]
  obtain ⟨r, e1, e2⟩ := (saw_ok h.1 h.2.1 _ _ : Eo (f_X7_saw u (xs (Int32.toNatClampNeg (nI (p + 1)))) (xs (Int32.toNatClampNeg (nI (p + 2))))) (f_X8_saw v (xs (Int32.toNatClampNeg (nI (p + 1)))) (xs (Int32.toNatClampNeg (nI (p + 2))))))
  rw [e1, e2, Option.bind_some, Option.bind_some, if_pos rfl, n7]
  exact ih u v hR
theorem p_law_7 (hL : L < 2 ^ 31) (hp : p + 7 ≤ L) (hR : R u v) (ih : ∀ u v, R u v → k (nI (p + 7)) u v = some 1) : f_law_7 xs L k (nI p) u v = some 1 := by
  obtain ⟨nC, nP, nS, h⟩ := id hR
  unfold f_law_7
  rw [show nI p + 1 = nI (p + 1) from nI_add p 1, oobF (show p + 1 < L by omega) hL, fT]
  obtain ⟨r, e1, e2⟩ := (known_ok h.1 h.2.1 _ : Eo (f_X7_known u (xs (Int32.toNatClampNeg (nI (p + 1))))) (f_X8_known v (xs (Int32.toNatClampNeg (nI (p + 1))))))
  rw [e1, e2, Option.bind_some, Option.bind_some, if_pos rfl, n7]
  exact ih u v hR
theorem p_law_8 (hL : L < 2 ^ 31) (hp : p + 7 ≤ L) (hR : R u v) (ih : ∀ u v, R u v → k (nI (p + 7)) u v = some 1) : f_law_8 xs L k (nI p) u v = some 1 := by
  obtain ⟨nC, nP, nS, h⟩ := hR
  unfold f_law_8
  rw [show nI p + 1 = nI (p + 1) from nI_add p 1, oobF (show p + 1 < L by omega) hL, fT]
  obtain ⟨r, u1, v1, e1, e2, hR1⟩ := (hours_ok h _ : Wo (f_X7_hours u (xs (Int32.toNatClampNeg (nI (p + 1))))) (f_X8_hours v (xs (Int32.toNatClampNeg (nI (p + 1))))))
  rw [e1, e2, Option.bind_some, Option.bind_some]
  dsimp only
  rw [if_pos rfl, n7]
  exact ih u1 v1 hR1
theorem p_law_9 (hL : L < 2 ^ 31) (hp : p + 7 ≤ L) (hR : R u v) (ih : ∀ u v, R u v → k (nI (p + 7)) u v = some 1) : f_law_9 xs L k (nI p) u v = some 1 := by
  obtain ⟨nC, nP, nS, h⟩ := hR
  unfold f_law_9
  rw [show nI p + 1 = nI (p + 1) from nI_add p 1, oobF (show p + 1 < L by omega) hL, fT]
  rw [show nI p + 2 = nI (p + 2) from nI_add p 2, oobF (show p + 2 < L by omega) hL, fT]
  obtain ⟨r, u1, v1, e1, e2, hR1⟩ := (builds_ok h _ _ : Wo (f_X7_builds u (xs (Int32.toNatClampNeg (nI (p + 1)))) (xs (Int32.toNatClampNeg (nI (p + 2))))) (f_X8_builds v (xs (Int32.toNatClampNeg (nI (p + 1)))) (xs (Int32.toNatClampNeg (nI (p + 2))))))
  rw [e1, e2, Option.bind_some, Option.bind_some]
  dsimp only
  rw [if_pos rfl, n7]
  exact ih u1 v1 hR1
theorem p_law_10 (hL : L < 2 ^ 31) (hp : p + 7 ≤ L) (hR : R u v) (ih : ∀ u v, R u v → k (nI (p + 7)) u v = some 1) : f_law_10 xs L k (nI p) u v = some 1 := by
  obtain ⟨nC, nP, nS, h⟩ := hR
  unfold f_law_10
  rw [show nI p + 1 = nI (p + 1) from nI_add p 1, oobF (show p + 1 < L by omega) hL, fT]
  obtain ⟨r, u1, v1, e1, e2, hR1⟩ := (asks_ok h _ : Wo (f_X7_asks u (xs (Int32.toNatClampNeg (nI (p + 1))))) (f_X8_asks v (xs (Int32.toNatClampNeg (nI (p + 1))))))
  rw [e1, e2, Option.bind_some, Option.bind_some]
  dsimp only
  rw [if_pos rfl, n7]
  exact ih u1 v1 hR1
theorem p_law_11 (hL : L < 2 ^ 31) (hp : p + 7 ≤ L) (hR : R u v) (ih : ∀ u v, R u v → k (nI (p + 7)) u v = some 1) : f_law_11 xs L k (nI p) u v = some 1 := by
  obtain ⟨nC, nP, nS, h⟩ := hR
  unfold f_law_11
  obtain ⟨r, u1, v1, e1, e2, hR1⟩ := (undo_ok h : Wo (f_X7_undo u) (f_X8_undo v))
  rw [e1, e2, Option.bind_some, Option.bind_some]
  dsimp only
  rw [if_pos rfl, n7]
  exact ih u1 v1 hR1
theorem p_law_12 (hL : L < 2 ^ 31) (hp : p + 7 ≤ L) (hR : R u v) (ih : ∀ u v, R u v → k (nI (p + 7)) u v = some 1) : f_law_12 xs L k (nI p) u v = some 1 := by
  obtain ⟨nC, nP, nS, h⟩ := id hR
  unfold f_law_12
  rw [show nI p + 1 = nI (p + 1) from nI_add p 1, oobF (show p + 1 < L by omega) hL, fT]
  obtain ⟨r, e1, e2⟩ := (now_ok h.1 h.2.1 _ : Eo (f_X7_now u (xs (Int32.toNatClampNeg (nI (p + 1))))) (f_X8_now v (xs (Int32.toNatClampNeg (nI (p + 1))))))
  rw [e1, e2, Option.bind_some, Option.bind_some, if_pos rfl, n7]
  exact ih u v hR
theorem p_law_13 (hL : L < 2 ^ 31) (hp : p + 7 ≤ L) (hR : R u v) (ih : ∀ u v, R u v → k (nI (p + 7)) u v = some 1) : f_law_13 xs L k (nI p) u v = some 1 := by
  obtain ⟨nC, nP, nS, h⟩ := id hR
  unfold f_law_13
  rw [show nI p + 1 = nI (p + 1) from nI_add p 1, oobF (show p + 1 < L by omega) hL, fT]
  rw [show nI p + 2 = nI (p + 2) from nI_add p 2, oobF (show p + 2 < L by omega) hL, fT]
  obtain ⟨r, e1, e2⟩ := (view_ok h.1 h.2.1 _ _ : Eo (f_X7_view u (xs (Int32.toNatClampNeg (nI (p + 1)))) (xs (Int32.toNatClampNeg (nI (p + 2))))) (f_X8_view v (xs (Int32.toNatClampNeg (nI (p + 1)))) (xs (Int32.toNatClampNeg (nI (p + 2))))))
  rw [e1, e2, Option.bind_some, Option.bind_some, if_pos rfl, n7]
  exact ih u v hR
theorem p_law_14 (hL : L < 2 ^ 31) (hp : p + 7 ≤ L) (hR : R u v) (ih : ∀ u v, R u v → k (nI (p + 7)) u v = some 1) : f_law_14 xs L k (nI p) u v = some 1 := by
  obtain ⟨nC, nP, nS, h⟩ := id hR
  unfold f_law_14
  rw [show nI p + 1 = nI (p + 1) from nI_add p 1, oobF (show p + 1 < L by omega) hL, fT]
  obtain ⟨r, e1, e2⟩ := (blind_ok h.1 h.2.1 _ : Eo (f_X7_blind u (xs (Int32.toNatClampNeg (nI (p + 1))))) (f_X8_blind v (xs (Int32.toNatClampNeg (nI (p + 1))))))
  rw [e1, e2, Option.bind_some, Option.bind_some, if_pos rfl, n7]
  exact ih u v hR
theorem p_law_15 (hL : L < 2 ^ 31) (hp : p + 7 ≤ L) (hR : R u v) (ih : ∀ u v, R u v → k (nI (p + 7)) u v = some 1) : f_law_15 xs L k (nI p) u v = some 1 := by
  obtain ⟨nC, nP, nS, h⟩ := id hR
  unfold f_law_15
  rw [show nI p + 1 = nI (p + 1) from nI_add p 1, oobF (show p + 1 < L by omega) hL, fT]
  rw [show nI p + 2 = nI (p + 2) from nI_add p 2, oobF (show p + 2 < L by omega) hL, fT]
  obtain ⟨r, e1, e2⟩ := (most_ok h.1 h.2.1 _ _ : Eo (f_X7_most u (xs (Int32.toNatClampNeg (nI (p + 1)))) (xs (Int32.toNatClampNeg (nI (p + 2))))) (f_X8_most v (xs (Int32.toNatClampNeg (nI (p + 1)))) (xs (Int32.toNatClampNeg (nI (p + 2))))))
  rw [e1, e2, Option.bind_some, Option.bind_some, if_pos rfl, n7]
  exact ih u v hR
theorem p_law_16 (hL : L < 2 ^ 31) (hp : p + 7 ≤ L) (hR : R u v) (ih : ∀ u v, R u v → k (nI (p + 7)) u v = some 1) : f_law_16 xs L k (nI p) u v = some 1 := by
  obtain ⟨nC, nP, nS, h⟩ := id hR
  unfold f_law_16
  rw [show nI p + 1 = nI (p + 1) from nI_add p 1, oobF (show p + 1 < L by omega) hL, fT]
  rw [show nI p + 2 = nI (p + 2) from nI_add p 2, oobF (show p + 2 < L by omega) hL, fT]
  rw [show nI p + 3 = nI (p + 3) from nI_add p 3, oobF (show p + 3 < L by omega) hL, fT]
  rw [show nI p + 4 = nI (p + 4) from nI_add p 4, oobF (show p + 4 < L by omega) hL, fT]
  rw [show nI p + 5 = nI (p + 5) from nI_add p 5, oobF (show p + 5 < L by omega) hL, fT]
  rw [show nI p + 6 = nI (p + 6) from nI_add p 6, oobF (show p + 6 < L by omega) hL, fT]
  obtain ⟨r, e1, e2⟩ := (odds_ok h.1 h.2.1 _ _ _ _ _ _ : Eo (f_X7_odds u (xs (Int32.toNatClampNeg (nI (p + 1)))) (xs (Int32.toNatClampNeg (nI (p + 2)))) (xs (Int32.toNatClampNeg (nI (p + 3)))) (xs (Int32.toNatClampNeg (nI (p + 4)))) (xs (Int32.toNatClampNeg (nI (p + 5)))) (xs (Int32.toNatClampNeg (nI (p + 6))))) (f_X8_odds v (xs (Int32.toNatClampNeg (nI (p + 1)))) (xs (Int32.toNatClampNeg (nI (p + 2)))) (xs (Int32.toNatClampNeg (nI (p + 3)))) (xs (Int32.toNatClampNeg (nI (p + 4)))) (xs (Int32.toNatClampNeg (nI (p + 5)))) (xs (Int32.toNatClampNeg (nI (p + 6))))))
  rw [e1, e2, Option.bind_some, Option.bind_some, if_pos rfl, n7]
  exact ih u v hR
theorem p_law_17 (hL : L < 2 ^ 31) (hp : p + 7 ≤ L) (hR : R u v) (ih : ∀ u v, R u v → k (nI (p + 7)) u v = some 1) : f_law_17 xs L k (nI p) u v = some 1 := by
  obtain ⟨nC, nP, nS, h⟩ := hR
  unfold f_law_17
  rw [show nI p + 1 = nI (p + 1) from nI_add p 1, oobF (show p + 1 < L by omega) hL, fT]
  rw [show nI p + 2 = nI (p + 2) from nI_add p 2, oobF (show p + 2 < L by omega) hL, fT]
  obtain ⟨r, u1, v1, e1, e2, hR1⟩ := (faced_ok h _ _ : Wo (f_X7_faced u (xs (Int32.toNatClampNeg (nI (p + 1)))) (xs (Int32.toNatClampNeg (nI (p + 2))))) (f_X8_faced v (xs (Int32.toNatClampNeg (nI (p + 1)))) (xs (Int32.toNatClampNeg (nI (p + 2))))))
  rw [e1, e2, Option.bind_some, Option.bind_some]
  dsimp only
  rw [if_pos rfl, n7]
  exact ih u1 v1 hR1
theorem p_law_18 (hL : L < 2 ^ 31) (hp : p + 7 ≤ L) (hR : R u v) (ih : ∀ u v, R u v → k (nI (p + 7)) u v = some 1) : f_law_18 xs L k (nI p) u v = some 1 := by
  obtain ⟨nC, nP, nS, h⟩ := id hR
  obtain ⟨f, hF1⟩ := h.2.2.2.2.1.1
  have hF : ClF f u v := hF1
  unfold f_law_18
  rw [show nI p + 1 = nI (p + 1) from nI_add p 1, oobF (show p + 1 < L by omega) hL, fT]
  obtain ⟨r, e1, e2⟩ := (laws_ok hF _ : Eo (f_X7_laws u (xs (Int32.toNatClampNeg (nI (p + 1))))) (f_X8_laws v (xs (Int32.toNatClampNeg (nI (p + 1))))))
  rw [e1, e2, Option.bind_some, Option.bind_some, if_pos rfl, n7]
  exact ih u v hR
theorem p_law_19 (hL : L < 2 ^ 31) (hp : p + 7 ≤ L) (hR : R u v) (ih : ∀ u v, R u v → k (nI (p + 7)) u v = some 1) : f_law_19 xs L k (nI p) u v = some 1 := by
  obtain ⟨nC, nP, nS, h⟩ := id hR
  obtain ⟨f, hF1⟩ := h.2.2.2.2.1.1
  have hF : ClF f u v := hF1
  unfold f_law_19
  obtain ⟨r, e1, e2⟩ := (try_ok hF : Eo (f_X7_tryNext u) (f_X8_tryNext v))
  rw [e1, e2, Option.bind_some, Option.bind_some, if_pos rfl, n7]
  exact ih u v hR
theorem p_law_20 (hL : L < 2 ^ 31) (hp : p + 7 ≤ L) (hR : R u v) (ih : ∀ u v, R u v → k (nI (p + 7)) u v = some 1) : f_law_20 xs L k (nI p) u v = some 1 := by
  obtain ⟨nC, nP, nS, h⟩ := hR
  unfold f_law_20
  rw [show nI p + 1 = nI (p + 1) from nI_add p 1, oobF (show p + 1 < L by omega) hL, fT]
  rw [show nI p + 2 = nI (p + 2) from nI_add p 2, oobF (show p + 2 < L by omega) hL, fT]
  obtain ⟨r, u1, v1, e1, e2, hR1⟩ := (met_ok h _ _ : Wo (f_X7_met u (xs (Int32.toNatClampNeg (nI (p + 1)))) (xs (Int32.toNatClampNeg (nI (p + 2))))) (f_X8_met v (xs (Int32.toNatClampNeg (nI (p + 1)))) (xs (Int32.toNatClampNeg (nI (p + 2))))))
  rw [e1, e2, Option.bind_some, Option.bind_some]
  dsimp only
  rw [if_pos rfl, n7]
  exact ih u1 v1 hR1
theorem p_law_21 (hL : L < 2 ^ 31) (hp : p + 7 ≤ L) (hR : R u v) (ih : ∀ u v, R u v → k (nI (p + 7)) u v = some 1) : f_law_21 xs L k (nI p) u v = some 1 := by
  obtain ⟨nC, nP, nS, h⟩ := id hR
  obtain ⟨f, hG1⟩ := h.2.2.2.2.1.2
  have hG : ClG f u v := hG1
  unfold f_law_21
  rw [show nI p + 1 = nI (p + 1) from nI_add p 1, oobF (show p + 1 < L by omega) hL, fT]
  obtain ⟨r, e1, e2⟩ := (ways_ok hG _ : Eo (f_X7_ways u (xs (Int32.toNatClampNeg (nI (p + 1))))) (f_X8_ways v (xs (Int32.toNatClampNeg (nI (p + 1))))))
  rw [e1, e2, Option.bind_some, Option.bind_some, if_pos rfl, n7]
  exact ih u v hR
theorem p_law_22 (hL : L < 2 ^ 31) (hp : p + 7 ≤ L) (hR : R u v) (ih : ∀ u v, R u v → k (nI (p + 7)) u v = some 1) : f_law_22 xs L k (nI p) u v = some 1 := by
  obtain ⟨nC, nP, nS, h⟩ := id hR
  obtain ⟨f, hG1⟩ := h.2.2.2.2.1.2
  have hG : ClG f u v := hG1
  unfold f_law_22
  rw [show nI p + 1 = nI (p + 1) from nI_add p 1, oobF (show p + 1 < L by omega) hL, fT]
  obtain ⟨r, e1, e2⟩ := (falses_ok hG _ : Eo (f_X7_falses u (xs (Int32.toNatClampNeg (nI (p + 1))))) (f_X8_falses v (xs (Int32.toNatClampNeg (nI (p + 1))))))
  rw [e1, e2, Option.bind_some, Option.bind_some, if_pos rfl, n7]
  exact ih u v hR
theorem p_law_23 (hL : L < 2 ^ 31) (hp : p + 7 ≤ L) (hR : R u v) (ih : ∀ u v, R u v → k (nI (p + 7)) u v = some 1) : f_law_23 xs L k (nI p) u v = some 1 := by
  obtain ⟨nC, nP, nS, h⟩ := hR
  unfold f_law_23
  obtain ⟨r, u1, v1, e1, e2, hR1⟩ := (forget_ok h : Wo (f_X7_forget u) (f_X8_forget v))
  rw [e1, e2, Option.bind_some, Option.bind_some]
  dsimp only
  rw [if_pos rfl, n7]
  exact ih u1 v1 hR1
theorem p_law_24 (hL : L < 2 ^ 31) (hp : p + 7 ≤ L) (hR : R u v) (ih : ∀ u v, R u v → k (nI (p + 7)) u v = some 1) : f_law_24 xs L k (nI p) u v = some 1 := by
  obtain ⟨nC, nP, nS, h⟩ := hR
  unfold f_law_24
  rw [show nI p + 1 = nI (p + 1) from nI_add p 1, oobF (show p + 1 < L by omega) hL, fT]
  rw [show nI p + 2 = nI (p + 2) from nI_add p 2, oobF (show p + 2 < L by omega) hL, fT]
  obtain ⟨r, u1, v1, e1, e2, hR1⟩ := (mark_ok h _ _ : Wo (f_X7_mark u (xs (Int32.toNatClampNeg (nI (p + 1)))) (xs (Int32.toNatClampNeg (nI (p + 2))))) (f_X8_mark v (xs (Int32.toNatClampNeg (nI (p + 1)))) (xs (Int32.toNatClampNeg (nI (p + 2))))))
  rw [e1, e2, Option.bind_some, Option.bind_some]
  dsimp only
  rw [if_pos rfl, n7]
  exact ih u1 v1 hR1
theorem p_law_25 (hL : L < 2 ^ 31) (hp : p + 7 ≤ L) (hR : R u v) (ih : ∀ u v, R u v → k (nI (p + 7)) u v = some 1) : f_law_25 xs L k (nI p) u v = some 1 := by
  obtain ⟨nC, nP, nS, h⟩ := hR
  unfold f_law_25
  rw [show nI p + 1 = nI (p + 1) from nI_add p 1, oobF (show p + 1 < L by omega) hL, fT]
  obtain ⟨r, u1, v1, e1, e2, hR1⟩ := (keep_ok h _ : Wo (f_X7_keep u (xs (Int32.toNatClampNeg (nI (p + 1))))) (f_X8_keep v (xs (Int32.toNatClampNeg (nI (p + 1))))))
  rw [e1, e2, Option.bind_some, Option.bind_some]
  dsimp only
  rw [if_pos rfl, n7]
  exact ih u1 v1 hR1
theorem p_law_26 (hL : L < 2 ^ 31) (hp : p + 7 ≤ L) (hR : R u v) (ih : ∀ u v, R u v → k (nI (p + 7)) u v = some 1) : f_law_26 xs L k (nI p) u v = some 1 := by
  obtain ⟨nC, nP, nS, h⟩ := hR
  unfold f_law_26
  rw [show nI p + 1 = nI (p + 1) from nI_add p 1, oobF (show p + 1 < L by omega) hL, fT]
  obtain ⟨r, u1, v1, e1, e2, hR1⟩ := (back_ok h _ : Wo (f_X7_back u (xs (Int32.toNatClampNeg (nI (p + 1))))) (f_X8_back v (xs (Int32.toNatClampNeg (nI (p + 1))))))
  rw [e1, e2, Option.bind_some, Option.bind_some]
  dsimp only
  rw [if_pos rfl, n7]
  exact ih u1 v1 hR1
theorem p_law_27 (hL : L < 2 ^ 31) (hp : p + 7 ≤ L) (hR : R u v) (ih : ∀ u v, R u v → k (nI (p + 7)) u v = some 1) : f_law_27 xs L k (nI p) u v = some 1 := by
  obtain ⟨nC, nP, nS, h⟩ := id hR
  unfold f_law_27
  rw [show nI p + 1 = nI (p + 1) from nI_add p 1, oobF (show p + 1 < L by omega) hL, fT]
  obtain ⟨r, e1, e2⟩ := (count_ok h _ : Eo (f_X7_count u (xs (Int32.toNatClampNeg (nI (p + 1))))) (f_X8_count v (xs (Int32.toNatClampNeg (nI (p + 1))))))
  rw [e1, e2, Option.bind_some, Option.bind_some, if_pos rfl, n7]
  exact ih u v hR
theorem p_law_28 (hL : L < 2 ^ 31) (hp : p + 7 ≤ L) (hR : R u v) (ih : ∀ u v, R u v → k (nI (p + 7)) u v = some 1) : f_law_28 xs L k (nI p) u v = some 1 := by
  obtain ⟨nC, nP, nS, h⟩ := id hR
  have hJ : u.2.2 = v.2.2 := h.2.2.2.2.2
  unfold f_law_28 f_X7_trace f_X8_trace
  rw [Option.bind_some, Option.bind_some, hJ, if_pos ((lg_cmp_eq _ _).mpr rfl), n7]
  exact ih u v hR
theorem law_all (hL : L ≤ 448) : ∀ (F p : Nat) (u v : St), p ≤ 1000 → 1 ≤ F → L < p + 7 * F → R u v → f_law xs L F (nI p) u v = some 1
  | 0, _, _, _, _, h, _, _ => absurd h (by omega)
  | F + 1, p, u, v, hp, _, hF, hR => by
    rw [f_law.eq_2]
    by_cases q : L < p + 7
    · rw [if_pos]
      rw [Int32.lt_iff_toInt_lt, nI_toInt (show p < 2 ^ 31 by omega), show Int32.ofNat L - 7 = nI L - nI 7 from rfl, pk_sub_toInt (by omega) (by omega)]
      omega
    · rw [if_neg]
      · have hL31 : L < 2 ^ 31 := by omega
        have hp7 : p + 7 ≤ L := by omega
        have ih : ∀ u v, R u v → f_law xs L F (nI (p + 7)) u v = some 1 := fun u v h => law_all hL F (p + 7) u v (by omega) (by omega) (by omega) h
        rw [oobF (show p < L by omega) hL31, fT]
        generalize xs (Int32.toNatClampNeg (nI p)) &&& 31 = z
        by_cases q0 : z = 0
        · rw [if_pos q0]; exact p_law_0 hL31 hp7 hR ih
        rw [if_neg q0]
        by_cases q1 : z = 1
        · rw [if_pos q1]; exact p_law_1 hL31 hp7 hR ih
        rw [if_neg q1]
        by_cases q2 : z = 2
        · rw [if_pos q2]; exact p_law_2 hL31 hp7 hR ih
        rw [if_neg q2]
        by_cases q3 : z = 3
        · rw [if_pos q3]; exact p_law_3 hL31 hp7 hR ih
        rw [if_neg q3]
        by_cases q4 : z = 4
        · rw [if_pos q4]; exact p_law_4 hL31 hp7 hR ih
        rw [if_neg q4]
        by_cases q5 : z = 5
        · rw [if_pos q5]; exact p_law_5 hL31 hp7 hR ih
        rw [if_neg q5]
        by_cases q6 : z = 6
        · rw [if_pos q6]; exact p_law_6 hL31 hp7 hR ih
        rw [if_neg q6]
        by_cases q7 : z = 7
        · rw [if_pos q7]; exact p_law_7 hL31 hp7 hR ih
        rw [if_neg q7]
        by_cases q8 : z = 8
        · rw [if_pos q8]; exact p_law_8 hL31 hp7 hR ih
        rw [if_neg q8]
        by_cases q9 : z = 9
        · rw [if_pos q9]; exact p_law_9 hL31 hp7 hR ih
        rw [if_neg q9]
        by_cases q10 : z = 10
        · rw [if_pos q10]; exact p_law_10 hL31 hp7 hR ih
        rw [if_neg q10]
        by_cases q11 : z = 11
        · rw [if_pos q11]; exact p_law_11 hL31 hp7 hR ih
        rw [if_neg q11]
        by_cases q12 : z = 12
        · rw [if_pos q12]; exact p_law_12 hL31 hp7 hR ih
        rw [if_neg q12]
        by_cases q13 : z = 13
        · rw [if_pos q13]; exact p_law_13 hL31 hp7 hR ih
        rw [if_neg q13]
        by_cases q14 : z = 14
        · rw [if_pos q14]; exact p_law_14 hL31 hp7 hR ih
        rw [if_neg q14]
        by_cases q15 : z = 15
        · rw [if_pos q15]; exact p_law_15 hL31 hp7 hR ih
        rw [if_neg q15]
        by_cases q16 : z = 16
        · rw [if_pos q16]; exact p_law_16 hL31 hp7 hR ih
        rw [if_neg q16]
        by_cases q17 : z = 17
        · rw [if_pos q17]; exact p_law_17 hL31 hp7 hR ih
        rw [if_neg q17]
        by_cases q18 : z = 18
        · rw [if_pos q18]; exact p_law_18 hL31 hp7 hR ih
        rw [if_neg q18]
        by_cases q19 : z = 19
        · rw [if_pos q19]; exact p_law_19 hL31 hp7 hR ih
        rw [if_neg q19]
        by_cases q20 : z = 20
        · rw [if_pos q20]; exact p_law_20 hL31 hp7 hR ih
        rw [if_neg q20]
        by_cases q21 : z = 21
        · rw [if_pos q21]; exact p_law_21 hL31 hp7 hR ih
        rw [if_neg q21]
        by_cases q22 : z = 22
        · rw [if_pos q22]; exact p_law_22 hL31 hp7 hR ih
        rw [if_neg q22]
        by_cases q23 : z = 23
        · rw [if_pos q23]; exact p_law_23 hL31 hp7 hR ih
        rw [if_neg q23]
        by_cases q24 : z = 24
        · rw [if_pos q24]; exact p_law_24 hL31 hp7 hR ih
        rw [if_neg q24]
        by_cases q25 : z = 25
        · rw [if_pos q25]; exact p_law_25 hL31 hp7 hR ih
        rw [if_neg q25]
        by_cases q26 : z = 26
        · rw [if_pos q26]; exact p_law_26 hL31 hp7 hR ih
        rw [if_neg q26]
        by_cases q27 : z = 27
        · rw [if_pos q27]; exact p_law_27 hL31 hp7 hR ih
        rw [if_neg q27]
        by_cases q28 : z = 28
        · rw [if_pos q28]; exact p_law_28 hL31 hp7 hR ih
        rw [if_neg q28]
        rw [n7]; exact ih u v hR
      · rw [Int32.lt_iff_toInt_lt, nI_toInt (show p < 2 ^ 31 by omega), show Int32.ofNat L - 7 = nI L - nI 7 from rfl, pk_sub_toInt (by omega) (by omega)]
        omega
theorem law_pure {xs : Nat → Int32} {L : Nat} (hL : L ≤ 448) : ∃ n, f_law xs L n 0 st0 st0 = some 1 := ⟨65, law_all hL 65 0 st0 st0 (by omega) (by omega) (by omega) R_0⟩
end LP
