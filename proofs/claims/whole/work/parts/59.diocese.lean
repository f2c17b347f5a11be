-- ===== a diocese is told =====
section DI
variable {u v : St}
theorem six_loop (L : (Int32 → St → Option St) → Nat → Int32 → St → Option St) (k : Int32 → St → Option St) (step : Nat → St → St) (n : Nat) (P : Nat → St → Prop) (u : St) (hn : n < 1000)
    (hs : ∀ F i t, i < n → L k (F + 1) (nI i) t = L k F (nI (i + 1)) (step i t)) (he : ∀ F t, L k (F + 1) (nI n) t = k (nI n) t) (hp : ∀ i t, i < n → P i t → P (i + 1) (step i t)) (h0 : P 0 u) :
    ∃ w, L k FU 0 u = k (nI n) w ∧ P n w := by
  have h := up_loop (fun F i t => L k F (nI i) t) step n (fun t => k (nI n) t) P (fun F i t hi _ => hs F i t hi) hp (fun F t _ => he F t) u h0 FU (FU_gt (by omega))
  exact ⟨_, h.1, h.2⟩
/-- what settling leaves -/
def St5 (v w : St) : Prop := w.1 = v.1 ∧ (∀ j : Nat, 3 < j → w.2.1 j = v.2.1 j) ∧ w.2.2 = v.2.2
theorem set26 (k : Int32 → St → Option St) (v : St) : ∃ w, L_X8_settles_26 k FU 0 v = k (nI 5) w ∧ St5 v w ∧ ∀ c : Nat, c < 5 → w.2.1 0 c = v.2.1 14 c ∧ w.2.1 1 c = v.2.1 15 c ∧ w.2.1 2 c = v.2.1 16 c ∧ w.2.1 3 c = v.2.1 17 c := by
  refine six_loop (fun k F x t => L_X8_settles_26 k F x t) k (fun i t => sA (sA (sA (sA t 0 (upd (t.2.1 0) i (t.2.1 14 i))) 1 (upd (t.2.1 1) i (t.2.1 15 i))) 2 (upd (t.2.1 2) i (t.2.1 16 i))) 3 (upd (t.2.1 3) i (t.2.1 17 i))) 5 (fun i w => St5 v w ∧ ∀ c : Nat, c < i → w.2.1 0 c = v.2.1 14 c ∧ w.2.1 1 c = v.2.1 15 c ∧ w.2.1 2 c = v.2.1 16 c ∧ w.2.1 3 c = v.2.1 17 c) v (by omega) ?_ ?_ ?_ ⟨⟨rfl, fun _ _ => rfl, rfl⟩, fun c hc => absurd hc (by omega)⟩
  · intro F i t hi
    rw [L_X8_settles_26, if_neg (show ¬ (5 : Int32) ≤ nI i from nI_ge (b := 5) hi (by omega)), oobF hi (by decide), fT, tc_nI (by omega), nI_1]
  · intro F t
    rw [L_X8_settles_26, if_pos (show (5 : Int32) ≤ nI 5 by decide)]
  · rintro i t hi ⟨⟨a1, a2, a3⟩, a4⟩
    refine ⟨⟨a1, fun j hj => ?_, a3⟩, fun c hc => ?_⟩
    · exact (sA_ne (by omega)).trans ((sA_ne (by omega)).trans ((sA_ne (by omega)).trans ((sA_ne (by omega)).trans (a2 j hj))))
    · show (if c = i then t.2.1 14 i else t.2.1 0 c) = _ ∧ (if c = i then t.2.1 15 i else t.2.1 1 c) = _ ∧ (if c = i then t.2.1 16 i else t.2.1 2 c) = _ ∧ (if c = i then t.2.1 17 i else t.2.1 3 c) = _
      rw [a2 14 (by omega), a2 15 (by omega), a2 16 (by omega), a2 17 (by omega)]
      by_cases q : c = i
      · rw [if_pos q, if_pos q, if_pos q, if_pos q, q]; exact ⟨rfl, rfl, rfl, rfl⟩
      · rw [if_neg q, if_neg q, if_neg q, if_neg q]; exact a4 c (by omega)
def St7 (v w : St) : Prop := w.1 = v.1 ∧ (∀ j : Nat, j ≠ 4 → j ≠ 5 → w.2.1 j = v.2.1 j) ∧ w.2.2 = v.2.2
theorem set87 (k : Int32 → St → Option St) (v : St) : ∃ w, L_X8_settles_87 k FU 0 v = k (nI 4) w ∧ St7 v w ∧ ∀ c : Nat, c < 4 → w.2.1 4 c = v.2.1 18 c ∧ w.2.1 5 c = v.2.1 19 c := by
  refine six_loop (fun k F x t => L_X8_settles_87 k F x t) k (fun i t => sA (sA t 4 (upd (t.2.1 4) i (t.2.1 18 i))) 5 (upd (t.2.1 5) i (t.2.1 19 i))) 4 (fun i w => St7 v w ∧ ∀ c : Nat, c < i → w.2.1 4 c = v.2.1 18 c ∧ w.2.1 5 c = v.2.1 19 c) v (by omega) ?_ ?_ ?_ ⟨⟨rfl, fun _ _ _ => rfl, rfl⟩, fun c hc => absurd hc (by omega)⟩
  · intro F i t hi
    rw [L_X8_settles_87, if_neg (show ¬ (4 : Int32) ≤ nI i from nI_ge (b := 4) hi (by omega)), oobF hi (by decide), fT, tc_nI (by omega), nI_1]
  · intro F t
    rw [L_X8_settles_87, if_pos (show (4 : Int32) ≤ nI 4 by decide)]
  · rintro i t hi ⟨⟨a1, a2, a3⟩, a4⟩
    refine ⟨⟨a1, fun j hj hj2 => ?_, a3⟩, fun c hc => ?_⟩
    · exact (sA_ne (by omega)).trans ((sA_ne (by omega)).trans (a2 j hj hj2))
    · show (if c = i then t.2.1 18 i else t.2.1 4 c) = _ ∧ (if c = i then t.2.1 19 i else t.2.1 5 c) = _
      rw [a2 18 (by omega) (by omega), a2 19 (by omega) (by omega)]
      by_cases q : c = i
      · rw [if_pos q, if_pos q, q]; exact ⟨rfl, rfl⟩
      · rw [if_neg q, if_neg q]; exact a4 c (by omega)
theorem set124 (k : Int32 → St → Option St) (v : St) : L_X8_settles_124 k FU 0 v = k (nI (0 + 12)) (sA v 6 (va_cpy (v.2.1 20) (v.2.1 6) 0 0 12)) := by
  refine cp_loop (fun k F x t => L_X8_settles_124 k F x t) k 6 20 0 0 12 0 v (by omega) ?_ ?_ (by omega)
  · intro F i t hi
    rw [Nat.zero_add, Nat.zero_add, L_X8_settles_124, if_neg (show ¬ (12 : Int32) ≤ nI i from nI_ge (b := 12) hi (by omega)), oobF hi (by decide), fT, tc_nI (by omega), nI_1]
    show _ = L_X8_settles_124 k F (nI (i + 1)) (sA t 6 (upd (t.2.1 6) (0 + i) (t.2.1 20 (0 + i))))
    rw [Nat.zero_add]
  · intro F t
    rw [L_X8_settles_124, if_pos (show (12 : Int32) ≤ nI (0 + 12) by decide)]
theorem set172 (k : Int32 → St → Option St) (v : St) : L_X8_settles_172 k FU 0 v = k (nI (0 + 24)) (sA v 7 (va_cpy (v.2.1 13) (v.2.1 7) 0 1 24)) := by
  refine cp_loop (fun k F x t => L_X8_settles_172 k F x t) k 7 13 1 0 24 0 v (by omega) ?_ ?_ (by omega)
  · intro F i t hi
    rw [Nat.zero_add, Nat.zero_add, L_X8_settles_172, if_neg (show ¬ (24 : Int32) ≤ nI i from nI_ge (b := 24) hi (by omega)), oobF hi (by decide), fT, show (1 : Int32) + nI i = nI (1 + i) from nI_add 1 i, oobF (show 1 + i < 507 by omega) (by decide), fT, tc_nI (by omega), tc_nI (by omega), nI_1]
    show _ = L_X8_settles_172 k F (nI (i + 1)) (sA t 7 (upd (t.2.1 7) (1 + i) (t.2.1 13 (0 + i))))
    rw [Nat.zero_add]
  · intro F t
    rw [L_X8_settles_172, if_pos (show (24 : Int32) ≤ nI (0 + 24) by decide)]
theorem set150 (k : Int32 → St → Option St) (v : St) : L_X8_settles_150 k FU 0 v = k (nI 507) (sA v 7 (fun p => if p < 507 then 0 else v.2.1 7 p)) := by
  have h := up_loop' (fun F i (t : St) => L_X8_settles_150 k F (nI i) t) (mpP 7 (fun _ => 0)) 507 (fun t => k (nI 507) t) ?_ ?_ v FU (FU_gt (by omega))
  · rw [mp_fu] at h; exact h
  · intro F i t hi
    show L_X8_settles_150 k (F + 1) (nI i) t = _
    rw [L_X8_settles_150, if_neg (show ¬ (507 : Int32) ≤ nI i from nI_ge (b := 507) hi (by omega)), oobF hi (by decide), fT, tc_nI (by omega), nI_1]; rfl
  · intro F t
    show L_X8_settles_150 k (F + 1) (nI 507) t = _
    rw [L_X8_settles_150, if_pos (show (507 : Int32) ≤ nI 507 by decide)]
theorem zero32 (k : Int32 → St → Option (Int32 × St)) (v : St) : L_X8_diocese_32 k FU 0 v = k (nI 24) (sA v 13 (fun p => if p < 24 then 0 else v.2.1 13 p)) := by
  have h := up_loop' (fun F i (t : St) => L_X8_diocese_32 k F (nI i) t) (mpP 13 (fun _ => 0)) 24 (fun t => k (nI 24) t) ?_ ?_ v FU (FU_gt (by omega))
  · rw [mp_fu] at h; exact h
  · intro F i t hi
    show L_X8_diocese_32 k (F + 1) (nI i) t = _
    rw [L_X8_diocese_32, if_neg (show ¬ (24 : Int32) ≤ nI i from nI_ge (b := 24) hi (by omega)), oobF hi (by decide), fT, tc_nI (by omega), nI_1]; rfl
  · intro F t
    show L_X8_diocese_32 k (F + 1) (nI 24) t = _
    rw [L_X8_diocese_32, if_pos (show (24 : Int32) ≤ nI 24 by decide)]
theorem over29 (u : St) : L_X3_beginOver_29 (fun x2 u29 => some u29) FU 0 u = some (rmR 31 (fun _ _ => 0) 5 u) := by
  have h := up_loop' (fun F i (t : St) => L_X3_beginOver_29 (fun x2 u29 => some u29) F (nI i) t) (fun i t => sA t (31 + i) ((fun (_ : Nat → Int32) (_ : Nat) => (0 : Int32)) (t.2.1 (31 + i)))) 5 (fun t => some t) ?_ ?_ u FU (FU_gt (by omega))
  · exact h.trans (congrArg some (rmR_fu (D := 31) (g := fun _ _ => 0) u 5))
  · intro F i t hi
    show L_X3_beginOver_29 _ (F + 1) (nI i) t = _
    rw [L_X3_beginOver_29, if_neg (show ¬ (5 : Int32) ≤ nI i from nI_ge (b := 5) hi (by omega)), oobF hi (by decide), fT, tc_nI (by omega), nI_1]
  · intro F t
    show L_X3_beginOver_29 _ (F + 1) (nI 5) t = _
    rw [L_X3_beginOver_29, if_pos (show (5 : Int32) ≤ nI 5 by decide)]
/-- settled: what the other side holds then -/
theorem settles_ok (v : St) : ∃ w, f_X8_settles v = some w ∧ (w.1 0 = v.1 12 ∧ w.1 1 = v.1 13 ∧ w.1 2 = v.1 14 ∧ w.1 3 = 0 ∧ w.1 4 = 0 ∧ w.1 5 = 0 ∧ w.1 11 = v.1 11) ∧
    (∀ c : Nat, c < 5 → w.2.1 0 c = v.2.1 14 c ∧ w.2.1 1 c = v.2.1 15 c ∧ w.2.1 2 c = v.2.1 16 c ∧ w.2.1 3 c = v.2.1 17 c) ∧ (∀ c : Nat, c < 4 → w.2.1 4 c = v.2.1 18 c ∧ w.2.1 5 c = v.2.1 19 c) ∧ (∀ c : Nat, c < 12 → w.2.1 6 c = v.2.1 20 c) ∧
    (∀ x : Nat, x < 24 → w.2.1 7 (1 + x) = v.2.1 13 x) ∧ (∀ k : Nat, k < 507 → k = 0 ∨ 24 < k → w.2.1 7 k = 0) ∧ (w.2.1 9 0 = 0 ∧ w.2.1 9 1 = 0) ∧ w.2.1 12 = v.2.1 12 ∧ w.2.2 = v.2.2 := by
  unfold f_X8_settles
  obtain ⟨w1, e1, ⟨a1, a2, a3⟩, a4⟩ := set26 (fun x1 u26 =>
    L_X8_settles_87 (fun x1 u87 =>
      L_X8_settles_124 (fun x1 u124 =>
        L_X8_settles_150 (fun x1 u150 =>
          L_X8_settles_172 (fun x1 u172 =>
            some (sI (sA (sA (sI (sI u172 3 0) 4 0) 9 (upd (u172.2.1 9) 0 0)) 9 (upd (upd (u172.2.1 9) 0 0) 1 0)) 5 0)) FU 0 u150) FU 0 u124) FU 0 u87) FU 0 u26) (sI (sI (sI v 0 (v.1 12)) 1 (v.1 13)) 2 (v.1 14))
  obtain ⟨w2, e2, ⟨b1, b2, b3⟩, b4⟩ := set87 (fun x1 u87 =>
      L_X8_settles_124 (fun x1 u124 =>
        L_X8_settles_150 (fun x1 u150 =>
          L_X8_settles_172 (fun x1 u172 =>
            some (sI (sA (sA (sI (sI u172 3 0) 4 0) 9 (upd (u172.2.1 9) 0 0)) 9 (upd (upd (u172.2.1 9) 0 0) 1 0)) 5 0)) FU 0 u150) FU 0 u124) FU 0 u87) w1
  rw [e1, e2, set124, set150, set172]
  have n1 : ∀ k, w2.1 k = (sI (sI (sI v 0 (v.1 12)) 1 (v.1 13)) 2 (v.1 14)).1 k := fun k => by rw [b1, a1]
  have r1 : ∀ j, 5 < j → w2.2.1 j = v.2.1 j := fun j hj => (b2 j (by omega) (by omega)).trans (a2 j (by omega))
  have r2 : ∀ j, j ≤ 3 → w2.2.1 j = w1.2.1 j := fun j hj => b2 j (by omega) (by omega)
  refine ⟨_, rfl, ⟨n1 0, n1 1, n1 2, rfl, rfl, rfl, n1 11⟩, fun c hc => ?_, fun c hc => ?_, fun c hc => ?_, fun x hx => ?_, fun k hk hk2 => ?_, ⟨rfl, rfl⟩, r1 12 (by omega), b3.trans a3⟩
  · have := a4 c hc
    rw [← r2 0 (by omega), ← r2 1 (by omega), ← r2 2 (by omega), ← r2 3 (by omega)] at this
    exact this
  · have := b4 c hc
    rw [a2 18 (by omega), a2 19 (by omega)] at this
    exact this
  · show va_cpy (w2.2.1 20) (w2.2.1 6) 0 0 12 c = _
    rw [cpy0 hc, r1 20 (by omega)]
  · show va_cpy (w2.2.1 13) (fun p => if p < 507 then 0 else w2.2.1 7 p) 0 1 24 (1 + x) = _
    rw [cpyI hx, r1 13 (by omega), Nat.zero_add]
  · show va_cpy (w2.2.1 13) (fun p => if p < 507 then 0 else w2.2.1 7 p) 0 1 24 k = 0
    rw [cpyO (by omega)]
    exact if_pos hk
def bcS (u : St) : St := sI (sI (sI (rwS 26 11 3 4 (rwS 22 7 2 4 (rwS 17 2 4 5 (sA u 16 (va_cpy (u.2.1 1) (u.2.1 16) 0 0 24))))) 7 (u.1 4)) 8 (u.1 5)) 9 (u.1 6)
theorem become_ok (u : St) : f_X1_becomeAs u = some (bcS u) := by
  unfold f_X1_becomeAs
  rw [rows_6_26, Option.bind_some, rows_12_32, Option.bind_some, rows_17_37, Option.bind_some]; rfl
def ovS (u : St) : St := rmR 31 (fun _ _ => 0) 5 (sA (sI (sI (sI u 10 0) 11 0) 12 0) 30 (va_cpy (u.2.1 16) (u.2.1 30) 0 0 24))
theorem over_ok (u : St) : f_X3_beginOver u = some (ovS u) := by
  unfold f_X3_beginOver
  rw [over29]; rfl
/-- begun with the draft: what class side holds then -/
def bgS (u : St) : St := sI (sI (sI (sI (ovS (bcS u)) 13 0) 14 0) 21 0) 0 0
theorem bcS_row (u : St) {j : Nat} (h : j < 16 ∨ 29 < j) : (bcS u).2.1 j = u.2.1 j := (rwS_out (by omega)).trans ((rwS_out (by omega)).trans ((rwS_out (by omega)).trans (sA_ne (by omega))))
theorem ovS_row (u : St) {j : Nat} (h : j < 30 ∨ 35 < j) : (ovS u).2.1 j = u.2.1 j := (rmR_out (by omega)).trans (sA_ne (by omega))
theorem bgS_row (u : St) (j : Nat) : (bgS u).2.1 j = (ovS (bcS u)).2.1 j := rfl
theorem bg_R {nC nP nS : Nat} {u0 v0 u v w : St} (h : RR nC nP nS u0 v0) (D : DR u v) (FU1 : FrU u0 u) (FW : FrW v0 v)
    (g1 : w.1 0 = v.1 12 ∧ w.1 1 = v.1 13 ∧ w.1 2 = v.1 14 ∧ w.1 3 = 0 ∧ w.1 4 = 0 ∧ w.1 5 = 0 ∧ w.1 11 = v.1 11)
    (g2 : ∀ c : Nat, c < 5 → w.2.1 0 c = v.2.1 14 c ∧ w.2.1 1 c = v.2.1 15 c ∧ w.2.1 2 c = v.2.1 16 c ∧ w.2.1 3 c = v.2.1 17 c) (g3 : ∀ c : Nat, c < 4 → w.2.1 4 c = v.2.1 18 c ∧ w.2.1 5 c = v.2.1 19 c) (g4 : ∀ c : Nat, c < 12 → w.2.1 6 c = v.2.1 20 c)
    (g5 : ∀ x : Nat, x < 24 → w.2.1 7 (1 + x) = v.2.1 13 x) (g6 : ∀ k : Nat, k < 507 → k = 0 ∨ 24 < k → w.2.1 7 k = 0) (g7 : w.2.1 9 0 = 0 ∧ w.2.1 9 1 = 0) (g8 : w.2.1 12 = v.2.1 12) (g9 : w.2.2 = v.2.2) : R (bgS u) w := by
  obtain ⟨-, -, -, X, -, J⟩ := h
  obtain ⟨nc, np, ns, ⟨d0, d1, d2⟩, ⟨d3, d4⟩, ⟨d5, d6⟩, ⟨d7, d8⟩, d9, d10, d11, d12⟩ := D
  have c16 : ∀ x, x < 24 → (bcS u).2.1 16 x = v.2.1 13 x := fun x hx => by
    rw [show (bcS u).2.1 16 = va_cpy (u.2.1 1) (u.2.1 16) 0 0 24 from (rwS_out (by omega)).trans ((rwS_out (by omega)).trans ((rwS_out (by omega)).trans sA_eq)), cpy0 hx]; exact d9 x hx
  have c17 : ∀ c k, c < 5 → k < 4 → (bcS u).2.1 (17 + c) k = u.2.1 (2 + c) k := fun c k hc hk => by
    rw [show (bcS u).2.1 (17 + c) = (rwS 17 2 4 5 (sA u 16 (va_cpy (u.2.1 1) (u.2.1 16) 0 0 24))).2.1 (17 + c) from (rwS_out (by omega)).trans (rwS_out (by omega)), rwS_in hc, cpy0 hk, sA_ne (by omega)]
  have c22 : ∀ c k, c < 4 → k < 2 → (bcS u).2.1 (22 + c) k = u.2.1 (7 + c) k := fun c k hc hk => by
    rw [show (bcS u).2.1 (22 + c) = (rwS 22 7 2 4 (rwS 17 2 4 5 (sA u 16 (va_cpy (u.2.1 1) (u.2.1 16) 0 0 24)))).2.1 (22 + c) from rwS_out (by omega), rwS_in hc, cpy0 hk, rwS_out (by omega), sA_ne (by omega)]
  have c26 : ∀ c k, c < 4 → k < 3 → (bcS u).2.1 (26 + c) k = u.2.1 (11 + c) k := fun c k hc hk => by
    rw [show (bcS u).2.1 (26 + c) = (rwS 26 11 3 4 (rwS 22 7 2 4 (rwS 17 2 4 5 (sA u 16 (va_cpy (u.2.1 1) (u.2.1 16) 0 0 24))))).2.1 (26 + c) from rfl, rwS_in hc, cpy0 hk, rwS_out (by omega), rwS_out (by omega), sA_ne (by omega)]
  have o30 : ∀ x, x < 24 → (bgS u).2.1 30 x = v.2.1 13 x := fun x hx => by
    rw [bgS_row, show (ovS (bcS u)).2.1 30 = va_cpy ((bcS u).2.1 16) ((bcS u).2.1 30) 0 0 24 from (rmR_out (by omega)).trans sA_eq, cpy0 hx]; exact c16 x hx
  have o31 : ∀ c p, c < 5 → (bgS u).2.1 (31 + c) p = 0 := fun c p hc => by
    rw [bgS_row, show (ovS (bcS u)).2.1 (31 + c) = (fun _ => 0) from rmR_in hc]
  have oo : ∀ j, j < 30 → (bgS u).2.1 j = (bcS u).2.1 j := fun j hj => ovS_row _ (by omega)
  have z7 : ∀ c p, c < 5 → p < 4 → w.2.1 7 (25 + 4 * c + p) = 0 := fun c p hc hp => g6 _ (by omega) (by omega)
  refine ⟨nc, np, ns, ⟨⟨d0, d1, d2⟩, ⟨d3, g1.1.trans d4⟩, ⟨d5, g1.2.1.trans d6⟩, ⟨d7, g1.2.2.1.trans d8⟩, fun c hc => ?_, fun p hp => ?_, fun s hs => ?_⟩, ⟨0, ⟨?_, ?_, fun x hx => ?_, fun c p hc hp => ?_⟩, by omega, rfl, g6 46 (by omega) (by omega), fun j hj => ?_, fun j hj => absurd hj (by omega)⟩, ⟨0, by omega, rfl, ⟨g7.1, fun q => by cases q⟩, g7.2, fun q => by cases q⟩, ⟨⟨0, by omega, rfl, g1.2.2.2.2.2.1⟩, ?_, ?_⟩, ⟨⟨0, by omega, rfl, g1.2.2.2.1, fun k hk => absurd hk (by omega)⟩, 0, by omega, rfl, g1.2.2.2.2.1, fun k hk => absurd hk (by omega)⟩, ?_⟩
  · rw [oo _ (by omega), c17 c 0 (by omega) (by omega), c17 c 1 (by omega) (by omega), c17 c 2 (by omega) (by omega), c17 c 3 (by omega) (by omega), (g2 c (by omega)).1, (g2 c (by omega)).2.1, (g2 c (by omega)).2.2.1, (g2 c (by omega)).2.2.2]
    exact d10 c hc
  · rw [oo _ (by omega), c22 p 0 (by omega) (by omega), c22 p 1 (by omega) (by omega), (g3 p (by omega)).1, (g3 p (by omega)).2]
    exact d11 p hp
  · rw [oo _ (by omega), c26 s 0 (by omega) (by omega), c26 s 1 (by omega) (by omega), c26 s 2 (by omega) (by omega), g4 _ (by omega), g4 _ (by omega), g4 _ (by omega)]
    exact d12 s hs
  · exact (g6 0 (by omega) (by omega)).symm
  · exact (g6 45 (by omega) (by omega)).symm
  · exact (o30 x hx).trans (g5 x hx).symm
  · exact (o31 c p hc).trans (z7 c p hc hp).symm
  · rw [show j = 0 by omega, sn_eq]
    exact ⟨⟨0, by omega, g6 0 (by omega) (by omega), fun c p hc hp => ⟨0, by omega, z7 c p hc hp, fun _ => rfl⟩⟩, 0, Nat.two_pow_pos _, g6 45 (by omega) (by omega)⟩
  · rw [show (bgS u).2.1 0 = u.2.1 0 from (oo 0 (by omega)).trans (bcS_row u (by omega)), g8, FU1.2.1 0 (by omega), FW.2.1 12 (by omega)]
    exact X.2.1
  · intro i
    rw [show (bgS u).2.1 0 = u.2.1 0 from (oo 0 (by omega)).trans (bcS_row u (by omega)), FU1.2.1 0 (by omega)]
    exact X.2.2 i
  · show u.2.2 = w.2.2
    rw [g9, FU1.2.2, FW.2.2]; exact J
theorem diocese_ok {nC nP nS : Nat} (h : RR nC nP nS u v) : Wo (f_X7_diocese u) (f_X8_diocese v) := by
  obtain ⟨T, P, I, ⟨⟨n, hn, t1, t2⟩, t3, t4⟩, C, J⟩ := h
  have h : RR nC nP nS u v := ⟨T, P, I, ⟨⟨n, hn, t1, t2⟩, t3, t4⟩, C, J⟩
  unfold f_X7_diocese f_X8_diocese f_X4_readAll f_X1_empty f_X5_rewind
  rw [Option.bind_some, Option.bind_some, zero32]
  obtain ⟨u0, hu0⟩ : ∃ w, w = sI (sI (sI (sI (sA u 1 (fun _ => 0)) 4 0) 5 0) 6 0) 1 0 := ⟨_, rfl⟩
  obtain ⟨v0, hv0⟩ : ∃ w, w = sA (sI (sI (sI (sI (sI (sI v 6 0) 10 0) 11 0) 12 0) 13 0) 14 0) 13 (fun p => if p < 24 then 0 else (sI (sI (sI (sI (sI (sI v 6 0) 10 0) 11 0) 12 0) 13 0) 14 0).2.1 13 p) := ⟨_, rfl⟩
  rw [← hu0, ← hv0]
  have PU0 : PU (u.2.1 0) n 0 u0 := by rw [hu0]; exact ⟨t1, rfl, rfl⟩
  obtain ⟨v1, e1, s1, s2, s3⟩ := tokV (b := u.2.1 0) (a := 0) hn (by omega) v0 (by rw [hv0]; exact t2) (by rw [hv0]; exact t3.symm) t4 (by rw [hv0]; rfl)
  rw [e1, Option.bind_some]
  have F0 : FrU u u0 := by rw [hu0]; exact ⟨fun k hk => (if_neg (by omega)).trans ((if_neg (by omega)).trans ((if_neg (by omega)).trans (if_neg (by omega)))), fun j hj => sA_ne (by omega), rfl⟩
  have W0 : FrW v v0 := by rw [hv0]; exact ⟨fun k hk => (if_neg (by omega)).trans ((if_neg (by omega)).trans ((if_neg (by omega)).trans ((if_neg (by omega)).trans ((if_neg (by omega)).trans (if_neg (by omega)))))), fun j hj => sA_ne (by omega), rfl⟩
  have W1 : FrW v v1 := W0.tr ⟨fun k hk => s2 k (by omega), fun j _ => by rw [s3], by rw [s3]⟩
  have vz : v0.1 10 = 0 ∧ v0.1 11 = 0 ∧ v0.1 12 = 0 ∧ v0.1 13 = 0 ∧ v0.1 14 = 0 := by rw [hv0]; exact ⟨rfl, rfl, rfl, rfl, rfl⟩
  have D0 : DR u0 v1 := by
    refine ⟨0, 0, 0, ⟨by omega, by omega, by omega⟩, ⟨by rw [hu0]; rfl, (s2 12 (by omega)).trans vz.2.2.1⟩, ⟨by rw [hu0]; rfl, (s2 13 (by omega)).trans vz.2.2.2.1⟩, ⟨by rw [hu0]; rfl, (s2 14 (by omega)).trans vz.2.2.2.2⟩, fun x hx => ?_, fun c hc => absurd hc (by omega), fun c hc => absurd hc (by omega), fun c hc => absurd hc (by omega)⟩
    rw [s3, hv0, sA_eq, if_pos hx, hu0]; rfl
  have A := all_r (b := u.2.1 0) hn t4 (fun u55 =>
      if (u55.1 10) = 0 then
        Option.bind (f_X8_settles u55) fun r102 =>
        some ((r102.1 11), r102)
      else
        some (((-10) - (u55.1 7)), u55)) n 0 0 FU FU u0 v1 (by omega) (FU_gt (by omega)) (FU_gt (by omega)) (by omega) (by omega) PU0 ⟨(s2 5 (by omega)).trans (by rw [hv0]; exact t2), by rw [s3, hv0]; exact t3.symm, s1⟩ ((s2 10 (by omega)).trans vz.1) ((s2 11 (by omega)).trans vz.2.1) D0
  rcases A with ⟨x, u', v', w1, w2, w3, w4, w5, w6, w7, w8⟩ | ⟨s, u', v', w1, w2, w3, w4, w5, w6, w7⟩
  · rw [show L_X4_readAll_13 (fun x2 u13 => some (x2, u13)) FU 0 u0 = some (nI x, u') from w2, w3, Option.bind_some]
    dsimp only
    obtain ⟨w, e2, g1, g2, g3, g4, g5, g6, g7, g8, g9⟩ := settles_ok v'
    rw [if_pos w4, if_pos (nI_pos' (show x < 2 ^ 31 by omega)), e2, Option.bind_some]
    unfold f_X6_beginWith
    rw [become_ok, Option.bind_some, over_ok, Option.bind_some, Option.bind_some]
    unfold f_X0_drop f_X5_empty
    rw [Option.bind_some, Option.bind_some]
    refine ⟨nI x, bgS u', w, rfl, by rw [g1.2.2.2.2.2.2, w5], bg_R h w6 (F0.tr w7) (W1.tr w8) g1 g2 g3 g4 g5 g6 g7 g8 g9⟩
  · rw [show L_X4_readAll_13 (fun x2 u13 => some (x2, u13)) FU 0 u0 = some (-10 - nI s, u') from w2, w3, Option.bind_some]
    dsimp only
    rw [if_neg (show ¬ v'.1 10 = 0 by rw [w4]; decide)]
    have hneg : ¬ 0 ≤ -10 - nI s := by
      have e : (-10 : Int32) - nI s = nI 0 - nI (10 + s) := by
        rw [← nI_add, show nI 10 = (10 : Int32) from rfl, show nI 0 = (0 : Int32) from rfl]; grind
      rw [e]
      exact Int32.not_le.mpr (pk_sneg (a := 0) (b := 10 + s) (by omega) (by omega))
    rw [if_neg hneg]
    have Fu : FrU u u' := F0.tr w6
    have Fv : FrW v v' := W1.tr w7
    refine ⟨-10 - nI s, u', v', rfl, by rw [w5], nC, nP, nS, ?_, ?_, ?_, ?_, ?_, ?_⟩
    · exact T.fr (fun k h1 h2 => Fu.1 k (by omega)) (fun k h1 h2 => Fu.2.1 k (by omega)) (fun k h1 => Fv.1 k (by omega)) (fun k h1 => Fv.2.1 k (by omega))
    · exact P.fr (fun k h1 h2 => Fu.1 k (by omega)) (fun k h1 h2 => Fu.2.1 k (by omega)) (Fv.2.1 7 (by omega))
    · exact I.fr (fun k h1 h2 => Fu.1 k (by omega)) (fun k h1 h2 => Fu.2.1 k (by omega)) (fun k h1 h2 => Fv.2.1 k (by omega))
    · exact Tx.fr ⟨⟨n, hn, t1, t2⟩, t3, t4⟩ (Fu.1 0 (by omega)) (Fu.2.1 0 (by omega)) (Fv.1 5 (by omega)) (Fv.2.1 12 (by omega))
    · exact C.fr (fun k h1 h2 => Fu.1 k (by omega)) (fun k h1 h2 => Fu.2.1 k (by omega)) (fun k h1 h2 => Fv.1 k (by omega)) (fun k h1 h2 => Fv.2.1 k (by omega))
    · exact Fu.2.2.trans (J.trans Fv.2.2.symm)
end DI
