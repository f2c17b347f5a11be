-- ===== the plain readers =====
theorem i1 {α : Type} (a b : α) : (if (1 : Int32) = 0 then a else b) = b := if_neg (by decide)
theorem i0 {α : Type} (a b : α) : (if (0 : Int32) = 0 then a else b) = a := if_pos rfl
theorem fT {α : Type} (a b : α) : (if false = true then a else b) = b := if_neg (by decide)
theorem nbb (b : Bool) : (if nb (bI b) = true then some (bI b) else none) = some (bI b) := if_pos (bI_nb b)
abbrev Eo (a b : Option Int32) : Prop := ∃ r : Int32, a = some r ∧ b = some r
theorem nb_go1 : (if nb 1 then some (1 : Int32) else none) = some 1 := rfl
theorem nb_go0 : (if nb 0 then some (0 : Int32) else none) = some 0 := rfl
theorem cell_cases (x : Int32) : (f_X7_isCell x = some 1 ∧ f_X8_isCell x = some 1 ∧ ∃ j : Nat, j < 24 ∧ x = nI j) ∨ (f_X7_isCell x = some 0 ∧ f_X8_isCell x = some 0) := by
  unfold f_X7_isCell f_X8_isCell
  rw [in_eq]
  rcases in_cases x 0 23 with ⟨e, h1, h2⟩ | e
  · left; rw [e]
    obtain ⟨j, hj, e2⟩ := rng (n := 23) (by decide) h1 h2
    exact ⟨rfl, rfl, j, by omega, e2⟩
  · right; rw [e]; exact ⟨rfl, rfl⟩
theorem hour_cases (x : Int32) : (f_X7_isHour x = some 1 ∧ f_X8_isHour x = some 1 ∧ ∃ j : Nat, j < 30 ∧ x = nI j) ∨ (f_X7_isHour x = some 0 ∧ f_X8_isHour x = some 0) := by
  unfold f_X7_isHour f_X8_isHour
  rw [in_eq]
  rcases in_cases x 0 29 with ⟨e, h1, h2⟩ | e
  · left; rw [e]
    obtain ⟨j, hj, e2⟩ := rng (n := 29) (by decide) h1 h2
    exact ⟨rfl, rfl, j, by omega, e2⟩
  · right; rw [e]; exact ⟨rfl, rfl⟩
theorem cnt_in (x : Int32) {n : Nat} (hn : n < 1000) : (f_X8_in x 0 (nI n - 1) = some 1 ∧ ∃ j : Nat, j < n ∧ x = nI j) ∨ f_X8_in x 0 (nI n - 1) = some 0 := by
  rcases in_cases x 0 (nI n - 1) with ⟨e, h1, h2⟩ | e
  · left
    refine ⟨e, ?_⟩
    cases n with
    | zero => exact absurd (Int32.le_trans h1 h2) (by decide)
    | succ n =>
      rw [nI_pred] at h2
      obtain ⟨j, hj, e2⟩ := rng (n := n) (by omega) h1 h2
      exact ⟨j, by omega, e2⟩
  · exact Or.inr e
section RD
variable {nC nP nS : Nat} {u v : St}
theorem cock_cases (T : Tr nC nP nS u v) (x : Int32) : (f_X7_isCock u x = some 1 ∧ f_X8_isCock v x = some 1 ∧ ∃ j : Nat, j < nC ∧ x = nI j) ∨ (f_X7_isCock u x = some 0 ∧ f_X8_isCock v x = some 0) := by
  obtain ⟨⟨b1, b2, b3⟩, ⟨c1, c2⟩, -⟩ := T
  unfold f_X7_isCock f_X8_isCock
  rw [in_eq, c1, c2]
  rcases cnt_in x (n := nC) (by omega) with ⟨e, h⟩ | e
  · left; rw [e]; exact ⟨rfl, rfl, h⟩
  · right; rw [e]; exact ⟨rfl, rfl⟩
theorem one_cases (T : Tr nC nP nS u v) (x : Int32) : (f_X7_isOne u x = some 1 ∧ f_X8_isOne v x = some 1 ∧ ∃ j : Nat, j < nP ∧ x = nI j) ∨ (f_X7_isOne u x = some 0 ∧ f_X8_isOne v x = some 0) := by
  obtain ⟨⟨b1, b2, b3⟩, -, ⟨c1, c2⟩, -⟩ := T
  unfold f_X7_isOne f_X8_isOne
  rw [in_eq, c1, c2]
  rcases cnt_in x (n := nP) (by omega) with ⟨e, h⟩ | e
  · left; rw [e]; exact ⟨rfl, rfl, h⟩
  · right; rw [e]; exact ⟨rfl, rfl⟩
theorem Pn.b (h : Pn nC nP u v) : Bq (u.1 10) (u.1 11) (u.2.1 30) (fun c => u.2.1 (31 + c)) (v.2.1 7) := h.elim fun _ q => q.1
theorem Pn.vb (h : Pn nC nP u v) : Vb nC nP (v.2.1 7) := h.elim fun d q => by have := q.2.2.2.2.1 d (Nat.le_refl d); rwa [sn_eq] at this
theorem roof_ok (P : Pn nC nP u v) (x : Int32) : Eo (f_X7_roof u x) (f_X8_roof v x) := by
  unfold f_X7_roof f_X8_roof
  rcases cell_cases x with ⟨e1, e2, j, hj, rfl⟩ | ⟨e1, e2⟩
  · rw [e1, e2]
    refine ⟨u.2.1 30 j, ?_, ?_⟩
    · rw [Option.bind_some, i1, oobF hj (by decide), tc_nI (by omega)]; rfl
    · rw [Option.bind_some, i1, show (1 : Int32) + nI j = nI (1 + j) from nI_add 1 j, oobF (show 1 + j < 507 by omega) (by decide), tc_nI (by omega), P.b.2.2.1 j hj]; rfl
  · rw [e1, e2]; exact ⟨-1, rfl, rfl⟩
theorem saw_ok (T : Tr nC nP nS u v) (P : Pn nC nP u v) (x y : Int32) : Eo (f_X7_saw u x y) (f_X8_saw v x y) := by
  unfold f_X7_saw f_X8_saw
  rcases cock_cases T x with ⟨e1, e2, c, hc, rfl⟩ | ⟨e1, e2⟩
  · rw [e1, e2]
    rcases one_cases T y with ⟨e3, e4, p, hp, rfl⟩ | ⟨e3, e4⟩
    · rw [e3, e4]
      have hc5 : c < 5 := by have := T.1.1; omega
      have hp4 : p < 4 := by have := T.1.2.1; omega
      refine ⟨u.2.1 (31 + c) p, ?_, ?_⟩
 
      · simp only [Option.bind_some, i1]
        rw [oobF hc5 (by decide), oobF hp4 (by decide), tc_nI (by omega), tc_nI (by omega)]; rfl
 
      · simp only [Option.bind_some, i1]
        rw [f_X8_sawOf]
        have e : (25 + 4 * nI c) + nI p = nI (25 + 4 * c + p) := by
          rw [show (4 : Int32) * nI c = nI (4 * c) from pk_mul 4 c, show (25 : Int32) + nI (4 * c) = nI (25 + 4 * c) from nI_add 25 _, nI_add]
        rw [e, oobF (show 25 + 4 * c + p < 507 by omega) (by decide), tc_nI (by omega), ← P.b.2.2.2 c p hc5 hp4]; rfl
    · rw [e3, e4]; exact ⟨-1, rfl, rfl⟩
  · rw [e1, e2]; exact ⟨-1, rfl, rfl⟩
theorem sideBy_eq (a b h : Int32) : f_X7_sideBy a b h = f_X8_sideBy a b h := by
  unfold f_X7_sideBy f_X8_sideBy
  by_cases q : 0 < b
  · rw [if_pos q, if_neg (Int32.not_le.mpr q)]
  · rw [if_neg q, if_pos (Int32.not_lt.mp q)]
theorem sideBy_some (a b h : Int32) (ha : a = 0 ∨ a = 1) : f_X8_sideBy a b h = some 0 ∨ f_X8_sideBy a b h = some 1 := by
  unfold f_X8_sideBy
  by_cases q : b ≤ 0
  · rw [if_pos q]; exact ha.imp (fun e => by rw [e]) fun e => by rw [e]
  · rw [if_neg q, if_neg (fun e => q (by rw [e]; exact Int32.le_refl 0))]
    by_cases q2 : ((h / b) - ((h / b) / 2) * 2) = 1
    · rw [if_pos q2]; exact ha.symm.imp (fun e => by rw [e]; rfl) fun e => by rw [e]; rfl
    · rw [if_neg q2]; exact ha.imp (fun e => by rw [e]) fun e => by rw [e]
theorem sideOf_ok (T : Tr nC nP nS u v) {c : Nat} (hc : c < nC) (h : Int32) : f_X1_sideOf u (nI c) h = f_X8_sideBy (v.2.1 2 c) (v.2.1 3 c) h ∧ (f_X8_sideBy (v.2.1 2 c) (v.2.1 3 c) h = some 0 ∨ f_X8_sideBy (v.2.1 2 c) (v.2.1 3 c) h = some 1) := by
  obtain ⟨e0, e1, e2, e3, e4, e5⟩ := T.2.2.2.2.1 c hc
  have hc5 : c < 5 := by have := T.1.1; omega
  have hs := sideBy_some (v.2.1 2 c) (v.2.1 3 c) h e5
  refine ⟨?_, hs⟩
  unfold f_X1_sideOf
  rw [oobF hc5 (by decide), tc_nI (by omega), e2, e3, sideBy_eq]
  rcases hs with q | q <;> rw [q] <;> rfl
theorem eye_ok (T : Tr nC nP nS u v) (P : Pn nC nP u v) {c : Nat} (hc : c < nC) : ∃ x : Nat, x < 24 ∧ v.2.1 0 c = nI x ∧ f_X6_eyeOf u (nI c) = some (v.2.1 7 (1 + x) + v.2.1 1 c) ∧ f_X8_eye v (nI c) = some (v.2.1 7 (1 + x) + v.2.1 1 c) := by
  obtain ⟨e0, e1, e2, e3, ⟨x, hx, e4⟩, e5⟩ := T.2.2.2.2.1 c hc
  have hc5 : c < 5 := by have := T.1.1; omega
  refine ⟨x, hx, e4, ?_, ?_⟩
  · unfold f_X6_eyeOf
    rw [oobF hc5 (by decide), tc_nI (by omega), e0, e1, e4, oobF hx (by decide), tc_nI (by omega), P.b.2.2.1 x hx]; rfl
  · unfold f_X8_eye
    rw [oobF hc5 (by decide), tc_nI (by omega), e4, show (1 : Int32) + nI x = nI (1 + x) from nI_add 1 x, oobF (show 1 + x < 507 by omega) (by decide), tc_nI (by omega)]; rfl
theorem asked_ok (T : Tr nC nP nS u v) (P : Pn nC nP u v) {c : Nat} (hc : c < 31) : ∃ a : Nat, a < 2 ^ nC ∧ u.1 11 = nI a ∧ v.2.1 7 45 = nI a ∧ f_X3_isAsked u (nI c) = some (bI (a.testBit c)) ∧ f_X8_isAsked v (nI c) = some (bI (a.testBit c)) := by
  obtain ⟨-, a, ha, e⟩ := P.vb
  have e2 : u.1 11 = nI a := P.b.2.1.trans e
  have hlt : a < 2 ^ 31 := Nat.lt_of_lt_of_le ha (Nat.pow_le_pow_right (by decide) (by have := T.1.1; omega))
  refine ⟨a, ha, e2, e, ?_, ?_⟩
  · unfold f_X3_isAsked
    rw [e2, n_in hlt hc]
    rw [Option.bind_some, nbb]
  · unfold f_X8_isAsked
    rw [e, isIn_has, n_in hlt hc]
    rw [Option.bind_some, nbb]
theorem cellOf_ok (T : Tr nC nP nS u v) {p : Nat} (hp : p < nP) (h : Int32) : f_X1_cellOf u (nI p) h = f_X8_walks v (nI p) h ∧ (f_X8_walks v (nI p) h = some (-9) ∨ ∃ j : Nat, j < 24 ∧ f_X8_walks v (nI p) h = some (nI j)) := by
  obtain ⟨e0, e1⟩ := T.2.2.2.2.2.1 p hp
  have hp4 : p < 4 := by have := T.1.2.1; omega
  unfold f_X1_cellOf f_X8_walks f_X7_placeBy
  rw [oobF hp4 (by decide), tc_nI (by omega), e0, e1]
  show (Option.bind (f_X7_isCell (v.2.1 4 p + h * v.2.1 5 p)) _ = Option.bind (f_X8_isCell (v.2.1 4 p + h * v.2.1 5 p)) _) ∧ (Option.bind (f_X8_isCell (v.2.1 4 p + h * v.2.1 5 p)) _ = _ ∨ ∃ j : Nat, j < 24 ∧ Option.bind (f_X8_isCell (v.2.1 4 p + h * v.2.1 5 p)) _ = _)
  rcases cell_cases (v.2.1 4 p + h * v.2.1 5 p) with ⟨q1, q2, j, hj, q3⟩ | ⟨q1, q2⟩
  · rw [q1, q2, q3]; exact ⟨rfl, Or.inr ⟨j, hj, rfl⟩⟩
  · rw [q1, q2]; exact ⟨rfl, Or.inl rfl⟩
theorem one_ok (T : Tr nC nP nS u v) (P : Pn nC nP u v) (x y : Int32) : Eo (f_X7_one u x y) (f_X8_one v x y) := by
  unfold f_X7_one f_X8_one
  rcases one_cases T x with ⟨e1, e2, p, hp, rfl⟩ | ⟨e1, e2⟩
  · rw [e1, e2]
    simp only [Option.bind_some, i1]
    obtain ⟨q0, q1⟩ := T.2.2.2.2.2.1 p hp
    have hp4 : p < 4 := by have := T.1.2.1; omega
    by_cases y0 : y = 0
    · subst y0
      rw [if_pos rfl, if_pos rfl, oobF hp4 (by decide), tc_nI (by omega), show (0 : Int32).toNatClampNeg = 0 from rfl, q0]
      exact ⟨_, rfl, rfl⟩
    · rw [if_neg y0, if_neg y0]
      by_cases y1 : y = 1
      · subst y1
        rw [if_pos rfl, if_pos rfl, oobF hp4 (by decide), tc_nI (by omega), show (1 : Int32).toNatClampNeg = 1 from rfl, q1]
        exact ⟨_, rfl, rfl⟩
      · rw [if_neg y1, if_neg y1]
        by_cases y2 : y = 2
        · rw [if_pos y2, if_pos y2, P.b.1]
          obtain ⟨k1, k2⟩ := cellOf_ok T hp (v.2.1 7 0)
          rw [k1]
          rcases k2 with k2 | ⟨j, _, k2⟩ <;> rw [k2] <;> exact ⟨_, rfl, rfl⟩
        · rw [if_neg y2, if_neg y2]; exact ⟨_, rfl, rfl⟩
  · rw [e1, e2]; exact ⟨_, rfl, rfl⟩
theorem count_ok (h : RR nC nP nS u v) (x : Int32) : Eo (f_X7_count u x) (f_X8_count v x) := by
  obtain ⟨T, P, -, ⟨⟨n, -, t1, t2⟩, -⟩, ⟨⟨f, -, f1, f2, -⟩, m, -, m1, m2, -⟩, -⟩ := h
  obtain ⟨d, p⟩ := P
  unfold f_X7_count f_X8_count
  rw [T.2.1.1, T.2.1.2, T.2.2.1.1, T.2.2.1.2, T.2.2.2.1.1, T.2.2.2.1.2, t1, t2, f1, f2, m1, m2, p.2.2.1, p.2.2.2.1]
  repeat' split
  all_goals exact ⟨_, rfl, rfl⟩
end RD
