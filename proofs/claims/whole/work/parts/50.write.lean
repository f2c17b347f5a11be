-- ===== the smaller writers =====
abbrev Wo (a b : Option (Int32 × St)) : Prop := ∃ (r : Int32) (u' v' : St), a = some (r, u') ∧ b = some (r, v') ∧ R u' v'
section WR
variable {nC nP nS : Nat} {u v : St}
theorem Wo.same {r : Int32} (h : RR nC nP nS u v) : Wo (some (r, u)) (some (r, v)) := ⟨r, u, v, rfl, rfl, nC, nP, nS, h⟩
theorem type_ok (h : RR nC nP nS u v) (x : Int32) : Wo (f_X7_type u x) (f_X8_type v x) := by
  unfold f_X7_type f_X8_type
  rw [in_eq]
  rcases in_cases x 0 255 with ⟨e, hx, -⟩ | e
  · rw [e, Option.bind_some, Option.bind_some, i1, i1]
    obtain ⟨T, P, I, ⟨⟨n, hn, t1, t2⟩, t3⟩, C, J⟩ := h
    unfold f_X5_append
    rw [t1, t2]
    by_cases q : n < 150
    · rw [if_pos (show nI n < 150 from nI_lt (b := 150) q (by omega)), oobF q (by decide), fT, Option.bind_some, if_neg (show ¬ nI n = 150 from fun k => by have := (nI_eq (b := 150) (by omega) (by omega)).mp k; omega), fT, tc_nI (by omega), i1]
      refine ⟨nI n + 1, _, _, rfl, rfl, nC, nP, nS, ?_, ?_, ?_, ?_, ?_, J⟩
      · exact T.fr (fun k h1 h2 => if_neg (by omega)) (fun k h1 h2 => if_neg (by omega)) (fun k h1 => if_neg (by omega)) (fun k h1 => if_neg (by omega))
      · exact P.fr (fun k h1 h2 => if_neg (by omega)) (fun k h1 h2 => if_neg (by omega)) rfl
      · exact I.fr (fun k h1 h2 => if_neg (by omega)) (fun k h1 h2 => if_neg (by omega)) (fun k h1 h2 => if_neg (by omega))
      · refine ⟨⟨n + 1, by omega, nI_1 n, nI_1 n⟩, ?_⟩
        show upd (u.2.1 0) n x = upd (v.2.1 12) n x ∧ ∀ i, 0 ≤ upd (u.2.1 0) n x i
        refine ⟨by rw [t3.1], fun i => ?_⟩
        show 0 ≤ (if i = n then x else u.2.1 0 i)
        split
        · exact hx
        · exact t3.2 i
      · exact C.fr (fun k h1 h2 => if_neg (by omega)) (fun k h1 h2 => if_neg (by omega)) (fun k h1 h2 => if_neg (by omega)) (fun k h1 h2 => if_neg (by omega))
    · have hn' : n = 150 := by omega
      subst hn'
      rw [if_neg (show ¬ nI 150 < 150 by decide), Option.bind_some, if_pos (show nI 150 = 150 from rfl), i0]
      exact Wo.same ⟨T, P, I, ⟨⟨150, hn, t1, t2⟩, t3⟩, C, J⟩
  · rw [e, Option.bind_some, Option.bind_some, i0, i0]
    exact Wo.same h
theorem clear_w (h : RR nC nP nS u v) : Wo (f_X7_clear u) (f_X8_clear v) := by
  obtain ⟨T, P, I, ⟨⟨n, hn, t1, t2⟩, t3⟩, C, J⟩ := h
  unfold f_X7_clear f_X8_clear f_X5_empty
  rw [Option.bind_some, t1, t2]
  refine ⟨nI n, _, _, rfl, rfl, nC, nP, nS, ?_, ?_, ?_, ?_, ?_, J⟩
  · exact T.fr (fun k h1 h2 => if_neg (by omega)) (fun k h1 h2 => rfl) (fun k h1 => if_neg (by omega)) (fun k h1 => rfl)
  · exact P.fr (fun k h1 h2 => if_neg (by omega)) (fun k h1 h2 => rfl) rfl
  · exact I.fr (fun k h1 h2 => if_neg (by omega)) (fun k h1 h2 => rfl) (fun k h1 h2 => rfl)
  · exact ⟨⟨0, by omega, rfl, rfl⟩, t3⟩
  · exact C.fr (fun k h1 h2 => if_neg (by omega)) (fun k h1 h2 => rfl) (fun k h1 h2 => if_neg (by omega)) (fun k h1 h2 => rfl)
theorem forget_ok (h : RR nC nP nS u v) : Wo (f_X7_forget u) (f_X8_forget v) := by
  obtain ⟨T, P, I, X, ⟨⟨f, f1, f2, f3, f4⟩, m, m1, m2, m3, m4⟩, J⟩ := h
  unfold f_X7_forget f_X8_forget f_X0_drop
  rw [Option.bind_some, f2, f3, m2, m3]
  refine ⟨nI f + nI m, _, _, rfl, rfl, nC, nP, nS, ?_, ?_, ?_, ?_, ?_, J⟩
  · exact T.fr (fun k h1 h2 => (if_neg (by omega)).trans (if_neg (by omega))) (fun k h1 h2 => rfl) (fun k h1 => (if_neg (by omega)).trans (if_neg (by omega))) (fun k h1 => rfl)
  · exact P.fr (fun k h1 h2 => (if_neg (by omega)).trans (if_neg (by omega))) (fun k h1 h2 => rfl) rfl
  · exact I.fr (fun k h1 h2 => (if_neg (by omega)).trans (if_neg (by omega))) (fun k h1 h2 => rfl) (fun k h1 h2 => rfl)
  · exact X.fr rfl rfl rfl rfl
  · exact ⟨⟨0, by omega, rfl, rfl, fun k hk => absurd hk (by omega)⟩, 0, by omega, rfl, rfl, fun k hk => absurd hk (by omega)⟩
theorem faced_ok (h : RR nC nP nS u v) (x y : Int32) : Wo (f_X7_faced u x y) (f_X8_faced v x y) := by
  unfold f_X7_faced f_X8_faced
  rw [in_eq]
  rcases hour_cases x with ⟨e1, e2, -⟩ | ⟨e1, e2⟩
  · rw [e1, e2, Option.bind_some, Option.bind_some, i1, i1]
    rcases in_cases y 0 1 with ⟨e, -, -⟩ | e
    · rw [e, Option.bind_some, Option.bind_some, i1, i1]
      obtain ⟨T, P, I, X, ⟨⟨f, f1, f2, f3, f4⟩, M⟩, J⟩ := h
      unfold f_X0_addFaced
      rw [f2, f3]
      by_cases q : f < 6
      · rw [if_pos (show nI f < 6 from nI_lt (b := 6) q (by omega)), oobF q (by decide), fT, Option.bind_some, if_neg (show ¬ nI f = 6 from fun k => by have := (nI_eq (b := 6) (by omega) (by omega)).mp k; omega), show (2 : Int32) * nI f = nI (2 * f) from pk_mul 2 f, show nI (2 * f) + 1 = nI (2 * f + 1) from nI_1 _, oobF (show 2 * f < 12 by omega) (by decide), oobF (show 2 * f + 1 < 12 by omega) (by decide), fT, fT, i1]
        simp only [tc_nI (show f < 2 ^ 31 by omega), tc_nI (show 2 * f < 2 ^ 31 by omega), tc_nI (show 2 * f + 1 < 2 ^ 31 by omega)]
        refine ⟨nI f + 1, _, _, rfl, rfl, nC, nP, nS, ?_, ?_, ?_, ?_, ⟨⟨f + 1, by omega, nI_1 f, nI_1 f, fun k hk => ?_⟩, ?_⟩, J⟩
        · exact T.fr (fun k h1 h2 => if_neg (by omega)) (fun k h1 h2 => (if_neg (by omega)).trans (if_neg (by omega))) (fun k h1 => if_neg (by omega)) (fun k h1 => (if_neg (by omega)).trans (if_neg (by omega)))
        · exact P.fr (fun k h1 h2 => if_neg (by omega)) (fun k h1 h2 => (if_neg (by omega)).trans (if_neg (by omega))) rfl
        · exact I.fr (fun k h1 h2 => if_neg (by omega)) (fun k h1 h2 => (if_neg (by omega)).trans (if_neg (by omega))) (fun k h1 h2 => (if_neg (by omega)).trans (if_neg (by omega)))
        · exact X.fr rfl rfl rfl rfl
        · show (if k = f then x else u.2.1 39 k) = (if 2 * k = 2 * f + 1 then y else if 2 * k = 2 * f then x else v.2.1 10 (2 * k)) ∧ (if k = f then y else u.2.1 40 k) = (if 2 * k + 1 = 2 * f + 1 then y else if 2 * k + 1 = 2 * f then x else v.2.1 10 (2 * k + 1))
          by_cases w : k = f
          · rw [if_pos w, if_neg (by omega), if_pos (by omega), if_pos w, if_pos (by omega)]; exact ⟨rfl, rfl⟩
          · rw [if_neg w, if_neg (by omega), if_neg (by omega), if_neg w, if_neg (by omega), if_neg (by omega)]; exact f4 k (by omega)
        · obtain ⟨m, m1, m2, m3, m4⟩ := M
          exact ⟨m, m1, m2, m3, m4⟩
      · have hn' : f = 6 := by omega
        subst hn'
        rw [if_neg (show ¬ nI 6 < 6 by decide), Option.bind_some, if_pos (show nI 6 = 6 from rfl), i0]
        exact Wo.same ⟨T, P, I, X, ⟨⟨6, f1, f2, f3, f4⟩, M⟩, J⟩
    · rw [e, Option.bind_some, Option.bind_some, i0, i0]; exact Wo.same h
  · rw [e1, e2, Option.bind_some, Option.bind_some, i0, i0]; exact Wo.same h
theorem met_ok (h : RR nC nP nS u v) (x y : Int32) : Wo (f_X7_met u x y) (f_X8_met v x y) := by
  unfold f_X7_met f_X8_met
  rcases cell_cases x with ⟨e1, e2, -⟩ | ⟨e1, e2⟩
  · rw [e1, e2, Option.bind_some, Option.bind_some, i1, i1]
    rcases hour_cases y with ⟨e3, e4, -⟩ | ⟨e3, e4⟩
    · rw [e3, e4, Option.bind_some, Option.bind_some, i1, i1]
      obtain ⟨T, P, I, X, ⟨M, ⟨f, f1, f2, f3, f4⟩⟩, J⟩ := h
      unfold f_X0_addMet
      rw [f2, f3]
      by_cases q : f < 6
      · rw [if_pos (show nI f < 6 from nI_lt (b := 6) q (by omega)), oobF q (by decide), fT, Option.bind_some, if_neg (show ¬ nI f = 6 from fun k => by have := (nI_eq (b := 6) (by omega) (by omega)).mp k; omega), show (2 : Int32) * nI f = nI (2 * f) from pk_mul 2 f, show nI (2 * f) + 1 = nI (2 * f + 1) from nI_1 _, oobF (show 2 * f < 12 by omega) (by decide), oobF (show 2 * f + 1 < 12 by omega) (by decide), fT, fT, i1]
        simp only [tc_nI (show f < 2 ^ 31 by omega), tc_nI (show 2 * f < 2 ^ 31 by omega), tc_nI (show 2 * f + 1 < 2 ^ 31 by omega)]
        refine ⟨nI f + 1, _, _, rfl, rfl, nC, nP, nS, ?_, ?_, ?_, ?_, ⟨?_, f + 1, by omega, nI_1 f, nI_1 f, fun k hk => ?_⟩, J⟩
        · exact T.fr (fun k h1 h2 => if_neg (by omega)) (fun k h1 h2 => (if_neg (by omega)).trans (if_neg (by omega))) (fun k h1 => if_neg (by omega)) (fun k h1 => (if_neg (by omega)).trans (if_neg (by omega)))
        · exact P.fr (fun k h1 h2 => if_neg (by omega)) (fun k h1 h2 => (if_neg (by omega)).trans (if_neg (by omega))) rfl
        · exact I.fr (fun k h1 h2 => if_neg (by omega)) (fun k h1 h2 => (if_neg (by omega)).trans (if_neg (by omega))) (fun k h1 h2 => (if_neg (by omega)).trans (if_neg (by omega)))
        · exact X.fr rfl rfl rfl rfl
        · obtain ⟨m, m1, m2, m3, m4⟩ := M
          exact ⟨m, m1, m2, m3, m4⟩
        · show (if k = f then x else u.2.1 41 k) = (if 2 * k = 2 * f + 1 then y else if 2 * k = 2 * f then x else v.2.1 11 (2 * k)) ∧ (if k = f then y else u.2.1 42 k) = (if 2 * k + 1 = 2 * f + 1 then y else if 2 * k + 1 = 2 * f then x else v.2.1 11 (2 * k + 1))
          by_cases w : k = f
          · rw [if_pos w, if_neg (by omega), if_pos (by omega), if_pos w, if_pos (by omega)]; exact ⟨rfl, rfl⟩
          · rw [if_neg w, if_neg (by omega), if_neg (by omega), if_neg w, if_neg (by omega), if_neg (by omega)]; exact f4 k (by omega)
      · have hn' : f = 6 := by omega
        subst hn'
        rw [if_neg (show ¬ nI 6 < 6 by decide), Option.bind_some, if_pos (show nI 6 = 6 from rfl), i0]
        exact Wo.same ⟨T, P, I, X, ⟨M, ⟨6, f1, f2, f3, f4⟩⟩, J⟩
    · rw [e3, e4, Option.bind_some, Option.bind_some, i0, i0]; exact Wo.same h
  · rw [e1, e2, Option.bind_some, Option.bind_some, i0, i0]; exact Wo.same h
theorem RR.trace (h : RR nC nP nS u v) {x y : Int64} (e : x = y) : RR nC nP nS (sJ u x) (sJ v y) := by
  obtain ⟨T, P, I, X, C, J⟩ := h
  refine ⟨T.fr (fun k _ _ => rfl) (fun k _ _ => rfl) (fun k _ => rfl) (fun k _ => rfl), P.fr (fun k _ _ => rfl) (fun k _ _ => rfl) rfl, I.fr (fun k _ _ => rfl) (fun k _ _ => rfl) (fun k _ _ => rfl), X.fr rfl rfl rfl rfl, C.fr (fun k _ _ => rfl) (fun k _ _ => rfl) (fun k _ _ => rfl) (fun k _ _ => rfl), e⟩
theorem in5 (x : Int32) : (f_X8_in x 0 5 = some 1 ∧ (x = 0 ∨ x = 1 ∨ x = 2 ∨ x = 3 ∨ x = 4 ∨ x = 5)) ∨ (f_X8_in x 0 5 = some 0 ∧ ¬ x = 0 ∧ ¬ x = 1 ∧ ¬ x = 2 ∧ ¬ x = 3 ∧ ¬ x = 4 ∧ ¬ x = 5) := by
  rcases in_cases x 0 5 with ⟨e, h1, h2⟩ | e
  · left
    obtain ⟨j, hj, rfl⟩ := rng (n := 5) (by decide) h1 h2
    refine ⟨e, ?_⟩
    rcases (show j = 0 ∨ j = 1 ∨ j = 2 ∨ j = 3 ∨ j = 4 ∨ j = 5 by omega) with e | e | e | e | e | e <;> rw [e] <;> decide
  · right
    refine ⟨e, fun q => ?_, fun q => ?_, fun q => ?_, fun q => ?_, fun q => ?_, fun q => ?_⟩ <;> rw [q] at e <;> revert e <;> decide
theorem mark_ok (h : RR nC nP nS u v) (x y : Int32) : Wo (f_X7_mark u x y) (f_X8_mark v x y) := by
  have hT := h.1
  unfold f_X7_mark f_X8_mark
  rcases cock_cases h.1 y with ⟨e1, e2, c, hc, rfl⟩ | ⟨e1, e2⟩
  · have hc5 : c < 5 := by have := h.1.1.1; omega
    obtain ⟨q0, q1, q2, q3, ⟨j, hj, q4⟩, q5⟩ := h.1.2.2.2.2.1 c hc
    have K : ∀ t : Int64, f_X6_eyeOf (sJ u t) (nI c) = f_X8_eye v (nI c) ∧ f_X3_tellingOf (sJ u t) (nI c) = f_X8_sawBy v (1 <<< (nI c &&& 31)) := fun t => by
      have h' := h.trace (x := t) (y := t) rfl
      have T' : Tr nC nP nS (sJ u t) v := h'.1.fr (fun k _ _ => rfl) (fun k _ _ => rfl) (fun k _ => rfl) (fun k _ => rfl)
      have P' : Pn nC nP (sJ u t) v := h'.2.1.fr (fun k _ _ => rfl) (fun k _ _ => rfl) rfl
      obtain ⟨x0, -, -, k1, k2⟩ := eye_ok T' P' hc
      exact ⟨k1.trans k2.symm, (tell_ok T' P' hc5).1.trans (tell_ok T' P' hc5).2.symm⟩
    obtain ⟨x0, -, -, -, k2⟩ := eye_ok h.1 h.2.1 hc
    have k3 := (tell_ok h.1 h.2.1 hc5).2
    have J : u.2.2 = v.2.2 := h.2.2.2.2.2
    rw [e1, e2, Option.bind_some, i1]
    have hh : ∀ t : Int64, (sJ u t).2.2 = t := fun _ => rfl
    have h1 : ∀ t : Int64, (sJ u t).1 = u.1 := fun _ => rfl
    have h2 : ∀ t : Int64, (sJ u t).2.1 = u.2.1 := fun _ => rfl
    have hs : ∀ t t' : Int64, sJ (sJ u t) t' = sJ u t' := fun _ _ => rfl
    rcases in5 x with ⟨e, h6⟩ | ⟨e, n0, n1, n2, n3, n4, n5⟩
    · rw [e, Option.bind_some, i1, Option.bind_some, i1, k2, k3, Option.bind_some, Option.bind_some, oobF hc5 (by decide), fT, tc_nI (by omega)]
      unfold f_X2_markAs
      rcases h6 with rfl | rfl | rfl | rfl | rfl | rfl
      · simp only [f_X2_markAsCock, (K _).1, k2, Option.bind_some, hs, hh]
        exact ⟨_, _, _, rfl, rfl, nC, nP, nS, h.trace (by rw [J])⟩
      · simp only [f_X2_markAsGold, f_X2_markAsCock, (K _).1, (K _).2, k2, k3, Option.bind_some, hs, hh]
        exact ⟨_, _, _, rfl, rfl, nC, nP, nS, h.trace (by rw [J]; grind)⟩
      · simp only [f_X2_markAsIron, f_X2_markAsCock, (K _).1, (K _).2, k2, k3, Option.bind_some, hs, hh, h2, oobF hc5 (show 5 < 2 ^ 31 by decide), fT, tc_nI (show c < 2 ^ 31 by omega), q0]
        exact ⟨_, _, _, rfl, rfl, nC, nP, nS, h.trace (by rw [J]; grind)⟩
      · simp only [f_X2_markAsDean, f_X2_markAsGold, f_X2_markAsCock, (K _).1, (K _).2, k2, k3, Option.bind_some, hs, hh]
        rw [Int32.mul_comm 2]
        exact ⟨_, _, _, rfl, rfl, nC, nP, nS, h.trace (by rw [J]; grind)⟩
      · simp only [f_X2_markAsBarn, f_X2_markAsIron, f_X2_markAsCock, (K _).1, (K _).2, k2, k3, Option.bind_some, hs, hh, h2, oobF hc5 (show 5 < 2 ^ 31 by decide), fT, tc_nI (show c < 2 ^ 31 by omega), q0]
        exact ⟨_, _, _, rfl, rfl, nC, nP, nS, h.trace (by rw [J]; grind)⟩
      · simp only [f_X2_markAsZinc, f_X2_markAsCock, (K _).1, (K _).2, k2, k3, Option.bind_some, hs, hh, h1, h.2.1.b.1]
        exact ⟨_, _, _, rfl, rfl, nC, nP, nS, h.trace (by rw [J]; grind)⟩
    · rw [e, Option.bind_some, i0]
      unfold f_X2_markAs
      rw [if_neg n0, if_neg n1, if_neg n2, if_neg n3, if_neg n4, if_neg n5, Option.bind_some]
      exact Wo.same h
  · rw [e1, e2, Option.bind_some, i0]
    rcases in5 x with ⟨e, -⟩ | ⟨e, -⟩ <;> rw [e, Option.bind_some]
    · rw [i1, Option.bind_some, i0]; exact Wo.same h
    · rw [i0]; exact Wo.same h
end WR
