-- ===== how much is known =====
def orN (s : Nat → Nat) (m n : Nat) : Nat := fu (fun c x => if m.testBit c then x ||| s c else x) n 0
def amN (s : Nat → Nat → Nat) (nC nP m : Nat) : Nat := fu (fun p t => t + pcN (orN (fun c => s c p) m nC) 30) nP 0
def As (nC nP : Nat) (s : Nat → Nat → Nat) : Prop := nC ≤ 5 ∧ nP ≤ 4 ∧ ∀ c p : Nat, c < 5 → p < 4 → s c p < 2 ^ 30 ∧ (nC ≤ c ∨ nP ≤ p → s c p = 0)
def Au (nC nP : Nat) (s : Nat → Nat → Nat) (u : St) : Prop := ∀ c p : Nat, c < 5 → p < 4 → u.2.1 (31 + c) p = nI (s c p)
def Av (nC nP : Nat) (s : Nat → Nat → Nat) (v : St) : Prop := ∀ c p : Nat, c < 5 → p < 4 → v.2.1 7 (25 + 4 * c + p) = nI (s c p)
theorem orN_tb {s : Nat → Nat} {m : Nat} (i : Nat) : ∀ n : Nat, (orN s m n).testBit i = true ↔ ∃ c, c < n ∧ m.testBit c = true ∧ (s c).testBit i = true
  | 0 => by
    show (0 : Nat).testBit i = true ↔ _
    rw [Nat.zero_testBit]
    exact ⟨fun h => Bool.noConfusion h, fun ⟨c, h, _⟩ => absurd h (Nat.not_lt_zero c)⟩
  | n + 1 => by
    have ih := orN_tb (s := s) (m := m) i n
    show (if m.testBit n then orN s m n ||| s n else orN s m n).testBit i = true ↔ _
    by_cases q : m.testBit n = true
    · rw [if_pos q, Nat.testBit_or, Bool.or_eq_true, ih]
      constructor
      · rintro (⟨c, h1, h2⟩ | h)
        · exact ⟨c, by omega, h2⟩
        · exact ⟨n, by omega, q, h⟩
      · rintro ⟨c, h1, h2, h3⟩
        by_cases e : c = n
        · right; rw [← e]; exact h3
        · left; exact ⟨c, by omega, h2, h3⟩
    · rw [if_neg q, ih]
      constructor
      · rintro ⟨c, h1, h2⟩; exact ⟨c, by omega, h2⟩
      · rintro ⟨c, h1, h2, h3⟩
        by_cases e : c = n
        · rw [e] at h2; exact absurd h2 q
        · exact ⟨c, by omega, h2, h3⟩
theorem orN_lt {s : Nat → Nat} {m k : Nat} : ∀ n : Nat, (∀ c, c < n → s c < 2 ^ k) → orN s m n < 2 ^ k
  | 0, _ => Nat.two_pow_pos k
  | n + 1, h => by
    have ih := orN_lt (s := s) (m := m) n fun c hc => h c (by omega)
    show (if m.testBit n then orN s m n ||| s n else orN s m n) < _
    by_cases q : m.testBit n = true
    · rw [if_pos q]; exact Nat.or_lt_two_pow ih (h n (by omega))
    · rw [if_neg q]; exact ih
theorem amN_le {s : Nat → Nat → Nat} {nC m : Nat} : ∀ n : Nat, amN s nC n m ≤ 30 * n
  | 0 => Nat.le_refl 0
  | n + 1 => by
    have ih := amN_le (s := s) (nC := nC) (m := m) n
    have := pcN_le (orN (fun c => s c n) m nC) 30
    show amN s nC n m + pcN (orN (fun c => s c n) m nC) 30 ≤ _
    omega
theorem amN_mono {s : Nat → Nat → Nat} {nC m m' : Nat} (h : ∀ c, c < nC → m.testBit c = true → m'.testBit c = true) : ∀ n : Nat, amN s nC n m ≤ amN s nC n m'
  | 0 => Nat.le_refl 0
  | n + 1 => by
    have ih := amN_mono (s := s) h n
    have : pcN (orN (fun c => s c n) m nC) 30 ≤ pcN (orN (fun c => s c n) m' nC) 30 := by
      apply pcN_mono
      intro i
      rw [orN_tb, orN_tb]
      rintro ⟨c, h1, h2, h3⟩
      exact ⟨c, h1, h c h1 h2, h3⟩
    show amN s nC n m + _ ≤ amN s nC n m' + _
    omega
section AM
variable {nC nP nS : Nat} {s : Nat → Nat → Nat} {u v : St}
theorem any_ok (A : As nC nP s) (U : Au nC nP s u) {m p : Nat} (hm : m < 2 ^ 31) (hp : p < 4) : f_X3_seenByAnyOf u (nI m) (nI p) = some (nI (orN (fun c => s c p) m nC)) := by
  have h := up_loop' (fun F i (t : Nat) => L_X3_seenByAnyOf_5 (fun x3 x4 => some x3) u (nI m) (nI p) F (nI t) (nI i)) (fun c x => if m.testBit c then x ||| s c p else x) 5 (fun t => some (nI t)) ?_ ?_ 0 FU (FU_gt (by omega))
  · unfold orN
    rw [← fu_id (N := nC) (n := 5) (fun c x hc q => ?_) A.1]
    · exact h
    · show (if m.testBit c then x ||| s c p else x) = x
      rw [(A.2.2 c p q hp).2 (Or.inl hc), Nat.or_zero]; split <;> rfl
  · intro F i t hi
    show L_X3_seenByAnyOf_5 _ u (nI m) (nI p) (F + 1) (nI t) (nI i) = _
    rw [L_X3_seenByAnyOf_5, if_neg (show ¬ (5 : Int32) ≤ nI i from nI_ge (b := 5) hi (by decide)), n_in hm (by omega), Option.bind_some, nI_1]
    cases q : m.testBit i
    · rw [show bI false = 0 from rfl, i0]; rfl
    · rw [show bI true = 1 from rfl, i1, oobF hi (by decide), oobF hp (by decide), fT, fT, tc_nI (by omega), tc_nI (by omega), U i p hi hp, n_or]; rfl
  · intro F t
    show L_X3_seenByAnyOf_5 _ u (nI m) (nI p) (F + 1) (nI t) (nI 5) = _
    rw [L_X3_seenByAnyOf_5, if_pos (show (5 : Int32) ≤ nI 5 from Int32.le_refl _)]
theorem ors_lt (A : As nC nP s) {m p : Nat} (hp : p < 4) : orN (fun c => s c p) m nC < 2 ^ 30 := orN_lt nC fun c hc => (A.2.2 c p (by have := A.1; omega) hp).1
theorem or0 {t : Nat → Nat} (m : Nat) : ∀ n, (∀ c, c < n → t c = 0) → orN t m n = 0
  | 0, _ => rfl
  | n + 1, h => by
    show (if m.testBit n then orN t m n ||| t n else orN t m n) = 0
    rw [or0 m n fun c hc => h c (by omega), h n (by omega)]; split <;> rfl
theorem pc0 : ∀ n, pcN 0 n = 0
  | 0 => rfl
  | n + 1 => by show pcN 0 n + bt1 0 n = 0; rw [pc0 n]; unfold bt1; simp
theorem amU_ok (A : As nC nP s) (U : Au nC nP s u) {m : Nat} (hm : m < 2 ^ 31) : f_X3_amountSeenBy u (nI m) = some (nI (amN s nC nP m)) := by
  have h := up_loop' (fun F i (t : Nat) => L_X3_amountSeenBy_4 (fun x2 x3 => some x2) u (nI m) F (nI t) (nI i)) (fun p t => t + pcN (orN (fun c => s c p) m nC) 30) 4 (fun t => some (nI t)) ?_ ?_ 0 FU (FU_gt (by omega))
  · unfold amN
    rw [← fu_id (N := nP) (n := 4) (fun p x hp q => ?_) A.2.1]
    · exact h
    · show x + pcN (orN (fun c => s c p) m nC) 30 = x
      rw [or0 m nC fun c hc => (A.2.2 c p (by have := A.1; omega) q).2 (Or.inr hp), pc0, Nat.add_zero]
  · intro F i t hi
    show L_X3_amountSeenBy_4 _ u (nI m) (F + 1) (nI t) (nI i) = _
    rw [L_X3_amountSeenBy_4, if_neg (show ¬ (4 : Int32) ≤ nI i from nI_ge (b := 4) hi (by decide)), any_ok A U hm hi, Option.bind_some, bitCount_ok (ors_lt A hi), Option.bind_some, nI_1, nI_add]
  · intro F t
    show L_X3_amountSeenBy_4 _ u (nI m) (F + 1) (nI t) (nI 4) = _
    rw [L_X3_amountSeenBy_4, if_pos (show (4 : Int32) ≤ nI 4 from Int32.le_refl _)]
theorem sawOf_ok (V : Av nC nP s v) {c p : Nat} (hc : c < 5) (hp : p < 4) : f_X8_sawOf v (nI c) (nI p) = some (nI (s c p)) := by
  have e : (25 + 4 * nI c) + nI p = nI (25 + 4 * c + p) := by
    rw [show (4 : Int32) * nI c = nI (4 * c) from pk_mul 4 c, show (25 : Int32) + nI (4 * c) = nI (25 + 4 * c) from nI_add 25 _, nI_add]
  rw [f_X8_sawOf, e, oobF (show 25 + 4 * c + p < 507 by omega) (by decide), tc_nI (by omega), V c p hc hp]; rfl
theorem amV_ok (A : As nC nP s) (V : Av nC nP s v) (h0 : v.1 0 = nI nC) (h1 : v.1 1 = nI nP) {m : Nat} (hm : m < 2 ^ 31) : f_X8_sawBy v (nI m) = some (nI (amN s nC nP m)) := by
  have hC := A.1
  have hP := A.2.1
  refine up_loop' (fun F i (t : Nat) => L_X8_sawBy_4 (fun x2 x3 => some x2) v (nI m) F (nI t) (nI i)) (fun p t => t + pcN (orN (fun c => s c p) m nC) 30) nP (fun t => some (nI t)) ?_ ?_ 0 FU (FU_gt (by omega))
  · intro F i t hi
    show L_X8_sawBy_4 _ v (nI m) (F + 1) (nI t) (nI i) = _
    rw [L_X8_sawBy_4, h1, if_neg (nI_ge hi (by omega))]
    have h := up_loop' (fun F' j (x : Nat) => L_X8_sawBy_18 (fun x4 x5 => Option.bind (f_X8_bits x4) fun r61 => L_X8_sawBy_4 (fun x2 x3 => some x2) v (nI m) F (nI t + r61) (nI i + 1)) v (nI m) (nI i) F' (nI x) (nI j)) (fun c x => if m.testBit c then x ||| s c i else x) nC (fun x => Option.bind (f_X8_bits (nI x)) fun r61 => L_X8_sawBy_4 (fun x2 x3 => some x2) v (nI m) F (nI t + r61) (nI i + 1)) ?_ ?_ 0 FU (FU_gt (by omega))
    · refine Eq.trans h ?_
      rw [show fu (fun c x => if m.testBit c then x ||| s c i else x) nC 0 = orN (fun c => s c i) m nC from rfl, bits_ok (show _ < 2 ^ 31 by have := ors_lt A (m := m) (show i < 4 by omega); omega), Option.bind_some, nI_add, nI_1]
    · intro F' j x hj
      show L_X8_sawBy_18 _ v (nI m) (nI i) (F' + 1) (nI x) (nI j) = _
      rw [L_X8_sawBy_18, h0, if_neg (nI_ge hj (by omega)), isIn_has, n_in hm (by omega), Option.bind_some, nI_1 j]
      cases q : m.testBit j
      · rw [show bI false = 0 from rfl, i0, show nI x ||| 0 = nI (x ||| 0) from n_or x 0, Nat.or_zero]; rfl
      · rw [show bI true = 1 from rfl, i1, sawOf_ok V (by omega) (by omega), Option.bind_some, n_or]; rfl
    · intro F' x
      show L_X8_sawBy_18 _ v (nI m) (nI i) (F' + 1) (nI x) (nI nC) = _
      rw [L_X8_sawBy_18, h0, if_pos (Int32.le_refl _)]
  · intro F t
    show L_X8_sawBy_4 _ v (nI m) (F + 1) (nI t) (nI nP) = _
    rw [L_X8_sawBy_4, h1, if_pos (Int32.le_refl _)]
/-- from the relation: the marks seen, and who is asked -/
def dS (v : St) (c p : Nat) : Nat := (v.2.1 7 (25 + 4 * c + p)).toNatClampNeg
theorem A_of (T : Tr nC nP nS u v) (P : Pn nC nP u v) : As nC nP (dS v) ∧ Au nC nP (dS v) u ∧ Av nC nP (dS v) v := by
  obtain ⟨⟨h, h1, h2, h3⟩, -⟩ := P.vb
  have k : ∀ c p, c < 5 → p < 4 → v.2.1 7 (25 + 4 * c + p) = nI (dS v c p) ∧ dS v c p < 2 ^ 30 ∧ (nC ≤ c ∨ nP ≤ p → dS v c p = 0) := fun c p hc hp => by
    obtain ⟨s, s1, s2, s3⟩ := h3 c p hc hp
    have s4 : s < 2 ^ 30 := Nat.lt_of_lt_of_le s1 (Nat.pow_le_pow_right (by decide) h1)
    unfold dS; rw [s2, tc_nI (by omega)]; exact ⟨rfl, s4, s3⟩
  exact ⟨⟨T.1.1, T.1.2.1, fun c p hc hp => (k c p hc hp).2⟩, fun c p hc hp => (P.b.2.2.2 c p hc hp).trans (k c p hc hp).1, fun c p hc hp => (k c p hc hp).1⟩
def dA (v : St) : Nat := (v.2.1 7 45).toNatClampNeg
theorem ask_of (T : Tr nC nP nS u v) (P : Pn nC nP u v) : dA v < 2 ^ nC ∧ 2 ^ nC ≤ 32 ∧ u.1 11 = nI (dA v) ∧ v.2.1 7 45 = nI (dA v) ∧ (∀ c, c < 31 → f_X3_isAsked u (nI c) = some (bI ((dA v).testBit c)) ∧ f_X8_isAsked v (nI c) = some (bI ((dA v).testBit c))) := by
  have hp : 2 ^ nC ≤ 2 ^ 5 := Nat.pow_le_pow_right (by decide) T.1.1
  have key : ∀ c, c < 31 → ∃ a : Nat, a < 2 ^ nC ∧ dA v = a ∧ u.1 11 = nI a ∧ v.2.1 7 45 = nI a ∧ f_X3_isAsked u (nI c) = some (bI (a.testBit c)) ∧ f_X8_isAsked v (nI c) = some (bI (a.testBit c)) := fun c hc => by
    obtain ⟨a, ha, e1, e2, e3, e4⟩ := asked_ok T P hc
    refine ⟨a, ha, ?_, e1, e2, e3, e4⟩
    unfold dA; rw [e2, tc_nI (by omega)]
  obtain ⟨a, ha, rfl, e1, e2, -, -⟩ := key 0 (by omega)
  refine ⟨ha, by omega, e1, e2, fun c hc => ?_⟩
  obtain ⟨a, ha, rfl, -, -, e3, e4⟩ := key c hc
  exact ⟨e3, e4⟩
theorem known_ok (T : Tr nC nP nS u v) (P : Pn nC nP u v) (x : Int32) : Eo (f_X7_known u x) (f_X8_known v x) := by
  obtain ⟨A, U, V⟩ := A_of T P
  obtain ⟨a1, a2, a3, a4, a5⟩ := ask_of T P
  have hC := T.1.1
  unfold f_X7_known f_X8_known
  rcases one_cases T x with ⟨e1, e2, p, hp, rfl⟩ | ⟨e1, e2⟩
  · rw [e1, e2]
    simp only [Option.bind_some, i1]
    have hp4 : p < 4 := by have := T.1.2.1; omega
    rw [a3, any_ok A U (by omega) hp4]
    refine ⟨_, rfl, ?_⟩
    refine up_loop' (fun F i (t : Nat) => L_X8_known_14 (fun x2 x3 => some x2) v (nI p) F (nI t) (nI i)) (fun c x => if (dA v).testBit c then x ||| dS v c p else x) nC (fun t => some (nI t)) ?_ ?_ 0 FU (FU_gt (by omega))
    · intro F i t hi
      show L_X8_known_14 _ v (nI p) (F + 1) (nI t) (nI i) = _
      rw [L_X8_known_14, T.2.1.2, if_neg (nI_ge hi (by omega)), (a5 i (by omega)).2, Option.bind_some, nI_1]
      cases q : (dA v).testBit i
      · rw [show bI false = 0 from rfl, i0, show nI t ||| 0 = nI (t ||| 0) from n_or t 0, Nat.or_zero]; rfl
      · rw [show bI true = 1 from rfl, i1, sawOf_ok V (by omega) hp4, Option.bind_some, n_or]; rfl
    · intro F t
      show L_X8_known_14 _ v (nI p) (F + 1) (nI t) (nI nC) = _
      rw [L_X8_known_14, T.2.1.2, if_pos (Int32.le_refl _)]
  · rw [e1, e2]; exact ⟨_, rfl, rfl⟩
theorem orN_one {t : Nat → Nat} {c n : Nat} (h0 : n ≤ c → t c = 0) : orN t (2 ^ c) n = t c := by
  apply Nat.eq_of_testBit_eq
  intro i
  rw [Bool.eq_iff_iff, orN_tb]
  constructor
  · rintro ⟨d, h1, h2, h3⟩
    rw [Nat.testBit_two_pow] at h2
    have e := of_decide_eq_true h2
    subst e
    exact h3
  · intro h
    by_cases q : c < n
    · exact ⟨c, q, by rw [Nat.testBit_two_pow]; exact decide_eq_true rfl, h⟩
    · rw [h0 (by omega), Nat.zero_testBit] at h; cases h
theorem telU_ok (A : As nC nP s) (U : Au nC nP s u) {c : Nat} (hc : c < 5) : f_X3_tellingOf u (nI c) = some (nI (amN s nC nP (2 ^ c))) := by
  have h := up_loop' (fun F i (t : Nat) => L_X3_tellingOf_4 (fun x2 x3 => some x2) u (nI c) F (nI t) (nI i)) (fun p t => t + pcN (orN (fun c => s c p) (2 ^ c) nC) 30) 4 (fun t => some (nI t)) ?_ ?_ 0 FU (FU_gt (by omega))
  · unfold amN
    rw [← fu_id (N := nP) (n := 4) (fun p x hp q => ?_) A.2.1]
    · exact h
    · show x + pcN (orN (fun c => s c p) (2 ^ c) nC) 30 = x
      rw [or0 (2 ^ c) nC fun c hc => (A.2.2 c p (by have := A.1; omega) q).2 (Or.inr hp), pc0, Nat.add_zero]
  · intro F i t hi
    show L_X3_tellingOf_4 _ u (nI c) (F + 1) (nI t) (nI i) = _
    have e : orN (fun c => s c i) (2 ^ c) nC = s c i := orN_one (t := fun c => s c i) fun h => (A.2.2 c i hc hi).2 (Or.inl h)
    rw [L_X3_tellingOf_4, if_neg (show ¬ (4 : Int32) ≤ nI i from nI_ge (b := 4) hi (by decide)), oobF hc (by decide), oobF hi (by decide), fT, fT, tc_nI (by omega), tc_nI (by omega), U c i hc hi, bitCount_ok (A.2.2 c i hc hi).1, Option.bind_some, nI_1, nI_add]
    show _ = L_X3_tellingOf_4 _ u (nI c) F (nI (t + pcN (orN (fun c => s c i) (2 ^ c) nC) 30)) (nI (i + 1))
    rw [e]
  · intro F t
    show L_X3_tellingOf_4 _ u (nI c) (F + 1) (nI t) (nI 4) = _
    rw [L_X3_tellingOf_4, if_pos (show (4 : Int32) ≤ nI 4 from Int32.le_refl _)]
theorem tell_ok (T : Tr nC nP nS u v) (P : Pn nC nP u v) {c : Nat} (hc : c < 5) : f_X3_tellingOf u (nI c) = some (nI (amN (dS v) nC nP (2 ^ c))) ∧ f_X8_sawBy v (1 <<< (nI c &&& 31)) = some (nI (amN (dS v) nC nP (2 ^ c))) := by
  obtain ⟨A, U, V⟩ := A_of T P
  have hk : 2 ^ c < 2 ^ 31 := Nat.pow_lt_pow_right (by decide) (by omega)
  rw [n_shl (by omega), telU_ok A U hc, amV_ok A V T.2.1.2 T.2.2.1.2 hk]
  exact ⟨rfl, rfl⟩
theorem cock_ok (T : Tr nC nP nS u v) (P : Pn nC nP u v) (x y : Int32) : Eo (f_X7_cock u x y) (f_X8_cock v x y) := by
  unfold f_X7_cock f_X8_cock
  rcases cock_cases T x with ⟨e1, e2, c, hc, rfl⟩ | ⟨e1, e2⟩
  · rw [e1, e2]
    simp only [Option.bind_some, i1]
    obtain ⟨q0, q1, q2, q3, ⟨j, hj, q4⟩, q5⟩ := T.2.2.2.2.1 c hc
    have hc5 : c < 5 := by have := T.1.1; omega
    obtain ⟨x0, -, -, k1, k2⟩ := eye_ok T P hc
    obtain ⟨s1, s2⟩ := sideOf_ok T hc (v.2.1 7 0)
    have s3 : ∃ r, f_X8_sideBy (v.2.1 2 c) (v.2.1 3 c) (v.2.1 7 0) = some r := s2.elim (fun e => ⟨_, e⟩) fun e => ⟨_, e⟩
    obtain ⟨r, s3⟩ := s3
    rw [P.b.1, s1, k1, k2, oobF hc5 (by decide), tc_nI (by omega), s3, (tell_ok T P hc5).1, (tell_ok T P hc5).2]
    obtain ⟨-, -, -, -, a5⟩ := ask_of T P
    rw [(a5 c (by omega)).1, (a5 c (by omega)).2]
    simp only [Option.bind_some, fT]
    by_cases y0 : y = 0
    · subst y0; rw [if_pos rfl, if_pos rfl]; exact ⟨_, rfl, congrArg some q0.symm⟩
    rw [if_neg y0, if_neg y0]
    by_cases y1 : y = 1
    · subst y1; rw [if_pos rfl, if_pos rfl]; exact ⟨_, rfl, congrArg some q1.symm⟩
    rw [if_neg y1, if_neg y1]
    by_cases y2 : y = 2
    · subst y2; rw [if_pos rfl, if_pos rfl]; exact ⟨_, rfl, congrArg some q2.symm⟩
    rw [if_neg y2, if_neg y2]
    by_cases y3 : y = 3
    · subst y3; rw [if_pos rfl, if_pos rfl]; exact ⟨_, rfl, congrArg some q3.symm⟩
    rw [if_neg y3, if_neg y3]
    repeat' split
    all_goals exact ⟨_, rfl, rfl⟩
  · rw [e1, e2]; exact ⟨_, rfl, rfl⟩
end AM
