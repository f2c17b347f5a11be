-- ===== the best set to ask =====
theorem amN_lt {s : Nat → Nat → Nat} {nC nP m : Nat} (h : nP ≤ 4) : amN s nC nP m ≤ 120 := by have := amN_le (s := s) (nC := nC) (m := m) nP; omega
def htN (s : Nat → Nat → Nat) (nC nP m : Nat) (n : Nat) : Nat := fu (fun c t => if m.testBit c then t + (1 + amN s nC nP (2 ^ c) / 4) else t) n 0
theorem htN_le {s : Nat → Nat → Nat} {nC nP m : Nat} (h : nP ≤ 4) : ∀ n, htN s nC nP m n ≤ 31 * n
  | 0 => Nat.le_refl 0
  | n + 1 => by
    have ih := htN_le (s := s) (nC := nC) (m := m) h n
    have := amN_lt (s := s) (nC := nC) (m := 2 ^ n) h
    show (if m.testBit n then htN s nC nP m n + _ else htN s nC nP m n) ≤ _
    split <;> omega
/-- is x better than b -/
def btr (s : Nat → Nat → Nat) (nC nP a x b : Nat) : Bool := decide (amN s nC nP (a ||| b) < amN s nC nP (a ||| x) ∨ amN s nC nP (a ||| x) = amN s nC nP (a ||| b) ∧ pcN x 30 < pcN b 30)
def stp (s : Nat → Nat → Nat) (nC nP a : Nat) (X : Int32) (i b : Nat) : Nat :=
  if (i + 1) &&& a = 0 ∧ ¬ X < nI (htN s nC nP (i + 1) nC) ∧ btr s nC nP a (i + 1) b = true then i + 1 else b
theorem n_and0 {m a : Nat} (hm : m < 2 ^ 31) : nI m &&& nI a = 0 ↔ m &&& a = 0 := by
  rw [n_and, show (0 : Int32) = nI 0 from rfl]
  exact nI_eq (Nat.lt_of_le_of_lt Nat.and_le_left hm) (by decide)
theorem stp_le {s : Nat → Nat → Nat} {nC nP a : Nat} {X : Int32} {i b : Nat} (h : b ≤ i) : stp s nC nP a X i b ≤ i + 1 := by
  unfold stp; split <;> omega
section BE
variable {nC nP nS : Nat} {s : Nat → Nat → Nat} {u v : St} {a : Nat}
theorem all_ok {c0 : Int32} (hC : nC ≤ 5) (h : c0 = nI nC) : (1 <<< (c0 &&& 31)) - 1 = nI (2 ^ nC - 1) := by
  rw [h, n_shl (by omega), show (1 : Int32) = nI 1 from rfl, pk_sub (Nat.two_pow_pos nC)]
theorem knU_ok (A : As nC nP s) (U : Au nC nP s u) (ha : u.1 11 = nI a) (hl : a < 32) {m : Nat} (hm : m < 32) : f_X3_amountKnownWith u (nI m) = some (nI (amN s nC nP (a ||| m))) := by
  unfold f_X3_amountKnownWith
  rw [ha, n_or, amU_ok A U (show a ||| m < 2 ^ 31 from Nat.lt_of_lt_of_le (Nat.or_lt_two_pow (n := 5) hl hm) (by decide))]; rfl
theorem hoursU_ok (T : Tr nC nP nS u v) (P : Pn nC nP u v) {m : Nat} (hm : m < 2 ^ nC) : f_X3_hoursToAsk u (nI m) = some (nI (htN (dS v) nC nP m nC)) := by
  have hC := T.1.1
  have hp : 2 ^ nC ≤ 2 ^ 5 := Nat.pow_le_pow_right (by decide) hC
  have h := up_loop' (fun F i (t : Nat) => L_X3_hoursToAsk_4 (fun x2 x3 => some x2) u (nI m) F (nI t) (nI i)) (fun c t => if m.testBit c then t + (1 + amN (dS v) nC nP (2 ^ c) / 4) else t) 5 (fun t => some (nI t)) ?_ ?_ 0 FU (FU_gt (by omega))
  · unfold htN
    rw [← fu_id (N := nC) (n := 5) (fun c x hc q => ?_) hC]
    · exact h
    · rw [if_neg]
      rw [Nat.testBit_lt_two_pow (Nat.lt_of_lt_of_le hm (Nat.pow_le_pow_right (by decide) hc))]; decide
  · intro F i t hi
    show L_X3_hoursToAsk_4 _ u (nI m) (F + 1) (nI t) (nI i) = _
    rw [L_X3_hoursToAsk_4, if_neg (show ¬ (5 : Int32) ≤ nI i from nI_ge (b := 5) hi (by decide)), n_in (by omega) (by omega), Option.bind_some, nI_1]
    cases q : m.testBit i
    · rw [show bI false = 0 from rfl, i0]; rfl
    · have := amN_lt (s := dS v) (nC := nC) (m := 2 ^ i) T.1.2.1
      rw [show bI true = 1 from rfl, i1, (tell_ok T P hi).1, Option.bind_some, show (4 : Int32) = nI 4 from rfl, pk_div (by omega) (by omega) (by omega), show (1 : Int32) = nI 1 from rfl, nI_add, nI_add]; rfl
  · intro F t
    show L_X3_hoursToAsk_4 _ u (nI m) (F + 1) (nI t) (nI 5) = _
    rw [L_X3_hoursToAsk_4, if_pos (show (5 : Int32) ≤ nI 5 from Int32.le_refl _)]
theorem takesV_ok (T : Tr nC nP nS u v) (P : Pn nC nP u v) {m : Nat} (hm : m < 2 ^ nC) : f_X8_takes v (nI m) = some (nI (htN (dS v) nC nP m nC)) := by
  have hC := T.1.1
  have hp : 2 ^ nC ≤ 2 ^ 5 := Nat.pow_le_pow_right (by decide) hC
  refine up_loop' (fun F i (t : Nat) => L_X8_takes_4 (fun x2 x3 => some x2) v (nI m) F (nI t) (nI i)) (fun c t => if m.testBit c then t + (1 + amN (dS v) nC nP (2 ^ c) / 4) else t) nC (fun t => some (nI t)) ?_ ?_ 0 FU (FU_gt (by omega))
  · intro F i t hi
    show L_X8_takes_4 _ v (nI m) (F + 1) (nI t) (nI i) = _
    rw [L_X8_takes_4, T.2.1.2, if_neg (nI_ge hi (by omega)), isIn_has, n_in (by omega) (by omega), Option.bind_some, nI_1]
    cases q : m.testBit i
    · rw [show bI false = 0 from rfl, i0, show nI t + 0 = nI (t + 0) from nI_add t 0]; rfl
    · have := amN_lt (s := dS v) (nC := nC) (m := 2 ^ i) T.1.2.1
      rw [show bI true = 1 from rfl, i1, (tell_ok T P (by omega)).2, Option.bind_some, show (4 : Int32) = nI 4 from rfl, pk_div (by omega) (by omega) (by omega), show (1 : Int32) = nI 1 from rfl, nI_add, nI_add]; rfl
  · intro F t
    show L_X8_takes_4 _ v (nI m) (F + 1) (nI t) (nI nC) = _
    rw [L_X8_takes_4, T.2.1.2, if_pos (Int32.le_refl _)]
theorem better_ok (A : As nC nP s) (U : Au nC nP s u) (ha : u.1 11 = nI a) (hl : a < 32) {x b : Nat} (hx : x < 32) (hb : b < 32) : f_X6_isBetter u (nI x) (nI b) = some (bI (btr s nC nP a x b)) := by
  unfold f_X6_isBetter btr
  rw [knU_ok A U ha hl hx, knU_ok A U ha hl hb, bitCount_ok (show x < 2 ^ 30 by omega), bitCount_ok (show b < 2 ^ 30 by omega)]
  simp only [Option.bind_some]
  have k1 := amN_lt (s := s) (nC := nC) (m := a ||| x) A.2.1
  have k2 := amN_lt (s := s) (nC := nC) (m := a ||| b) A.2.1
  have k3 := pcN_le x 30
  have k4 := pcN_le b 30
  generalize amN s nC nP (a ||| x) = X at *
  generalize amN s nC nP (a ||| b) = B at *
  by_cases q : X = B
  · subst q
    rw [if_pos (show nI X - nI X = 0 by grind)]
    by_cases w : pcN b 30 ≤ pcN x 30
    · rw [if_pos ((nI_leI (by omega) (by omega)).mpr w), decide_eq_false (by omega)]; rfl
    · rw [if_neg (fun k => w ((nI_leI (by omega) (by omega)).mp k)), decide_eq_true (by omega)]; rfl
  · by_cases w : X < B
    · have h := pk_sneg (a := X) (b := B) (by omega) w
      rw [if_neg (fun k => by rw [k] at h; exact absurd h (by decide)), if_pos (Int32.le_of_lt h), decide_eq_false (by omega)]; rfl
    · rw [pk_sub (by omega), if_neg (nI_ne0 (by omega) (by omega)), if_neg (nI_nle (by omega) (by omega)), decide_eq_true (by omega)]; rfl
theorem best_ok (T : Tr nC nP nS u v) (P : Pn nC nP u v) (X : Int32) : f_X6_bestToAsk u X = some (nI (fu (stp (dS v) nC nP (dA v) X) (2 ^ nC - 1) 0)) ∧ fu (stp (dS v) nC nP (dA v) X) (2 ^ nC - 1) 0 ≤ 2 ^ nC - 1 := by
  have hC := T.1.1
  obtain ⟨A, U, V⟩ := A_of T P
  obtain ⟨a1, a2, a3, a4, a5⟩ := ask_of T P
  have hp0 := Nat.two_pow_pos nC
  have h := up_loop (fun F i (b : Nat) => L_X6_bestToAsk_4 (fun x2 x3 => some x2) u X F (nI b) (nI (i + 1))) (stp (dS v) nC nP (dA v) X) (2 ^ nC - 1) (fun b => some (nI b)) (fun i b => b ≤ i) ?_ (fun i b _ hb => stp_le hb) ?_ 0 (Nat.le_refl 0) FU (FU_gt (by omega))
  · exact ⟨h.1, h.2⟩
  · intro F i b hi hb
    show L_X6_bestToAsk_4 _ u X (F + 1) (nI b) (nI (i + 1)) = _
    rw [L_X6_bestToAsk_4, f_X1_allCocks, Option.bind_some, all_ok hC T.2.1.1, if_neg (nI_nlt (show i + 1 ≤ 2 ^ nC - 1 by omega) (by omega)), a3, nI_1]
    have hX : f_X6_isBetter u (nI (i + 1)) (nI b) = some (bI (btr (dS v) nC nP (dA v) (i + 1) b)) := better_ok A U a3 (by omega) (by omega) (by omega)
    rw [hoursU_ok T P (by omega), hX]
    simp only [Option.bind_some]
    unfold stp
    by_cases q : (i + 1) &&& dA v = 0
    · rw [if_pos ((n_and0 (by omega)).mpr q)]
      by_cases w : X < nI (htN (dS v) nC nP (i + 1) nC)
      · rw [if_pos w, if_neg (fun k => k.2.1 w)]
      · rw [if_neg w]
        cases z : btr (dS v) nC nP (dA v) (i + 1) b
        · rw [show bI false = 0 from rfl, i0, if_neg (fun k => by cases k.2.2)]
        · rw [show bI true = 1 from rfl, i1, if_pos ⟨q, w, rfl⟩]
    · rw [if_neg (fun k => q ((n_and0 (by omega)).mp k)), if_neg (fun k => q k.1)]
  · intro F b _
    show L_X6_bestToAsk_4 _ u X (F + 1) (nI b) (nI (2 ^ nC - 1 + 1)) = _
    rw [L_X6_bestToAsk_4, f_X1_allCocks, Option.bind_some, all_ok hC T.2.1.1, if_pos (nI_lt (by omega) (by omega))]
theorem less_ok {x b : Nat} (hx : x < 32) (hb : b < 32) : f_X8_isLess (nI x) (nI b) = some (bI (decide (pcN x 30 < pcN b 30 ∨ pcN x 30 = pcN b 30 ∧ x < b))) := by
  have k3 := pcN_le x 30
  have k4 := pcN_le b 30
  unfold f_X8_isLess
  rw [bits_ok (by omega), bits_ok (by omega)]
  simp only [Option.bind_some]
  by_cases q : pcN x 30 < pcN b 30
  · rw [if_pos (nI_lt q (by omega)), decide_eq_true (Or.inl q)]; rfl
  · rw [if_neg (nI_nlt (by omega) (by omega))]
    by_cases w : pcN x 30 = pcN b 30
    · rw [if_pos (by rw [w])]
      by_cases z : b ≤ x
      · rw [if_pos (nI_le z (by omega)), decide_eq_false (by omega)]; rfl
      · rw [if_neg (nI_ge (by omega) (by omega)), decide_eq_true (by omega)]; rfl
    · rw [if_neg (fun k => w ((nI_eq (by omega) (by omega)).mp k)), decide_eq_false (by omega)]; rfl
theorem most_s (T : Tr nC nP nS u v) (P : Pn nC nP u v) (x y : Int32) {F i b : Nat} (hi : i < 2 ^ nC - 1) (hb : b ≤ i) : L_X8_most_32 (fun x3 x4 x5 => if y = 0 then some x3 else some x4) v x (F + 1) (nI b) (nI (amN (dS v) nC nP (dA v ||| b))) (nI (i + 1)) = (fun b => L_X8_most_32 (fun x3 x4 x5 => if y = 0 then some x3 else some x4) v x F (nI b) (nI (amN (dS v) nC nP (dA v ||| b))) (nI (i + 1 + 1))) (stp (dS v) nC nP (dA v) x i b) := by
  have hC := T.1.1
  obtain ⟨A, U, V⟩ := A_of T P
  obtain ⟨a1, a2, a3, a4, a5⟩ := ask_of T P
  have hp0 := Nat.two_pow_pos nC
  have k1 := amN_lt (s := dS v) (nC := nC) (m := dA v ||| (i + 1)) T.1.2.1
  have k2 := amN_lt (s := dS v) (nC := nC) (m := dA v ||| b) T.1.2.1
  rw [L_X8_most_32, f_X8_all, Option.bind_some, all_ok hC T.2.1.2, if_neg (nI_nlt (show i + 1 ≤ 2 ^ nC - 1 by omega) (by omega)), a4, nI_1, takesV_ok T P (by omega), n_or, Nat.or_comm (i + 1) (dA v), amV_ok A V T.2.1.2 T.2.2.1.2 (show dA v ||| (i + 1) < 2 ^ 31 from Nat.lt_of_lt_of_le (Nat.or_lt_two_pow (n := 5) (by omega) (by omega)) (by decide)), less_ok (show i + 1 < 32 by omega) (show b < 32 by omega)]
  simp only [Option.bind_some]
  unfold stp btr
  by_cases q : (i + 1) &&& dA v = 0
  · rw [if_pos ((n_and0 (by omega)).mpr q)]
    by_cases w : x < nI (htN (dS v) nC nP (i + 1) nC)
    · rw [if_pos w, if_neg (fun k => k.2.1 w)]
    · rw [if_neg w]
      by_cases z : amN (dS v) nC nP (dA v ||| b) < amN (dS v) nC nP (dA v ||| (i + 1))
      · rw [if_pos (nI_lt z (by omega)), if_pos ⟨q, w, decide_eq_true (Or.inl z)⟩]
      · rw [if_neg (nI_nlt (by omega) (by omega))]
        by_cases t : amN (dS v) nC nP (dA v ||| (i + 1)) = amN (dS v) nC nP (dA v ||| b)
        · rw [if_pos (by rw [t])]
          by_cases o : pcN (i + 1) 30 < pcN b 30
          · rw [decide_eq_true (Or.inl o), show bI true = 1 from rfl, i1, if_pos ⟨q, w, decide_eq_true (Or.inr ⟨t, o⟩)⟩]
          · rw [decide_eq_false (by omega), show bI false = 0 from rfl, i0, if_neg (fun k => by have := of_decide_eq_true k.2.2; omega)]
        · rw [if_neg (fun k => t ((nI_eq (by omega) (by omega)).mp k)), if_neg (fun k => by have := of_decide_eq_true k.2.2; omega)]
  · rw [if_neg (fun k => q ((n_and0 (by omega)).mp k)), if_neg (fun k => q k.1)]
theorem most_e (T : Tr nC nP nS u v) (P : Pn nC nP u v) (x y : Int32) {F b : Nat} : L_X8_most_32 (fun x3 x4 x5 => if y = 0 then some x3 else some x4) v x (F + 1) (nI b) (nI (amN (dS v) nC nP (dA v ||| b))) (nI (2 ^ nC - 1 + 1)) = if y = 0 then some (nI b) else some (nI (amN (dS v) nC nP (dA v ||| b))) := by
  have hC := T.1.1
  obtain ⟨A, U, V⟩ := A_of T P
  obtain ⟨a1, a2, a3, a4, a5⟩ := ask_of T P
  have hp0 := Nat.two_pow_pos nC
  rw [L_X8_most_32, f_X8_all, Option.bind_some, all_ok hC T.2.1.2, if_pos (nI_lt (by omega) (by omega))]
theorem Eo_of {x z : Option Int32} (hx : ∃ r, x = some r) (h : z = x) : Eo x z := hx.elim fun r e => ⟨r, e, h.trans e⟩
theorem most_v (T : Tr nC nP nS u v) (P : Pn nC nP u v) (x y : Int32) : L_X8_most_32 (fun x3 x4 x5 => if y = 0 then some x3 else some x4) v x FU 0 (nI (amN (dS v) nC nP (dA v))) 1 = if y = 0 then some (nI (fu (stp (dS v) nC nP (dA v) x) (2 ^ nC - 1) 0)) else some (nI (amN (dS v) nC nP (dA v ||| fu (stp (dS v) nC nP (dA v) x) (2 ^ nC - 1) 0))) := by
  have hC := T.1.1
  obtain ⟨a1, a2, a3, a4, a5⟩ := ask_of T P
  have h := up_loop (fun F i (b : Nat) => L_X8_most_32 (fun x3 x4 x5 => if y = 0 then some x3 else some x4) v x F (nI b) (nI (amN (dS v) nC nP (dA v ||| b))) (nI (i + 1))) (stp (dS v) nC nP (dA v) x) (2 ^ nC - 1) (fun b => if y = 0 then some (nI b) else some (nI (amN (dS v) nC nP (dA v ||| b)))) (fun i b => b ≤ i) (fun F i b hi hb => most_s T P x y hi hb) (fun i b _ hb => stp_le hb) (fun F b _ => most_e T P x y) 0 (Nat.le_refl 0) FU (FU_gt (by omega))
  have h1 := h.1
  rw [Nat.or_zero] at h1
  exact h1
theorem most_ok (T : Tr nC nP nS u v) (P : Pn nC nP u v) (x y : Int32) : Eo (f_X7_most u x y) (f_X8_most v x y) := by
  have hC := T.1.1
  obtain ⟨A, U, V⟩ := A_of T P
  obtain ⟨a1, a2, a3, a4, a5⟩ := ask_of T P
  have hp0 := Nat.two_pow_pos nC
  unfold f_X7_most f_X8_most
  rw [in_eq, in_eq]
  rcases in_cases x 0 60 with ⟨e, -, -⟩ | e <;> rw [e]
  · simp only [Option.bind_some, i1]
    rcases in_cases y 0 1 with ⟨e, -, -⟩ | e <;> rw [e]
    · simp only [Option.bind_some, i1]
      obtain ⟨b1, b2⟩ := best_ok T P x
      have hk : f_X8_knownMuch v = some (nI (amN (dS v) nC nP (dA v))) := by
        unfold f_X8_knownMuch
        rw [a4, amV_ok A V T.2.1.2 T.2.2.1.2 (Nat.lt_of_lt_of_le a1 (Nat.le_trans a2 (by decide)))]; rfl
      rw [b1, Option.bind_some, knU_ok A U a3 (by omega) (by omega), hk, Option.bind_some, Option.bind_some, most_v T P x y]
      split <;> exact ⟨_, rfl, rfl⟩
    · simp only [Option.bind_some, i0]; exact ⟨_, rfl, rfl⟩
  · simp only [Option.bind_some, i0]; exact ⟨_, rfl, rfl⟩
/-- a set that is the best of all that say everything -/
def Opt (s : Nat → Nat → Nat) (nC nP a b : Nat) : Prop :=
  b < 2 ^ nC ∧ b &&& a = 0 ∧ amN s nC nP (a ||| b) = amN s nC nP (2 ^ nC - 1) ∧ ∀ m : Nat, m < 2 ^ nC → m &&& a = 0 → amN s nC nP (a ||| m) = amN s nC nP (2 ^ nC - 1) → pcN b 30 < pcN m 30 ∨ pcN b 30 = pcN m 30 ∧ b ≤ m
theorem Opt.one {b b' : Nat} (h : Opt s nC nP a b) (h' : Opt s nC nP a b') : b = b' := by
  have h1 := h.2.2.2 b' h'.1 h'.2.1 h'.2.2.1
  have h2 := h'.2.2.2 b h.1 h.2.1 h.2.2.1
  omega
theorem bit_in {m n c : Nat} (h : m < 2 ^ n) (hb : m.testBit c = true) : c < n := by
  by_cases q : c < n
  · exact q
  · rw [Nat.testBit_lt_two_pow (Nat.lt_of_lt_of_le h (Nat.pow_le_pow_right (by decide) (by omega)))] at hb; cases hb
theorem am_top {m : Nat} : amN s nC nP m ≤ amN s nC nP (2 ^ nC - 1) :=
  amN_mono (fun c hc _ => by rw [Nat.testBit_two_pow_sub_one]; exact decide_eq_true hc) nP
/-- there is one that says everything: all that were not asked -/
theorem rest_ok (ha : a < 2 ^ nC) : ((2 ^ nC - 1) ^^^ a) < 2 ^ nC ∧ ((2 ^ nC - 1) ^^^ a) &&& a = 0 ∧ amN s nC nP (a ||| ((2 ^ nC - 1) ^^^ a)) = amN s nC nP (2 ^ nC - 1) := by
  have hp0 := Nat.two_pow_pos nC
  refine ⟨Nat.xor_lt_two_pow (by omega) ha, ?_, Nat.le_antisymm am_top ?_⟩
  · apply Nat.eq_of_testBit_eq
    intro i
    rw [Nat.testBit_and, Nat.testBit_xor, Nat.testBit_two_pow_sub_one, Nat.zero_testBit]
    cases q : a.testBit i
    · rw [Bool.and_false]
    · rw [decide_eq_true (bit_in ha q)]; rfl
  · refine amN_mono (fun c hc _ => ?_) nP
    rw [Nat.testBit_or, Nat.testBit_xor, Nat.testBit_two_pow_sub_one, decide_eq_true hc]
    cases a.testBit c <;> rfl
theorem best_opt (ha : a < 2 ^ nC) (hn : nC ≤ 5) (hP : nP ≤ 4) : Opt s nC nP a (fu (stp s nC nP a 1000000) (2 ^ nC - 1) 0) := by
  have hp0 := Nat.two_pow_pos nC
  have key : ∀ n, n ≤ 2 ^ nC - 1 → fu (stp s nC nP a 1000000) n 0 ≤ n ∧ fu (stp s nC nP a 1000000) n 0 &&& a = 0 ∧ ∀ m, m ≤ n → m &&& a = 0 → amN s nC nP (a ||| m) < amN s nC nP (a ||| fu (stp s nC nP a 1000000) n 0) ∨ amN s nC nP (a ||| m) = amN s nC nP (a ||| fu (stp s nC nP a 1000000) n 0) ∧ (pcN (fu (stp s nC nP a 1000000) n 0) 30 < pcN m 30 ∨ pcN (fu (stp s nC nP a 1000000) n 0) 30 = pcN m 30 ∧ fu (stp s nC nP a 1000000) n 0 ≤ m) := by
    intro n
    induction n with
    | zero =>
      intro _
      refine ⟨Nat.le_refl 0, Nat.zero_and a, fun m hm _ => ?_⟩
      rw [show m = 0 by omega]
      exact Or.inr ⟨rfl, Or.inr ⟨rfl, Nat.le_refl 0⟩⟩
    | succ n ih =>
      intro hn'
      obtain ⟨h1, h2, h3⟩ := ih (by omega)
      show stp s nC nP a 1000000 n (fu (stp s nC nP a 1000000) n 0) ≤ n + 1 ∧ stp s nC nP a 1000000 n (fu (stp s nC nP a 1000000) n 0) &&& a = 0 ∧ ∀ m, m ≤ n + 1 → m &&& a = 0 → amN s nC nP (a ||| m) < amN s nC nP (a ||| stp s nC nP a 1000000 n (fu (stp s nC nP a 1000000) n 0)) ∨ amN s nC nP (a ||| m) = amN s nC nP (a ||| stp s nC nP a 1000000 n (fu (stp s nC nP a 1000000) n 0)) ∧ (pcN (stp s nC nP a 1000000 n (fu (stp s nC nP a 1000000) n 0)) 30 < pcN m 30 ∨ pcN (stp s nC nP a 1000000 n (fu (stp s nC nP a 1000000) n 0)) 30 = pcN m 30 ∧ stp s nC nP a 1000000 n (fu (stp s nC nP a 1000000) n 0) ≤ m)
      generalize fu (stp s nC nP a 1000000) n 0 = b at *
      have hX : ¬ (1000000 : Int32) < nI (htN s nC nP (n + 1) nC) := by
        have := htN_le (s := s) (nC := nC) (m := n + 1) hP nC
        exact nI_nlt (b := htN s nC nP (n + 1) nC) (a := 1000000) (by omega) (by decide)
      by_cases q : (n + 1) &&& a = 0 ∧ btr s nC nP a (n + 1) b = true
      · have e : stp s nC nP a 1000000 n b = n + 1 := by unfold stp; rw [if_pos ⟨q.1, hX, q.2⟩]
        rw [e]
        have hb := of_decide_eq_true q.2
        refine ⟨Nat.le_refl _, q.1, fun m hm hma => ?_⟩
        by_cases w : m = n + 1
        · rw [w]; exact Or.inr ⟨rfl, Or.inr ⟨rfl, Nat.le_refl _⟩⟩
        · have := h3 m (by omega) hma
          omega
      · have e : stp s nC nP a 1000000 n b = b := by unfold stp; rw [if_neg (fun k => q ⟨k.1, k.2.2⟩)]
        rw [e]
        refine ⟨by omega, h2, fun m hm hma => ?_⟩
        by_cases w : m = n + 1
        · subst w
          have hb : ¬ (amN s nC nP (a ||| b) < amN s nC nP (a ||| (n + 1)) ∨ amN s nC nP (a ||| (n + 1)) = amN s nC nP (a ||| b) ∧ pcN (n + 1) 30 < pcN b 30) := fun k => q ⟨hma, decide_eq_true k⟩
          omega
        · exact h3 m (by omega) hma
  obtain ⟨h1, h2, h3⟩ := key _ (Nat.le_refl _)
  obtain ⟨r1, r2, r3⟩ := rest_ok (s := s) (nP := nP) ha
  have h4 := h3 _ (by omega) r2
  have h5 := am_top (s := s) (nP := nP) (nC := nC) (m := a ||| fu (stp s nC nP a 1000000) (2 ^ nC - 1) 0)
  refine ⟨by omega, h2, by omega, fun m hm hma hmm => ?_⟩
  have := h3 m (by omega) hma
  omega
def stc (s : Nat → Nat → Nat) (nC nP a i b : Nat) : Nat :=
  if i &&& a = 0 ∧ amN s nC nP (a ||| i) = amN s nC nP (2 ^ nC - 1) ∧ ((pcN i 30 < pcN b 30 ∨ pcN i 30 = pcN b 30 ∧ i < b) ∨ ¬ b &&& a = 0) then i else b
theorem stc_lt {i b : Nat} (hi : i < 2 ^ nC) (hb : b < 2 ^ nC) : stc s nC nP a i b < 2 ^ nC := by unfold stc; split <;> omega
theorem cover_opt (ha : a < 2 ^ nC) : Opt s nC nP a (fu (stc s nC nP a) (2 ^ nC) (2 ^ nC - 1)) := by
  have hp0 := Nat.two_pow_pos nC
  have key : ∀ n, n ≤ 2 ^ nC → (fu (stc s nC nP a) n (2 ^ nC - 1) = 2 ^ nC - 1 ∧ ∀ m, m < n → ¬ (m &&& a = 0 ∧ amN s nC nP (a ||| m) = amN s nC nP (2 ^ nC - 1))) ∨ (fu (stc s nC nP a) n (2 ^ nC - 1) < n ∧ fu (stc s nC nP a) n (2 ^ nC - 1) &&& a = 0 ∧ amN s nC nP (a ||| fu (stc s nC nP a) n (2 ^ nC - 1)) = amN s nC nP (2 ^ nC - 1) ∧ ∀ m, m < n → m &&& a = 0 → amN s nC nP (a ||| m) = amN s nC nP (2 ^ nC - 1) → pcN (fu (stc s nC nP a) n (2 ^ nC - 1)) 30 < pcN m 30 ∨ pcN (fu (stc s nC nP a) n (2 ^ nC - 1)) 30 = pcN m 30 ∧ fu (stc s nC nP a) n (2 ^ nC - 1) ≤ m) := by
    intro n
    induction n with
    | zero => intro _; exact Or.inl ⟨rfl, fun m hm => absurd hm (by omega)⟩
    | succ n ih =>
      intro hn'
      have h := ih (by omega)
      show (stc s nC nP a n (fu (stc s nC nP a) n (2 ^ nC - 1)) = 2 ^ nC - 1 ∧ ∀ m, m < n + 1 → ¬ (m &&& a = 0 ∧ amN s nC nP (a ||| m) = amN s nC nP (2 ^ nC - 1))) ∨ (stc s nC nP a n (fu (stc s nC nP a) n (2 ^ nC - 1)) < n + 1 ∧ stc s nC nP a n (fu (stc s nC nP a) n (2 ^ nC - 1)) &&& a = 0 ∧ amN s nC nP (a ||| stc s nC nP a n (fu (stc s nC nP a) n (2 ^ nC - 1))) = amN s nC nP (2 ^ nC - 1) ∧ ∀ m, m < n + 1 → m &&& a = 0 → amN s nC nP (a ||| m) = amN s nC nP (2 ^ nC - 1) → pcN (stc s nC nP a n (fu (stc s nC nP a) n (2 ^ nC - 1))) 30 < pcN m 30 ∨ pcN (stc s nC nP a n (fu (stc s nC nP a) n (2 ^ nC - 1))) 30 = pcN m 30 ∧ stc s nC nP a n (fu (stc s nC nP a) n (2 ^ nC - 1)) ≤ m)
      generalize fu (stc s nC nP a) n (2 ^ nC - 1) = b at *
      by_cases q : n &&& a = 0 ∧ amN s nC nP (a ||| n) = amN s nC nP (2 ^ nC - 1)
      · rcases h with ⟨h1, h2⟩ | ⟨h1, h2, h3, h4⟩
        · right
          have e : stc s nC nP a n b = n := by
            unfold stc
            by_cases w : (pcN n 30 < pcN b 30 ∨ pcN n 30 = pcN b 30 ∧ n < b) ∨ ¬ b &&& a = 0
            · rw [if_pos ⟨q.1, q.2, w⟩]
            · rw [if_neg (fun k => w k.2.2), h1]
              have hm : pcN n 30 ≤ pcN b 30 := pcN_mono (fun i hi => by rw [h1, Nat.testBit_two_pow_sub_one]; exact decide_eq_true (bit_in (n := nC) (by omega) hi)) 30
              omega
          rw [e]
          refine ⟨by omega, q.1, q.2, fun m hm hma hmm => ?_⟩
          by_cases w : m = n
          · rw [w]; exact Or.inr ⟨rfl, Nat.le_refl _⟩
          · exact absurd ⟨hma, hmm⟩ (h2 m (by omega))
        · right
          by_cases w : pcN n 30 < pcN b 30 ∨ pcN n 30 = pcN b 30 ∧ n < b
          · have e : stc s nC nP a n b = n := by unfold stc; rw [if_pos ⟨q.1, q.2, Or.inl w⟩]
            rw [e]
            refine ⟨by omega, q.1, q.2, fun m hm hma hmm => ?_⟩
            by_cases z : m = n
            · rw [z]; exact Or.inr ⟨rfl, Nat.le_refl _⟩
            · have := h4 m (by omega) hma hmm; omega
          · have e : stc s nC nP a n b = b := by unfold stc; rw [if_neg (fun k => k.2.2.elim w fun t => t h2)]
            rw [e]
            refine ⟨by omega, h2, h3, fun m hm hma hmm => ?_⟩
            by_cases z : m = n
            · rw [z]; omega
            · exact h4 m (by omega) hma hmm
      · have e : stc s nC nP a n b = b := by unfold stc; rw [if_neg (fun k => q ⟨k.1, k.2.1⟩)]
        rw [e]
        rcases h with ⟨h1, h2⟩ | ⟨h1, h2, h3, h4⟩
        · left
          refine ⟨h1, fun m hm => ?_⟩
          by_cases w : m = n
          · rw [w]; exact q
          · exact h2 m (by omega)
        · right
          refine ⟨by omega, h2, h3, fun m hm hma hmm => ?_⟩
          by_cases w : m = n
          · rw [w] at hma hmm; exact absurd ⟨hma, hmm⟩ q
          · exact h4 m (by omega) hma hmm
  obtain ⟨r1, r2, r3⟩ := rest_ok (s := s) (nP := nP) ha
  rcases key _ (Nat.le_refl _) with ⟨h1, h2⟩ | ⟨h1, h2, h3, h4⟩
  · exact absurd ⟨r2, r3⟩ (h2 _ r1)
  · exact ⟨h1, h2, h3, h4⟩
theorem coverV_ok (T : Tr nC nP nS u v) (P : Pn nC nP u v) : f_X8_cover v = some (nI (fu (stc (dS v) nC nP (dA v)) (2 ^ nC) (2 ^ nC - 1))) := by
  have hC := T.1.1
  obtain ⟨A, U, V⟩ := A_of T P
  obtain ⟨a1, a2, a3, a4, a5⟩ := ask_of T P
  have hp0 := Nat.two_pow_pos nC
  have h := up_loop (fun F i (b : Nat) => L_X8_cover_7 (fun x1 x2 => some x1) v F (nI b) (nI i)) (stc (dS v) nC nP (dA v)) (2 ^ nC) (fun b => some (nI b)) (fun i b => b < 2 ^ nC) ?_ (fun i b hi hb => stc_lt hi hb) ?_ (2 ^ nC - 1) (by omega) FU (FU_gt (by omega))
  · unfold f_X8_cover
    rw [f_X8_all, Option.bind_some, all_ok hC T.2.1.2]
    exact h.1
  · intro F i b hi hb
    show L_X8_cover_7 _ v (F + 1) (nI b) (nI i) = _
    have k1 := amN_lt (s := dS v) (nC := nC) (m := dA v ||| i) T.1.2.1
    have k2 := amN_lt (s := dS v) (nC := nC) (m := 2 ^ nC - 1) T.1.2.1
    rw [L_X8_cover_7, f_X8_all, Option.bind_some, all_ok hC T.2.1.2, if_neg (nI_nlt (show i ≤ 2 ^ nC - 1 by omega) (by omega)), a4, nI_1, n_or, Nat.or_comm i (dA v), amV_ok A V T.2.1.2 T.2.2.1.2 (show dA v ||| i < 2 ^ 31 from Nat.lt_of_lt_of_le (Nat.or_lt_two_pow (n := 5) (by omega) (by omega)) (by decide)), less_ok (show i < 32 by omega) (show b < 32 by omega)]
    simp only [Option.bind_some]
    rw [amV_ok A V T.2.1.2 T.2.2.1.2 (show 2 ^ nC - 1 < 2 ^ 31 by omega)]
    simp only [Option.bind_some]
    unfold stc
    by_cases q : i &&& dA v = 0
    · rw [if_pos ((n_and0 (by omega)).mpr q)]
      by_cases t : amN (dS v) nC nP (dA v ||| i) = amN (dS v) nC nP (2 ^ nC - 1)
      · rw [if_pos (by rw [t])]
        by_cases o : pcN i 30 < pcN b 30 ∨ pcN i 30 = pcN b 30 ∧ i < b
        · rw [decide_eq_true o, show bI true = 1 from rfl, i1, if_pos ⟨q, t, Or.inl o⟩]
        · rw [decide_eq_false o, show bI false = 0 from rfl, i0]
          by_cases z : b &&& dA v = 0
          · rw [if_pos ((n_and0 (by omega)).mpr z), if_neg (fun k => k.2.2.elim o fun w => w z)]
          · rw [if_neg (fun k => z ((n_and0 (by omega)).mp k)), if_pos ⟨q, t, Or.inr z⟩]
      · rw [if_neg (fun k => t ((nI_eq (by omega) (by omega)).mp k)), if_neg (fun k => t k.2.1)]
    · rw [if_neg (fun k => q ((n_and0 (by omega)).mp k)), if_neg (fun k => q k.1)]
  · intro F b _
    show L_X8_cover_7 _ v (F + 1) (nI b) (nI (2 ^ nC)) = _
    rw [L_X8_cover_7, f_X8_all, Option.bind_some, all_ok hC T.2.1.2, if_pos (nI_lt (by omega) (by omega))]
theorem now_ok (T : Tr nC nP nS u v) (P : Pn nC nP u v) (x : Int32) : Eo (f_X7_now u x) (f_X8_now v x) := by
  have hC := T.1.1
  obtain ⟨A, U, V⟩ := A_of T P
  obtain ⟨a1, a2, a3, a4, a5⟩ := ask_of T P
  have hp0 := Nat.two_pow_pos nC
  have hk : f_X8_knownMuch v = some (nI (amN (dS v) nC nP (dA v))) := by
    unfold f_X8_knownMuch
    rw [a4, amV_ok A V T.2.1.2 T.2.2.1.2 (Nat.lt_of_lt_of_le a1 (Nat.le_trans a2 (by decide)))]; rfl
  have hu : f_X3_amountKnownWith u 0 = some (nI (amN (dS v) nC nP (dA v))) := by
    have := knU_ok A U a3 (by omega) (show 0 < 32 by omega)
    rw [Nat.or_zero] at this
    exact this
  have c1 : f_X6_bestToAsk u 1000000 = some (nI (fu (stp (dS v) nC nP (dA v) 1000000) (2 ^ nC - 1) 0)) := (best_ok T P 1000000).1
  have c2 : fu (stp (dS v) nC nP (dA v) 1000000) (2 ^ nC - 1) 0 = fu (stc (dS v) nC nP (dA v)) (2 ^ nC) (2 ^ nC - 1) :=
    (best_opt a1 hC T.1.2.1).one (cover_opt a1)
  unfold f_X7_now f_X8_now
  rw [hu, hk, c1, c2, coverV_ok T P, P.b.1, f_X1_allCocks, f_X8_all, Option.bind_some, Option.bind_some, all_ok hC T.2.1.1, all_ok hC T.2.1.2]
  simp only [Option.bind_some]
  rw [amU_ok A U (show 2 ^ nC - 1 < 2 ^ 31 by omega), amV_ok A V T.2.1.2 T.2.2.1.2 (show 2 ^ nC - 1 < 2 ^ 31 by omega), a3, a4]
  simp only [Option.bind_some]
  repeat' split
  all_goals exact ⟨_, rfl, rfl⟩
end BE
