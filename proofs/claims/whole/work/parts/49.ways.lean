-- ===== ways =====
def tolN (m : Nat) : Nat := 10 * (m / 7) + m % 7
def wrP (v : St) (m k : Nat) : Bool := !decide (nI (m / 7) + v.2.1 11 (2 * k + 1) * (nI (m % 7) - 3) = v.2.1 11 (2 * k))
def wrN (v : St) (f m : Nat) : Nat := nbr (wrP v m) f
theorem fo_none {ρ : Type} {p : Nat → Bool} {r : Nat → ρ} : ∀ {n : Nat} {K : ρ}, (∀ m, m < n → p m = false) → fo p r n K = K
  | 0, _, _ => rfl
  | n + 1, K, h => by
    show fo p r n (if p n = true then r n else K) = K
    rw [h n (by omega), fT]
    exact fo_none fun m hm => h m (by omega)
theorem fo_first {ρ : Type} {p : Nat → Bool} {r : Nat → ρ} {b : Nat} (hb : p b = true) (hm : ∀ m, m < b → p m = false) : ∀ {n : Nat} {K : ρ}, b < n → fo p r n K = r b
  | 0, _, h => absurd h (Nat.not_lt_zero b)
  | n + 1, K, h => by
    show fo p r n (if p n = true then r n else K) = r b
    by_cases q : b = n
    · subst q
      rw [if_pos hb, fo_none hm]
    · exact fo_first hb hm (by omega)
def bwS (g : Nat → Nat) (m b : Nat) : Nat := if g b ≤ g m then b else m
theorem bw_ok (g : Nat → Nat) : ∀ n, (fu (bwS g) n 0 < n ∨ n = 0 ∧ fu (bwS g) n 0 = 0) ∧ (∀ m, m < n → g (fu (bwS g) n 0) ≤ g m) ∧ ∀ m, m < fu (bwS g) n 0 → g (fu (bwS g) n 0) < g m
  | 0 => ⟨Or.inr ⟨rfl, rfl⟩, fun m h => absurd h (Nat.not_lt_zero m), fun m h => absurd h (Nat.not_lt_zero m)⟩
  | n + 1 => by
    obtain ⟨h1, h2, h3⟩ := bw_ok g n
    have e : fu (bwS g) (n + 1) 0 = bwS g n (fu (bwS g) n 0) := rfl
    rw [e]
    generalize fu (bwS g) n 0 = b at *
    unfold bwS
    by_cases q : g b ≤ g n
    · rw [if_pos q]
      refine ⟨Or.inl (by omega), fun m hm => ?_, h3⟩
      by_cases w : m = n
      · rw [w]; exact q
      · exact h2 m (by omega)
    · rw [if_neg q]
      refine ⟨Or.inl (by omega), fun m hm => ?_, fun m hm => ?_⟩
      · by_cases w : m = n
        · rw [w]; exact Nat.le_refl _
        · have := h2 m (by omega); omega
      · have := h2 m hm; omega
theorem ctS_d (g : Nat → Nat) (i t : Nat) : ctS (fun m => decide (g m = 0)) i t = if g i = 0 then t + 1 else t := by
  show (bif decide (g i = 0) then t + 1 else t) = _
  by_cases q : g i = 0
  · rw [decide_eq_true q, if_pos q]; rfl
  · rw [decide_eq_false q, if_neg q]; rfl
theorem cf1_d (g : Nat → Nat) (i : Nat) (t : Nat × Nat) : cf1 (fun m => decide (g m = 0)) i t = if g i = 0 then (t.1 + 1, if t.1 = 0 then i else t.2) else t := by
  show (if decide (g i = 0) = true then (t.1 + 1, if t.1 = 0 then i else t.2) else t) = _
  by_cases q : g i = 0
  · rw [decide_eq_true q, if_pos q]; rfl
  · rw [decide_eq_false q, if_neg q]; rfl
section WY
variable {u v : St} {f : Nat}
def ClG (f : Nat) (u v : St) : Prop := f ≤ 6 ∧ u.1 14 = nI f ∧ v.1 4 = nI f ∧ ∀ k : Nat, k < f → u.2.1 41 k = v.2.1 11 (2 * k) ∧ u.2.1 42 k = v.2.1 11 (2 * k + 1)
theorem wrN_le (C : ClG f u v) (m : Nat) : wrN v f m ≤ 6 := Nat.le_trans (nbr_le f) C.1
theorem falseU_ok (C : ClG f u v) {m : Nat} (hm : m < 168) : f_X0_falsesOf u (nI (tolN m)) = some (nI (wrN v f m)) := by
  obtain ⟨c1, c2, c3, c4⟩ := C
  have e1 : tolN m / 10 = m / 7 := by unfold tolN; omega
  have e2 : tolN m % 10 = m % 7 := by unfold tolN; omega
  have e3 : tolN m < 1000 := by unfold tolN; omega
  unfold f_X0_falsesOf
  rw [show (10 : Int32) = nI 10 from rfl, pk_rem (by omega) (by omega) (by omega), pk_div (by omega) (by omega) (by omega), e1, e2]
  refine up_loop' (fun F i (t : Nat) => L_X0_falsesOf_18 (fun x4 x5 => some x4) u (nI (m / 7)) (nI (m % 7) - 3) F (nI t) (nI i)) (ctS (wrP v m)) f (fun t => some (nI t)) ?_ ?_ 0 FU (FU_gt (by omega))
  · intro F i t hi
    show L_X0_falsesOf_18 _ u (nI (m / 7)) (nI (m % 7) - 3) (F + 1) (nI t) (nI i) = _
    obtain ⟨d1, d2⟩ := c4 i hi
    rw [L_X0_falsesOf_18, c2, if_neg (nI_ge hi (by omega)), oobF (show i < 6 by omega) (by decide), fT, tc_nI (by omega), d1, d2, f_X7_placeBy, Option.bind_some, nI_1, nI_1]
    unfold ctS wrP
    by_cases q : nI (m / 7) + v.2.1 11 (2 * i + 1) * (nI (m % 7) - 3) = v.2.1 11 (2 * i)
    · rw [if_pos q, decide_eq_true q]; rfl
    · rw [if_neg q, decide_eq_false q]; rfl
  · intro F t
    show L_X0_falsesOf_18 _ u (nI (m / 7)) (nI (m % 7) - 3) (F + 1) (nI t) (nI f) = _
    rw [L_X0_falsesOf_18, c2, if_pos (Int32.le_refl _)]
theorem wrongV_ok (C : ClG f u v) {m : Nat} (hm : m < 168) : f_X8_wrong v (nI m) = some (nI (wrN v f m)) := by
  obtain ⟨c1, c2, c3, c4⟩ := C
  refine up_loop' (fun F i (t : Nat) => L_X8_wrong_4 (fun x2 x3 => some x2) v (nI m) F (nI t) (nI i)) (ctS (wrP v m)) f (fun t => some (nI t)) ?_ ?_ 0 FU (FU_gt (by omega))
  · intro F i t hi
    show L_X8_wrong_4 _ v (nI m) (F + 1) (nI t) (nI i) = _
    rw [L_X8_wrong_4, c3, if_neg (nI_ge hi (by omega)), show (2 : Int32) * nI i = nI (2 * i) from pk_mul 2 i, show nI (2 * i) + 1 = nI (2 * i + 1) from nI_1 _, oobF (show 2 * i < 12 by omega) (by decide), oobF (show 2 * i + 1 < 12 by omega) (by decide), fT, fT, tc_nI (by omega), tc_nI (by omega), show (7 : Int32) = nI 7 from rfl, pk_rem (by omega) (by omega) (by omega), pk_div (by omega) (by omega) (by omega), nI_1, nI_1, show nI t + 0 = nI (t + 0) from nI_add t 0, Nat.add_zero]
    unfold ctS wrP
    by_cases q : nI (m / 7) + v.2.1 11 (2 * i + 1) * (nI (m % 7) - 3) = v.2.1 11 (2 * i)
    · rw [if_pos q, decide_eq_true q]; rfl
    · rw [if_neg q, decide_eq_false q]; rfl
  · intro F t
    show L_X8_wrong_4 _ v (nI m) (F + 1) (nI t) (nI f) = _
    rw [L_X8_wrong_4, c3, if_pos (Int32.le_refl _)]
theorem code_ok {a b : Nat} (hb : b < 7) : 10 * nI a + nI b = nI (tolN (7 * a + b)) := by
  rw [show (10 : Int32) * nI a = nI (10 * a) from pk_mul 10 a, nI_add]
  congr 1
  unfold tolN; omega
theorem wayCount_ok (C : ClG f u v) : f_X0_wayCount u = some (nI (nbr (fun m => decide (wrN v f m = 0)) 168)) := by
  have h1 := up_loop' (fun F a (t : Nat) => L_X0_wayCount_4 (fun x1 x2 => some x1) u F (nI t) (nI a)) (fun a t => fu (fun b => ctS (fun m => decide (wrN v f m = 0)) (7 * a + b)) 7 t) 24 (fun t => some (nI t)) ?_ ?_ 0 FU (FU_gt (by omega))
  · refine Eq.trans h1 ?_
    rw [fu_flat (w := 7) 24]; rfl
  · intro F a t ha
    show L_X0_wayCount_4 _ u (F + 1) (nI t) (nI a) = _
    rw [L_X0_wayCount_4, if_neg (show ¬ (24 : Int32) ≤ nI a from nI_ge (b := 24) ha (by omega))]
    have h2 := up_loop' (fun F' b (t : Nat) => L_X0_wayCount_12 (fun x1 x3 => L_X0_wayCount_4 (fun x1 x2 => some x1) u F x1 (nI a + 1)) u (nI a) F' (nI t) (nI b)) (fun b => ctS (fun m => decide (wrN v f m = 0)) (7 * a + b)) 7 (fun t => L_X0_wayCount_4 (fun x1 x2 => some x1) u F (nI t) (nI a + 1)) ?_ ?_ t FU (FU_gt (by omega))
    · refine Eq.trans h2 ?_
      rw [nI_1]
    · intro F' b t hb
      show L_X0_wayCount_12 _ u (nI a) (F' + 1) (nI t) (nI b) = _
      have hw := wrN_le C (7 * a + b)
      rw [L_X0_wayCount_12, if_neg (show ¬ (6 : Int32) < nI b from nI_nlt (a := 6) (b := b) (by omega) (by omega)), code_ok hb, falseU_ok C (by omega), Option.bind_some, nI_1 b, nI_1 t]
      show _ = L_X0_wayCount_12 _ u (nI a) F' (nI (ctS (fun m => decide (wrN v f m = 0)) (7 * a + b) t)) (nI (b + 1))
      rw [ctS_d]
      by_cases q : wrN v f (7 * a + b) = 0
      · rw [q, if_pos (show nI 0 = 0 from rfl), if_pos rfl]
      · rw [if_neg (nI_ne0 (by omega) (by omega)), if_neg q]
    · intro F' t
      show L_X0_wayCount_12 _ u (nI a) (F' + 1) (nI t) (nI 7) = _
      rw [L_X0_wayCount_12, if_pos (show (6 : Int32) < nI 7 by decide)]
  · intro F t
    show L_X0_wayCount_4 _ u (F + 1) (nI t) (nI 24) = _
    rw [L_X0_wayCount_4, if_pos (show (24 : Int32) ≤ nI 24 by decide)]
theorem bwS_lt {g : Nat → Nat} {m b : Nat} (hm : m < 168) (hb : b < 168) : bwS g m b < 168 := by unfold bwS; split <;> assumption
theorem fu_P {α : Type} {g : Nat → α → α} {P : α → Prop} {a : α} (h0 : P a) : ∀ n, (∀ i x, i < n → P x → P (g i x)) → P (fu g n a)
  | 0, _ => h0
  | n + 1, h => h n _ (by omega) (fu_P h0 n fun i x hi hx => h i x (by omega) hx)
theorem bestWay_ok (C : ClG f u v) : f_X0_bestWay u = some (nI (tolN (fu (bwS (wrN v f)) 168 0))) := by
  have h1 := (up_loop (fun F a (t : Nat) => L_X0_bestWay_4 (fun x1 x2 => some x1) u F (nI (tolN t)) (nI a)) (fun a t => fu (fun b => bwS (wrN v f) (7 * a + b)) 7 t) 24 (fun t => some (nI (tolN t))) (fun _ t => t < 168) ?_ ?_ ?_ 0 (by omega) FU (FU_gt (by omega))).1
  · refine Eq.trans h1 ?_
    rw [fu_flat (w := 7) 24]
  · intro F a t ha ht
    show L_X0_bestWay_4 _ u (F + 1) (nI (tolN t)) (nI a) = _
    rw [L_X0_bestWay_4, if_neg (show ¬ (24 : Int32) ≤ nI a from nI_ge (b := 24) ha (by omega))]
    have h2 := (up_loop (fun F' b (t : Nat) => L_X0_bestWay_12 (fun x1 x3 => L_X0_bestWay_4 (fun x1 x2 => some x1) u F x1 (nI a + 1)) u (nI a) F' (nI (tolN t)) (nI b)) (fun b => bwS (wrN v f) (7 * a + b)) 7 (fun t => L_X0_bestWay_4 (fun x1 x2 => some x1) u F (nI (tolN t)) (nI a + 1)) (fun _ t => t < 168) ?_ ?_ ?_ t ht FU (FU_gt (by omega))).1
    · refine Eq.trans h2 ?_
      rw [nI_1]
    · intro F' b t hb ht
      show L_X0_bestWay_12 _ u (nI a) (F' + 1) (nI (tolN t)) (nI b) = _
      have hw := wrN_le C (7 * a + b)
      have hw2 := wrN_le C t
      rw [L_X0_bestWay_12, if_neg (show ¬ (6 : Int32) < nI b from nI_nlt (a := 6) (b := b) (by omega) (by omega)), code_ok hb, falseU_ok C (show 7 * a + b < 168 by omega), falseU_ok C ht, Option.bind_some, Option.bind_some, nI_1 b]
      unfold bwS
      by_cases q : wrN v f t ≤ wrN v f (7 * a + b)
      · rw [if_pos (nI_le q (by omega)), if_pos q]
      · rw [if_neg (nI_ge (by omega) (by omega)), if_neg q]
    · intro b t hb ht
      exact bwS_lt (by omega) ht
    · intro F' t _
      show L_X0_bestWay_12 _ u (nI a) (F' + 1) (nI (tolN t)) (nI 7) = _
      rw [L_X0_bestWay_12, if_pos (show (6 : Int32) < nI 7 by decide)]
  · intro a t ha ht
    exact fu_P (P := fun t => t < 168) ht 7 fun i x hi hx => bwS_lt (by omega) hx
  · intro F t _
    show L_X0_bestWay_4 _ u (F + 1) (nI (tolN t)) (nI 24) = _
    rw [L_X0_bestWay_4, if_pos (show (24 : Int32) ≤ nI 24 by decide)]
theorem told_ok {m : Nat} (hm : m < 168) : f_X8_told (nI m) = some (nI (tolN m)) := by
  unfold f_X8_told
  rw [show (7 : Int32) = nI 7 from rfl, pk_rem (by omega) (by omega) (by omega), pk_div (by omega) (by omega) (by omega), show (10 : Int32) * nI (m / 7) = nI (10 * (m / 7)) from pk_mul 10 _, nI_add]; rfl
theorem waysV_ok (C : ClG f u v) (x : Int32) (hx : f_X8_in x 0 1 = some 1) : f_X8_ways v x = if x = 0 then some (nI (nbr (fun m => decide (wrN v f m = 0)) 168)) else fo (fun m => decide (wrN v f m = 0)) (fun m => some (nI (tolN m))) 168 (some (-9)) := by
  have h := up_loop (fun F i (t : Nat × Nat) => L_X8_ways_19 (fun x2 x3 x4 => if x = 0 then some x2 else some x3) v F (nI t.1) (if t.1 = 0 then -9 else nI (tolN t.2)) (nI i)) (cf1 (fun m => decide (wrN v f m = 0))) 168 (fun t => if x = 0 then some (nI t.1) else some (if t.1 = 0 then -9 else nI (tolN t.2))) (fun i t => t.1 ≤ i) ?_ ?_ ?_ (0, 0) (Nat.le_refl 0) FU (FU_gt (by omega))
  · unfold f_X8_ways
    rw [hx, Option.bind_some, i1]
    refine Eq.trans h.1 ?_
    obtain ⟨k1, k2⟩ := cf1_ok (fun m => decide (wrN v f m = 0)) 0 168
    rw [k2, k1]
    by_cases q : x = 0
    · rw [if_pos q, if_pos q]
    · rw [if_neg q, if_neg q]; split <;> rfl
  · intro F i t hi ht
    show L_X8_ways_19 _ v (F + 1) (nI t.1) (if t.1 = 0 then -9 else nI (tolN t.2)) (nI i) = _
    have hw := wrN_le C i
    rw [L_X8_ways_19, if_neg (show ¬ (168 : Int32) ≤ nI i from nI_ge (b := 168) hi (by omega)), wrongV_ok C hi, Option.bind_some, nI_1, nI_1]
    rw [cf1_d]
    by_cases q : wrN v f i = 0
    · rw [q, if_pos (show nI 0 = 0 from rfl), if_pos rfl]
      by_cases w : t.1 = 0
      · rw [w, told_ok hi]; rfl
      · rw [if_neg (nI_ne0 (by omega) (by omega))]
        simp only [if_neg w, if_neg (show ¬ t.1 + 1 = 0 by omega)]
    · rw [if_neg (nI_ne0 (by omega) (by omega)), if_neg q]
  · intro i t hi ht
    unfold cf1
    split
    · show t.1 + 1 ≤ i + 1; omega
    · omega
  · intro F t _
    show L_X8_ways_19 _ v (F + 1) (nI t.1) (if t.1 = 0 then -9 else nI (tolN t.2)) (nI 168) = _
    rw [L_X8_ways_19, if_pos (show (168 : Int32) ≤ nI 168 by decide)]
theorem ways_ok (C : ClG f u v) (x : Int32) : Eo (f_X7_ways u x) (f_X8_ways v x) := by
  rcases in01 x with ⟨e, h⟩ | ⟨e, h1, h2⟩
  · rw [waysV_ok C x e]
    obtain ⟨b1, b2, b3⟩ := bw_ok (wrN v f) 168
    have hb : fu (bwS (wrN v f)) 168 0 < 168 := by omega
    unfold f_X7_ways
    rw [wayCount_ok C, bestWay_ok C, Option.bind_some, Option.bind_some, falseU_ok C hb, Option.bind_some]
    rcases h with rfl | rfl
    · rw [if_pos rfl, if_pos rfl]; exact ⟨_, rfl, rfl⟩
    · rw [i1, i1, if_pos rfl]
      have hw := wrN_le C (fu (bwS (wrN v f)) 168 0)
      by_cases q : wrN v f (fu (bwS (wrN v f)) 168 0) = 0
      · rw [q, if_pos (show nI 0 = 0 from rfl), fo_first (p := fun m => decide (wrN v f m = 0)) (b := fu (bwS (wrN v f)) 168 0) (decide_eq_true q) (fun m hm => decide_eq_false (by have := b3 m hm; omega)) hb]
        exact ⟨_, rfl, rfl⟩
      · rw [if_neg (nI_ne0 (by omega) (by omega)), fo_none (p := fun m => decide (wrN v f m = 0)) (fun m hm => decide_eq_false (by have := b2 m hm; omega))]
        exact ⟨_, rfl, rfl⟩
  · unfold f_X7_ways f_X8_ways
    rw [e, Option.bind_some, i0, if_neg h1, if_neg h2]; exact ⟨_, rfl, rfl⟩
theorem falses_ok (C : ClG f u v) (x : Int32) : Eo (f_X7_falses u x) (f_X8_falses v x) := by
  rcases in01 x with ⟨e, h⟩ | ⟨e, h1, h2⟩
  · obtain ⟨b1, b2, b3⟩ := bw_ok (wrN v f) 168
    have hb : fu (bwS (wrN v f)) 168 0 < 168 := by omega
    have V : f_X8_falses v x = if x = 0 then some (nI (wrN v f (fu (bwS (wrN v f)) 168 0))) else some (nI (tolN (fu (bwS (wrN v f)) 168 0))) := by
      unfold f_X8_falses
      rw [e, Option.bind_some, i1]
      have h := up_loop (fun F i (t : Nat) => L_X8_falses_15 (fun x2 x3 => if x = 0 then Option.bind (f_X8_wrong v x2) fun r53 => some r53 else Option.bind (f_X8_told x2) fun r60 => some r60) v F (nI t) (nI (1 + i))) (fun i => bwS (wrN v f) (1 + i)) 167 (fun t => if x = 0 then Option.bind (f_X8_wrong v (nI t)) fun r53 => some r53 else Option.bind (f_X8_told (nI t)) fun r60 => some r60) (fun _ t => t < 168) ?_ ?_ ?_ 0 (by omega) FU (FU_gt (by omega))
      · refine Eq.trans h.1 ?_
        have e2 : fu (fun i => bwS (wrN v f) (1 + i)) 167 0 = fu (bwS (wrN v f)) 168 0 := by
          rw [show (168 : Nat) = 1 + 167 from rfl, fu_add]
          congr 1
          show 0 = bwS (wrN v f) 0 0
          unfold bwS; rw [if_pos (Nat.le_refl _)]
        rw [e2, wrongV_ok C hb, told_ok hb]; rfl
      · intro F i t hi ht
        show L_X8_falses_15 _ v (F + 1) (nI t) (nI (1 + i)) = _
        have hw := wrN_le C (1 + i)
        have hw2 := wrN_le C t
        rw [L_X8_falses_15, if_neg (show ¬ (168 : Int32) ≤ nI (1 + i) from nI_ge (b := 168) (by omega) (by omega)), wrongV_ok C (show 1 + i < 168 by omega), wrongV_ok C ht, Option.bind_some, Option.bind_some, nI_1]
        show _ = L_X8_falses_15 _ v F (nI (bwS (wrN v f) (1 + i) t)) (nI (1 + i + 1))
        unfold bwS
        by_cases q : wrN v f t ≤ wrN v f (1 + i)
        · rw [if_pos (nI_le q (by omega)), if_pos q]
        · rw [if_neg (nI_ge (by omega) (by omega)), if_neg q]
      · intro i t hi ht
        exact bwS_lt (by omega) ht
      · intro F t _
        show L_X8_falses_15 _ v (F + 1) (nI t) (nI (1 + 167)) = _
        rw [L_X8_falses_15, if_pos (show (168 : Int32) ≤ nI (1 + 167) by decide)]
    rw [V]
    unfold f_X7_falses
    rw [bestWay_ok C, Option.bind_some, Option.bind_some, falseU_ok C hb, Option.bind_some]
    rcases h with rfl | rfl
    · exact ⟨_, rfl, rfl⟩
    · exact ⟨_, rfl, rfl⟩
  · unfold f_X7_falses f_X8_falses
    rw [e, Option.bind_some, i0, if_neg h1, if_neg h2]; exact ⟨_, rfl, rfl⟩
end WY
