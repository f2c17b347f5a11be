-- ===== laws and ways =====
theorem fu_add {α : Type} {f : Nat → α → α} {p : Nat} {a : α} : ∀ q, fu f (p + q) a = fu (fun b => f (p + b)) q (fu f p a)
  | 0 => rfl
  | q + 1 => by show f (p + q) (fu f (p + q) a) = f (p + q) _; rw [fu_add q]
theorem fu_flat {α : Type} {f : Nat → α → α} {w : Nat} {a : α} : ∀ n, fu (fun i t => fu (fun b => f (w * i + b)) w t) n a = fu f (w * n) a
  | 0 => rfl
  | n + 1 => by show fu (fun b => f (w * n + b)) w (fu _ n a) = _; rw [fu_flat n, Nat.mul_succ, fu_add]
/-- the first of n that ends with its own answer, else K -/
def fo {ρ : Type} (p : Nat → Bool) (r : Nat → ρ) : Nat → ρ → ρ
  | 0, K => K
  | n + 1, K => fo p r n (if p n = true then r n else K)
theorem fo_add {ρ : Type} {p : Nat → Bool} {r : Nat → ρ} {a : Nat} {K : ρ} : ∀ b, fo p r (a + b) K = fo p r a (fo (fun i => p (a + i)) (fun i => r (a + i)) b K)
  | 0 => rfl
  | b + 1 => by show fo p r (a + b) _ = _; rw [fo_add b]; rfl
theorem fo_loop {ρ : Type} (W : Nat → Nat → ρ) (p : Nat → Bool) (r : Nat → ρ) (N : Nat) (K : ρ)
    (hs : ∀ F i, i < N → W (F + 1) i = if p i = true then r i else W F (i + 1)) (he : ∀ F, W (F + 1) N = K) (F : Nat) (hF : N < F) : W F 0 = fo p r N K := by
  have h : ∀ i, i ≤ N → W F 0 = fo p r i (W (F - i) i) := by
    intro i
    induction i with
    | zero => intro _; rfl
    | succ i ih =>
      intro hi
      rw [ih (by omega), show F - i = (F - (i + 1)) + 1 by omega, hs _ i (by omega)]
      rfl
  rw [h N (Nat.le_refl N), show F - N = (F - N - 1) + 1 by omega, he]
theorem fo_congr {ρ : Type} {p q : Nat → Bool} {r t : Nat → ρ} : ∀ {n : Nat} {K : ρ}, (∀ i, i < n → p i = q i ∧ r i = t i) → fo p r n K = fo q t n K
  | 0, _, _ => rfl
  | n + 1, K, h => by
    show fo p r n (if p n = true then r n else K) = fo q t n (if q n = true then t n else K)
    rw [(h n (by omega)).1, (h n (by omega)).2, fo_congr fun i hi => h i (by omega)]
/-- number of the first n that hold -/
def nbr (p : Nat → Bool) (n : Nat) : Nat := fu (ctS p) n 0
theorem nbr_le {p : Nat → Bool} (n : Nat) : nbr p n ≤ n := ctS_le n
theorem ctS_s (p : Nat → Bool) (i n : Nat) : nI (ctS p i n) = if p i = true then nI (n + 1) else nI n := by unfold ctS; cases p i <;> rfl
/-- count and first, as the other side goes -/
def cf1 (p : Nat → Bool) (i : Nat) (t : Nat × Nat) : Nat × Nat := if p i = true then (t.1 + 1, if t.1 = 0 then i else t.2) else t
theorem cf1_ok (p : Nat → Bool) (d : Nat) : ∀ n, (fu (cf1 p) n (0, d)).1 = nbr p n ∧ ∀ {ρ : Type} (r : Nat → ρ) (K : ρ), fo p r n K = if (fu (cf1 p) n (0, d)).1 = 0 then K else r (fu (cf1 p) n (0, d)).2
  | 0 => ⟨rfl, fun r K => rfl⟩
  | n + 1 => by
    obtain ⟨h1, h2⟩ := cf1_ok p d n
    have e : fu (cf1 p) (n + 1) (0, d) = cf1 p n (fu (cf1 p) n (0, d)) := rfl
    have e2 : nbr p (n + 1) = ctS p n (nbr p n) := rfl
    rw [e, e2, ← h1]
    generalize fu (cf1 p) n (0, d) = t at *
    unfold cf1 ctS
    refine ⟨?_, fun r K => ?_⟩
    · cases p n <;> rfl
    · show fo p r n (if p n = true then r n else K) = _
      rw [h2]
      by_cases q : p n = true
      · rw [if_pos q, if_pos q]
        by_cases w : t.1 = 0
        · rw [if_pos w, if_pos w]; simp
        · rw [if_neg w, if_neg w]; simp
      · rw [if_neg q, if_neg q]
/-- says law m the side s at hour h -/
def lwS (m : Nat) (h : Int32) : Int32 := (f_X8_sideBy (nI (m / 10)) (nI (m % 10)) h).getD 0
theorem lwS_ok {m : Nat} (hm : m < 20) (h : Int32) : f_X8_sideBy (nI (m / 10)) (nI (m % 10)) h = some (lwS m h) ∧ (lwS m h = 0 ∨ lwS m h = 1) := by
  have : nI (m / 10) = 0 ∨ nI (m / 10) = 1 := by
    rcases (show m / 10 = 0 ∨ m / 10 = 1 by omega) with e | e <;> rw [e]
    · exact Or.inl rfl
    · exact Or.inr rfl
  unfold lwS
  rcases sideBy_some (nI (m / 10)) (nI (m % 10)) h this with e | e <;> rw [e]
  · exact ⟨rfl, Or.inl rfl⟩
  · exact ⟨rfl, Or.inr rfl⟩
def lwB (v : St) (f m : Nat) : Bool := alN (fun k => decide (lwS m (v.2.1 10 (2 * k)) = v.2.1 10 (2 * k + 1))) f
section LW
variable {u v : St} {f : Nat}
/-- the first list -/
def ClF (f : Nat) (u v : St) : Prop := f ≤ 6 ∧ u.1 13 = nI f ∧ v.1 3 = nI f ∧ ∀ k : Nat, k < f → u.2.1 39 k = v.2.1 10 (2 * k) ∧ u.2.1 40 k = v.2.1 10 (2 * k + 1)
theorem lawU_ok (C : ClF f u v) {m : Nat} (hm : m < 20) : f_X0_isLaw u (nI (m / 10)) (nI (m % 10)) = some (bI (lwB v f m)) := by
  obtain ⟨c1, c2, c3, c4⟩ := C
  have h := ex_loop (fun F i => L_X0_isLaw_2 (fun x3 => some 1) u (nI (m / 10)) (nI (m % 10)) F (nI i)) (fun k => decide (lwS m (v.2.1 10 (2 * k)) = v.2.1 10 (2 * k + 1))) f (some 1) (some 0) ?_ ?_ FU (FU_gt (by omega))
  · refine Eq.trans h ?_
    unfold lwB
    cases alN (fun k => decide (lwS m (v.2.1 10 (2 * k)) = v.2.1 10 (2 * k + 1))) f <;> rfl
  · intro F i hi
    show L_X0_isLaw_2 _ u (nI (m / 10)) (nI (m % 10)) (F + 1) (nI i) = _
    obtain ⟨d1, d2⟩ := c4 i hi
    rw [L_X0_isLaw_2, c2, if_neg (nI_ge hi (by omega)), oobF (show i < 6 by omega) (by decide), fT, tc_nI (by omega), d1, d2, sideBy_eq, (lwS_ok hm _).1, Option.bind_some, nI_1]
    by_cases q : lwS m (v.2.1 10 (2 * i)) = v.2.1 10 (2 * i + 1)
    · rw [if_pos q, if_pos (decide_eq_true q)]
    · rw [if_neg q, if_neg (fun t => q (of_decide_eq_true t))]
  · intro F
    show L_X0_isLaw_2 _ u (nI (m / 10)) (nI (m % 10)) (F + 1) (nI f) = _
    rw [L_X0_isLaw_2, c2, if_pos (Int32.le_refl _)]
theorem lawV_ok (C : ClF f u v) {m : Nat} (hm : m < 20) : f_X8_isLaw v (nI m) = some (bI (lwB v f m)) := by
  obtain ⟨c1, c2, c3, c4⟩ := C
  have h := up_loop' (fun F i (t : Bool) => L_X8_isLaw_4 (fun x2 x3 => if nb x2 then some x2 else none) v (nI m) F (bI t) (nI i)) (fun k t => t && decide (lwS m (v.2.1 10 (2 * k)) = v.2.1 10 (2 * k + 1))) f (fun t => some (bI t)) ?_ ?_ true FU (FU_gt (by omega))
  · rw [fu_and] at h; exact h
  · intro F i t hi
    show L_X8_isLaw_4 _ v (nI m) (F + 1) (bI t) (nI i) = _
    rw [L_X8_isLaw_4, c3, if_neg (nI_ge hi (by omega)), nI_1]
    cases t
    · rw [if_pos (show bI false = 0 from rfl)]; rfl
    · rw [if_neg (show ¬ bI true = 0 by decide), show (2 : Int32) * nI i = nI (2 * i) from pk_mul 2 i, oobF (show 2 * i < 12 by omega) (by decide), fT, show nI (2 * i) + 1 = nI (2 * i + 1) from nI_1 _, oobF (show 2 * i + 1 < 12 by omega) (by decide), tc_nI (by omega), tc_nI (by omega), show (10 : Int32) = nI 10 from rfl, pk_rem (by omega) (by omega) (by omega), pk_div (by omega) (by omega) (by omega), (lwS_ok hm _).1, Option.bind_some, fT]
      show _ = L_X8_isLaw_4 _ v (nI m) F (bI (true && _)) (nI (i + 1))
      by_cases q : lwS m (v.2.1 10 (2 * i)) = v.2.1 10 (2 * i + 1)
      · rw [if_pos q, decide_eq_true q]; rfl
      · rw [if_neg q, decide_eq_false q]; rfl
  · intro F t
    show L_X8_isLaw_4 _ v (nI m) (F + 1) (bI t) (nI f) = _
    rw [L_X8_isLaw_4, c3, if_pos (Int32.le_refl _), nbb]
/-- laws that look to side s at hour h -/
theorem facing_ok (C : ClF f u v) (s h : Int32) : f_X0_lawsFacing u s h = some (nI (nbr (fun m => lwB v f m && decide (lwS m h = s)) 20)) := by
  have h1 := up_loop' (fun F a (t : Nat) => L_X0_lawsFacing_5 (fun x3 x4 => some x3) u s h F (nI t) (nI a)) (fun a t => fu (fun b => ctS (fun m => lwB v f m && decide (lwS m h = s)) (10 * a + b)) 10 t) 2 (fun t => some (nI t)) ?_ ?_ 0 FU (FU_gt (by omega))
  · refine Eq.trans h1 ?_
    rw [fu_flat (w := 10) 2]; rfl
  · intro F a t ha
    show L_X0_lawsFacing_5 _ u s h (F + 1) (nI t) (nI a) = _
    rw [L_X0_lawsFacing_5, if_neg (show ¬ (1 : Int32) < nI a from nI_nlt (a := 1) (b := a) (by omega) (by omega))]
    have h2 := up_loop' (fun F' b (t : Nat) => L_X0_lawsFacing_14 (fun x3 x5 => L_X0_lawsFacing_5 (fun x3 x4 => some x3) u s h F x3 (nI a + 1)) u s h (nI a) F' (nI t) (nI b)) (fun b => ctS (fun m => lwB v f m && decide (lwS m h = s)) (10 * a + b)) 10 (fun t => L_X0_lawsFacing_5 (fun x3 x4 => some x3) u s h F (nI t) (nI a + 1)) ?_ ?_ t FU (FU_gt (by omega))
    · refine Eq.trans h2 ?_
      rw [nI_1]
    · intro F' b t hb
      show L_X0_lawsFacing_14 _ u s h (nI a) (F' + 1) (nI t) (nI b) = _
      have e1 := lawU_ok C (m := 10 * a + b) (by omega)
      have e2 := (lwS_ok (m := 10 * a + b) (by omega) h).1
      rw [show (10 * a + b) / 10 = a by omega, show (10 * a + b) % 10 = b by omega] at e1 e2
      rw [L_X0_lawsFacing_14, if_neg (show ¬ (9 : Int32) < nI b from nI_nlt (a := 9) (b := b) (by omega) (by omega)), e1, Option.bind_some, sideBy_eq, e2, nI_1 b, nI_1 t]
      unfold ctS
      dsimp only
      cases lwB v f (10 * a + b)
      · rfl
      · rw [show bI true = 1 from rfl, i1, Option.bind_some]
        by_cases q : lwS (10 * a + b) h = s
        · rw [if_pos q, decide_eq_true q]; rfl
        · rw [if_neg q, decide_eq_false q]; rfl
    · intro F' t
      show L_X0_lawsFacing_14 _ u s h (nI a) (F' + 1) (nI t) (nI 10) = _
      rw [L_X0_lawsFacing_14, if_pos (show (9 : Int32) < nI 10 by decide)]
  · intro F t
    show L_X0_lawsFacing_5 _ u s h (F + 1) (nI t) (nI 2) = _
    rw [L_X0_lawsFacing_5, if_pos (show (1 : Int32) < nI 2 by decide)]
theorem nbr_split {p : Nat → Bool} {g : Nat → Int32} : ∀ n, (∀ m, m < n → g m = 0 ∨ g m = 1) → nbr (fun m => p m && decide (g m = 0)) n + nbr (fun m => p m && decide (g m = 1)) n = nbr p n
  | 0, _ => rfl
  | n + 1, h => by
    have ih := nbr_split (p := p) (g := g) n fun m hm => h m (by omega)
    have e : ∀ q : Nat → Bool, nbr q (n + 1) = ctS q n (nbr q n) := fun _ => rfl
    rw [e, e, e]
    generalize nbr (fun m => p m && decide (g m = 0)) n = A at *
    generalize nbr (fun m => p m && decide (g m = 1)) n = B at *
    rw [← ih]
    unfold ctS
    dsimp only
    rcases h n (by omega) with e | e <;> rw [e] <;> cases p n
    · rfl
    · show A + 1 + B = A + B + 1; omega
    · rfl
    · show A + (B + 1) = A + B + 1; omega
theorem lawCount_ok (C : ClF f u v) : f_X0_lawCount u = some (nI (nbr (lwB v f) 20)) := by
  unfold f_X0_lawCount
  rw [facing_ok C, facing_ok C, Option.bind_some, Option.bind_some, nI_add, nbr_split 20 fun m hm => (lwS_ok hm 0).2]
theorem firstLaw_ok (C : ClF f u v) : f_X0_firstLaw u = fo (lwB v f) (fun m => some (nI m)) 20 (some (-9)) := by
  have inner : ∀ (a F : Nat), a < 2 → L_X0_firstLaw_2 (fun x1 => some (-9)) u (F + 1) (nI a) = fo (fun b => lwB v f (10 * a + b)) (fun b => some (nI (10 * a + b))) 10 (L_X0_firstLaw_2 (fun x1 => some (-9)) u F (nI (a + 1))) := by
    intro a F ha
    rw [L_X0_firstLaw_2, if_neg (show ¬ (1 : Int32) < nI a from nI_nlt (a := 1) (b := a) (by omega) (by omega))]
    refine fo_loop (fun F' b => L_X0_firstLaw_9 (fun x2 => L_X0_firstLaw_2 (fun x1 => some (-9)) u F (nI a + 1)) u (nI a) F' (nI b)) _ _ 10 _ ?_ ?_ FU (FU_gt (by omega))
    · intro F' b hb
      show L_X0_firstLaw_9 _ u (nI a) (F' + 1) (nI b) = _
      have e1 := lawU_ok C (m := 10 * a + b) (by omega)
      rw [show (10 * a + b) / 10 = a by omega, show (10 * a + b) % 10 = b by omega] at e1
      rw [L_X0_firstLaw_9, if_neg (show ¬ (9 : Int32) < nI b from nI_nlt (a := 9) (b := b) (by omega) (by omega)), e1, Option.bind_some, nI_1 b, show (10 : Int32) * nI a = nI (10 * a) from pk_mul 10 a, nI_add]
      cases lwB v f (10 * a + b) <;> rfl
    · intro F'
      show L_X0_firstLaw_9 _ u (nI a) (F' + 1) (nI 10) = _
      rw [L_X0_firstLaw_9, if_pos (show (9 : Int32) < nI 10 by decide), nI_1]
  have h0 := inner 0 1999 (by omega)
  have h1 := inner 1 1998 (by omega)
  have h2 : L_X0_firstLaw_2 (fun x1 => some (-9)) u 1998 (nI 2) = some (-9) := by
    rw [show (1998 : Nat) = 1997 + 1 from rfl, L_X0_firstLaw_2, if_pos (show (1 : Int32) < nI 2 by decide)]
  rw [h2] at h1
  rw [h1] at h0
  refine Eq.trans h0 ?_
  rw [show (20 : Nat) = 10 + 10 from rfl, fo_add]
  refine Eq.trans ?_ (fo_congr (p := fun b => lwB v f (10 * 0 + b)) (r := fun b => some (nI (10 * 0 + b))) fun i _ => by rw [Nat.mul_zero, Nat.zero_add]; exact ⟨rfl, rfl⟩)
  rfl
theorem lawsV_ok (C : ClF f u v) (x : Int32) (hx : f_X8_in x 0 1 = some 1) : f_X8_laws v x = if x = 0 then some (nI (nbr (lwB v f) 20)) else fo (lwB v f) (fun m => some (nI m)) 20 (some (-9)) := by
  have g : ∀ t : Nat × Nat, (if t.1 = 0 then (-9 : Int32) else nI t.2) = if t.1 = 0 then -9 else nI t.2 := fun _ => rfl
  have h := up_loop (fun F i (t : Nat × Nat) => L_X8_laws_19 (fun x2 x3 x4 => if x = 0 then some x2 else some x3) v F (nI t.1) (if t.1 = 0 then -9 else nI t.2) (nI i)) (cf1 (lwB v f)) 20 (fun t => if x = 0 then some (nI t.1) else some (if t.1 = 0 then -9 else nI t.2)) (fun i t => t.1 ≤ i) ?_ ?_ ?_ (0, 0) (Nat.le_refl 0) FU (FU_gt (by omega))
  · unfold f_X8_laws
    rw [hx, Option.bind_some, i1]
    refine Eq.trans h.1 ?_
    obtain ⟨k1, k2⟩ := cf1_ok (lwB v f) 0 20
    rw [k2, k1]
    by_cases q : x = 0
    · rw [if_pos q, if_pos q]
    · rw [if_neg q, if_neg q]; split <;> rfl
  · intro F i t hi ht
    show L_X8_laws_19 _ v (F + 1) (nI t.1) (if t.1 = 0 then -9 else nI t.2) (nI i) = _
    rw [L_X8_laws_19, if_neg (show ¬ (20 : Int32) ≤ nI i from nI_ge (b := 20) hi (by omega)), lawV_ok C hi, Option.bind_some, nI_1, nI_1]
    unfold cf1
    cases q : lwB v f i
    · rfl
    · rw [show bI true = 1 from rfl, i1, if_pos rfl]
      by_cases w : t.1 = 0
      · rw [w]; rfl
      · rw [if_neg (nI_ne0 (by omega) (by omega))]
        simp only [if_neg w, if_neg (show ¬ t.1 + 1 = 0 by omega)]
  · intro i t hi ht
    unfold cf1
    split
    · show t.1 + 1 ≤ i + 1; omega
    · omega
  · intro F t _
    show L_X8_laws_19 _ v (F + 1) (nI t.1) (if t.1 = 0 then -9 else nI t.2) (nI 20) = _
    rw [L_X8_laws_19, if_pos (show (20 : Int32) ≤ nI 20 by decide)]
theorem in01 (x : Int32) : (f_X8_in x 0 1 = some 1 ∧ (x = 0 ∨ x = 1)) ∨ (f_X8_in x 0 1 = some 0 ∧ ¬ x = 0 ∧ ¬ x = 1) := by
  rcases in_cases x 0 1 with ⟨e, h1, h2⟩ | e
  · left
    obtain ⟨j, hj, rfl⟩ := rng (n := 1) (by decide) h1 h2
    refine ⟨e, ?_⟩
    rcases (show j = 0 ∨ j = 1 by omega) with e | e <;> rw [e]
    · exact Or.inl rfl
    · exact Or.inr rfl
  · right
    refine ⟨e, fun q => ?_, fun q => ?_⟩ <;> rw [q] at e <;> revert e <;> decide
theorem fo_some {p : Nat → Bool} {r : Nat → Option Int32} : ∀ {n : Nat} {K : Option Int32}, (∀ i, ∃ z, r i = some z) → (∃ z, K = some z) → ∃ z, fo p r n K = some z
  | 0, _, _, h => h
  | n + 1, K, hr, h => by
    show ∃ z, fo p r n (if p n = true then r n else K) = some z
    refine fo_some hr ?_
    split
    · exact hr n
    · exact h
theorem laws_ok (C : ClF f u v) (x : Int32) : Eo (f_X7_laws u x) (f_X8_laws v x) := by
  rcases in01 x with ⟨e, h⟩ | ⟨e, h1, h2⟩
  · rw [lawsV_ok C x e]
    unfold f_X7_laws
    rw [lawCount_ok C, firstLaw_ok C]
    obtain ⟨z, hz⟩ := fo_some (p := lwB v f) (r := fun m => some (nI m)) (n := 20) (K := some (-9)) (fun i => ⟨_, rfl⟩) ⟨_, rfl⟩
    rw [hz]
    rcases h with rfl | rfl
    · exact ⟨_, rfl, rfl⟩
    · exact ⟨_, rfl, rfl⟩
  · unfold f_X7_laws f_X8_laws
    rw [e, Option.bind_some, i0, if_neg h1, if_neg h2]; exact ⟨_, rfl, rfl⟩
-- the hour to try
def mx (a b : Nat) : Nat := if a < b then b else a
theorem mx_le {a b n : Nat} (h : a ≤ n) (h2 : b ≤ n) : mx a b ≤ n := by unfold mx; split <;> assumption
def tr2 (c z i : Nat) (t : Nat × Nat × Bool) : Nat × Nat × Bool := if t.2.1 ≤ mx (c - z) z then t else (i, mx (c - z) z, true)
def tr1 (c : Nat) (g : Nat → Nat) (i : Nat) (t : Nat × Nat × Bool) : Nat × Nat × Bool := tr2 c (g i) i t
def hr9 (t : Nat × Nat × Bool) : Int32 := if t.2.2 = true then nI t.1 else -9
theorem tr2_le {c z i : Nat} {t : Nat × Nat × Bool} (hz : z ≤ c) (hc : c ≤ 20) (ht : t.2.1 ≤ 20) : (tr2 c z i t).2.1 ≤ 20 := by
  unfold tr2
  split
  · exact ht
  · exact mx_le (by omega) (by omega)
theorem try_ok (C : ClF f u v) : Eo (f_X7_tryNext u) (f_X8_tryNext v) := by
  have hg : ∀ h, nbr (fun m => lwB v f m && decide (lwS m h = 0)) 20 + nbr (fun m => lwB v f m && decide (lwS m h = 1)) 20 = nbr (lwB v f) 20 := fun h => nbr_split 20 fun m hm => (lwS_ok hm h).2
  have hc := nbr_le (p := lwB v f) 20
  have U : f_X0_bestHourToTry u = some (hr9 (fu (tr1 (nbr (lwB v f) 20) (fun i => nbr (fun m => lwB v f m && decide (lwS m (nI i) = 1)) 20)) 30 (0, nbr (lwB v f) 20, false))) := by
    unfold f_X0_bestHourToTry
    rw [lawCount_ok C, Option.bind_some]
    refine (up_loop (fun F i (t : Nat × Nat × Bool) => L_X0_bestHourToTry_10 (fun x1 x2 x3 => some x1) u F (hr9 t) (nI t.2.1) (nI i)) _ 30 (fun t => some (hr9 t)) (fun i t => t.2.1 ≤ 20) ?_ ?_ ?_ (0, nbr (lwB v f) 20, false) hc FU (FU_gt (by omega))).1
    · intro F i t hi ht
      show L_X0_bestHourToTry_10 _ u (F + 1) (hr9 t) (nI t.2.1) (nI i) = L_X0_bestHourToTry_10 _ u F (hr9 (tr2 (nbr (lwB v f) 20) (nbr (fun m => lwB v f m && decide (lwS m (nI i) = 1)) 20) i t)) (nI (tr2 (nbr (lwB v f) 20) (nbr (fun m => lwB v f m && decide (lwS m (nI i) = 1)) 20) i t).2.1) (nI (i + 1))
      rw [L_X0_bestHourToTry_10, if_neg (show ¬ (29 : Int32) < nI i from nI_nlt (a := 29) (b := i) (by omega) (by omega)), facing_ok C, facing_ok C, Option.bind_some, Option.bind_some, nI_1]
      have h3 := hg (nI i)
      generalize nbr (fun m => lwB v f m && decide (lwS m (nI i) = 0)) 20 = A at *
      generalize nbr (fun m => lwB v f m && decide (lwS m (nI i) = 1)) 20 = B at *
      rw [show (if nI A < nI B then nI B else nI A) = nI (mx A B) by
        unfold mx
        by_cases q : A < B
        · rw [if_pos (nI_lt q (by omega)), if_pos q]
        · rw [if_neg (nI_nlt (by omega) (by omega)), if_neg q]]
      have hX : mx A B ≤ 20 := mx_le (by omega) (by omega)
      unfold tr2
      rw [show nbr (lwB v f) 20 - B = A by omega]
      generalize mx A B = X at *
      by_cases q : t.2.1 ≤ X
      · rw [if_pos (nI_le q (by omega)), if_pos q]
      · rw [if_neg (nI_ge (by omega) (by omega)), if_neg q]; rfl
    · intro i t hi ht
      exact tr2_le (by have := hg (nI i); dsimp only; omega) hc ht
    · intro F t _
      show L_X0_bestHourToTry_10 _ u (F + 1) (hr9 t) (nI t.2.1) (nI 30) = _
      rw [L_X0_bestHourToTry_10, if_pos (show (29 : Int32) < nI 30 by decide)]
  have V : f_X8_tryNext v = some (hr9 (fu (tr1 (nbr (lwB v f) 20) (fun i => nbr (fun m => lwB v f m && decide (lwS m (nI i) = 1)) 20)) 30 (0, nbr (lwB v f) 20, false))) := by
    unfold f_X8_tryNext
    rw [lawsV_ok C 0 (by decide), if_pos rfl, Option.bind_some]
    refine (up_loop (fun F i (t : Nat × Nat × Bool) => L_X8_tryNext_14 (fun x2 x3 x4 => some x2) v (nI (nbr (lwB v f) 20)) F (hr9 t) (nI t.2.1) (nI i)) _ 30 (fun t => some (hr9 t)) (fun i t => t.2.1 ≤ 20) ?_ ?_ ?_ (0, nbr (lwB v f) 20, false) hc FU (FU_gt (by omega))).1
    · intro F i t hi ht
      show L_X8_tryNext_14 _ v (nI (nbr (lwB v f) 20)) (F + 1) (hr9 t) (nI t.2.1) (nI i) = L_X8_tryNext_14 _ v (nI (nbr (lwB v f) 20)) F (hr9 (tr2 (nbr (lwB v f) 20) (nbr (fun m => lwB v f m && decide (lwS m (nI i) = 1)) 20) i t)) (nI (tr2 (nbr (lwB v f) 20) (nbr (fun m => lwB v f m && decide (lwS m (nI i) = 1)) 20) i t).2.1) (nI (i + 1))
      rw [L_X8_tryNext_14, if_neg (show ¬ (30 : Int32) ≤ nI i from nI_ge (b := 30) hi (by omega))]
      have h2 : ∀ K : Int32 → Int32 → Option Int32, L_X8_tryNext_27 K v (nI i) FU 0 0 = K (nI (nbr (fun m => lwB v f m && decide (lwS m (nI i) = 1)) 20)) (nI 20) := by
        intro K
        refine up_loop' (fun F' b (z : Nat) => L_X8_tryNext_27 K v (nI i) F' (nI z) (nI b)) (ctS (fun m => lwB v f m && decide (lwS m (nI i) = 1))) 20 (fun z => K (nI z) (nI 20)) ?_ ?_ 0 FU (FU_gt (by omega))
        · intro F' b z hb
          show L_X8_tryNext_27 K v (nI i) (F' + 1) (nI z) (nI b) = _
          rw [L_X8_tryNext_27, if_neg (show ¬ (20 : Int32) ≤ nI b from nI_ge (b := 20) hb (by omega)), lawV_ok C hb, Option.bind_some, nI_1 b, show (10 : Int32) = nI 10 from rfl, pk_rem (by omega) (by omega) (by omega), pk_div (by omega) (by omega) (by omega), (lwS_ok hb (nI i)).1, Option.bind_some]
          unfold ctS
          dsimp only
          cases lwB v f b
          · rw [show bI false = 0 from rfl, i0, show nI z + 0 = nI (z + 0) from nI_add z 0]; rfl
          · rw [show bI true = 1 from rfl, i1]
            rcases (lwS_ok hb (nI i)).2 with e | e <;> rw [e]
            · rw [show nI z + 0 = nI (z + 0) from nI_add z 0]; rfl
            · rw [nI_1]; rfl
        · intro F' z
          show L_X8_tryNext_27 K v (nI i) (F' + 1) (nI z) (nI 20) = _
          rw [L_X8_tryNext_27, if_pos (show (20 : Int32) ≤ nI 20 by decide)]
      rw [h2, nI_1]
      have h3 := hg (nI i)
      generalize nbr (fun m => lwB v f m && decide (lwS m (nI i) = 0)) 20 = A at *
      generalize nbr (fun m => lwB v f m && decide (lwS m (nI i) = 1)) 20 = B at *
      rw [pk_sub (show B ≤ nbr (lwB v f) 20 by omega)]
      unfold tr2 mx
      by_cases q : B ≤ nbr (lwB v f) 20 - B
      · rw [if_pos (nI_le q (by omega)), if_neg (show ¬ nbr (lwB v f) 20 - B < B by omega)]
        by_cases w : t.2.1 ≤ nbr (lwB v f) 20 - B
        · rw [if_pos (nI_le w (by omega)), if_pos w]
        · rw [if_neg (nI_ge (by omega) (by omega)), if_neg w]; rfl
      · rw [if_neg (nI_ge (by omega) (by omega)), if_pos (show nbr (lwB v f) 20 - B < B by omega)]
        by_cases w : t.2.1 ≤ B
        · rw [if_pos (nI_le w (by omega)), if_pos w]
        · rw [if_neg (nI_ge (by omega) (by omega)), if_neg w]; rfl
    · intro i t hi ht
      exact tr2_le (by have := hg (nI i); dsimp only; omega) hc ht
    · intro F t _
      show L_X8_tryNext_14 _ v (nI (nbr (lwB v f) 20)) (F + 1) (hr9 t) (nI t.2.1) (nI 30) = _
      rw [L_X8_tryNext_14, if_pos (show (30 : Int32) ≤ nI 30 by decide)]
  unfold f_X7_tryNext
  rw [U, V]; exact ⟨_, rfl, rfl⟩
end LW
