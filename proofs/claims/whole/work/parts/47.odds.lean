-- ===== odds =====
def ctS (p : Nat → Bool) (i n : Nat) : Nat := bif p i then n + 1 else n
theorem ctS_le {p : Nat → Bool} : ∀ n, fu (ctS p) n 0 ≤ n
  | 0 => Nat.le_refl 0
  | n + 1 => by
    have h := ctS_le (p := p) n
    show ctS p n (fu (ctS p) n 0) ≤ n + 1
    generalize fu (ctS p) n 0 = t at *
    unfold ctS
    cases p n
    · exact Nat.le_succ_of_le h
    · exact Nat.succ_le_succ h
def shN (k : Nat) : Nat → Nat
  | 0 => 1
  | 1 => 1
  | j + 2 => if 10 % (j + 2) = 0 ∧ k % (j + 2) = 0 then j + 2 else shN k (j + 1)
theorem shared_L {k : Nat} (hk : k < 11) : ∀ (j F : Nat), j ≤ 10 → j < F → L_X7_sharedWithTen_3 (fun x1 => some 1) (nI k) F (nI j) = some (nI (shN k j))
  | 0, F + 1, _, _ => by rw [L_X7_sharedWithTen_3, if_pos (show nI 0 ≤ 1 by decide)]; rfl
  | 1, F + 1, _, _ => by rw [L_X7_sharedWithTen_3, if_pos (show nI 1 ≤ 1 by decide)]; rfl
  | j + 2, F + 1, hj, hF => by
    have ih := shared_L hk (j + 1) F (by omega) (by omega)
    rw [L_X7_sharedWithTen_3, if_neg (show ¬ nI (j + 2) ≤ 1 from nI_ge (a := 1) (by omega) (by omega)), if_neg (nI_ne0 (by omega) (by omega)), show nI (j + 2) + (-1) = nI (j + 1) from pk_m1 (j + 1), ih]
    rw [show (10 : Int32) = nI 10 from rfl, pk_rem (by omega) (by omega) (by omega), pk_rem (by omega) (by omega) (by omega)]
    have e1 : nI (10 % (j + 2)) = 0 ↔ 10 % (j + 2) = 0 := nI_eq (b := 0) (Nat.lt_of_le_of_lt (Nat.mod_le _ _) (by omega)) (by omega)
    have e2 : nI (k % (j + 2)) = 0 ↔ k % (j + 2) = 0 := nI_eq (b := 0) (Nat.lt_of_le_of_lt (Nat.mod_le _ _) (by omega)) (by omega)
    show _ = some (nI (if 10 % (j + 2) = 0 ∧ k % (j + 2) = 0 then j + 2 else shN k (j + 1)))
    by_cases q : 10 % (j + 2) = 0
    · rw [if_pos (e1.mpr q), if_neg (nI_ne0 (show 0 < j + 2 by omega) (by omega))]
      by_cases w : k % (j + 2) = 0
      · rw [if_pos (e2.mpr w), if_pos ⟨q, w⟩]
      · rw [if_neg (fun t => w (e2.mp t)), if_neg (fun t => w t.2)]
    · rw [if_neg (fun t => q (e1.mp t)), if_neg (fun t => q t.1)]
theorem power_ok (a n : Nat) (hn : n < 100) : f_X7_power (nI a) (nI n) = some (nI (a ^ n)) := by
  have h := up_loop' (fun F i (t : Nat) => L_X7_power_4 (fun x2 x3 => some x2) (nI a) (nI n) F (nI t) (nI i)) (fun _ t => t * a) n (fun t => some (nI t)) ?_ ?_ 1 FU (FU_gt (by omega))
  · have e : ∀ m, fu (fun _ t => t * a) m 1 = a ^ m := by
      intro m
      induction m with
      | zero => rfl
      | succ m ih => show fu _ m 1 * a = _; rw [ih, Nat.pow_succ]
    rw [← e n]; exact h
  · intro F i t hi
    show L_X7_power_4 _ (nI a) (nI n) (F + 1) (nI t) (nI i) = _
    rw [L_X7_power_4, if_neg (nI_ge hi (by omega)), pk_mul, nI_1]
  · intro F t
    show L_X7_power_4 _ (nI a) (nI n) (F + 1) (nI t) (nI n) = _
    rw [L_X7_power_4, if_pos (Int32.le_refl _)]
def euN : Nat → Nat → Nat → Nat
  | 0, a, _ => a
  | f + 1, a, b => if b = 0 then a else euN f b (a % b)
def euT : Nat → Nat → Nat → Bool
  | 0, _, _ => false
  | f + 1, a, b => if b = 0 then true else euT f b (a % b)
theorem lowest_L (k : Int32 → Int32 → Option Int32) : ∀ (f F a b : Nat), euT f a b = true → f ≤ F → a < 2 ^ 31 → b < 2 ^ 31 → L_X8_lowest_5 k F (nI a) (nI b) = k (nI (euN f a b)) 0
  | 0, _, _, _, h, _, _, _ => by cases h
  | f + 1, 0, _, _, _, h, _, _ => absurd h (by omega)
  | f + 1, F + 1, a, b, h, hF, ha, hb => by
    rw [L_X8_lowest_5]
    by_cases q : b = 0
    · subst q
      rw [if_pos (show nI 0 ≤ 0 by decide)]; rfl
    · have h' : euT f b (a % b) = true := by have : (if b = 0 then true else euT f b (a % b)) = true := h; rwa [if_neg q] at this
      rw [if_neg (nI_nle (by omega) hb), if_neg (nI_ne0 (by omega) hb), pk_rem ha (by omega) hb, lowest_L k f F b (a % b) h' (by omega) hb (Nat.lt_of_le_of_lt (Nat.mod_le _ _) ha)]
      show _ = k (nI (if b = 0 then a else euN f b (a % b))) 0
      rw [if_neg q]
theorem odds_tab : ∀ k, k < 11 → ∀ n, n < 9 → euT 60 (10 ^ n - k ^ n) (10 ^ n) = true ∧ (0 < euN 60 (10 ^ n - k ^ n) (10 ^ n) ∧ euN 60 (10 ^ n - k ^ n) (10 ^ n) < 2 ^ 31) ∧ (0 < shN k 10 ∧ shN k 10 < 11) ∧ (10 ^ n - k ^ n) / euN 60 (10 ^ n - k ^ n) (10 ^ n) = (10 / shN k 10) ^ n - (k / shN k 10) ^ n ∧ 10 ^ n / euN 60 (10 ^ n - k ^ n) (10 ^ n) = (10 / shN k 10) ^ n ∧ k ^ n ≤ 10 ^ n ∧ (k / shN k 10) ^ n ≤ (10 / shN k 10) ^ n ∧ 10 ^ n < 2 ^ 31 := by decide +kernel
section OD
variable {nC nP nS : Nat} {u v : St}
theorem odds_ok (T : Tr nC nP nS u v) (P : Pn nC nP u v) (x1 x2 x3 x4 x5 x6 : Int32) : Eo (f_X7_odds u x1 x2 x3 x4 x5 x6) (f_X8_odds v x1 x2 x3 x4 x5 x6) := by
  obtain ⟨D, S1, S2⟩ := S_of T P
  unfold f_X7_odds f_X8_odds
  rcases cock_cases T x1 with ⟨e1, e2, c, hc, rfl⟩ | ⟨e1, e2⟩
  · rw [e1, e2, Option.bind_some, Option.bind_some, i1, i1]
    rcases cell_cases x2 with ⟨e3, e4, x, hx, rfl⟩ | ⟨e3, e4⟩
    · rw [e3, e4, Option.bind_some, Option.bind_some, i1, i1]
      rcases hour_cases x3 with ⟨e5, e6, a, ha, rfl⟩ | ⟨e5, e6⟩
      · rw [e5, e6, Option.bind_some, Option.bind_some, i1, i1]
        rcases hour_cases x4 with ⟨e7, e8, b, hb, rfl⟩ | ⟨e7, e8⟩
        · rw [e7, e8, Option.bind_some, Option.bind_some, i1, i1]
          by_cases q : b < a
          · rw [if_pos (nI_lt q (by omega))]
            have hn := pk_sneg (a := b) (b := a) (by omega) q
            have : f_X8_in (nI b - nI a) 0 7 = some 0 := by unfold f_X8_in; rw [if_pos hn]
            rw [this, Option.bind_some, i0]; exact ⟨_, rfl, rfl⟩
          · rw [if_neg (nI_nlt (by omega) (by omega)), pk_sub (by omega)]
            by_cases w : b - a < 8
            · have h7 : f_X8_in (nI (b - a)) 0 7 = some 1 := by
                unfold f_X8_in
                rw [if_neg (nI_pos (by omega)), if_neg (show ¬ (7 : Int32) < nI (b - a) from nI_nlt (b := b - a) (a := 7) (by omega) (by omega))]
              rw [if_pos (show nI (b - a) < 8 from nI_lt (b := 8) w (by omega)), h7, Option.bind_some, i1]
              rw [in_eq, in_eq]
              rcases in_cases x5 0 10 with ⟨e9, k1, k2⟩ | e9
              · rw [e9, Option.bind_some, Option.bind_some, i1, i1]
                obtain ⟨k, hk, rfl⟩ := rng (n := 10) (by decide) k1 k2
                rcases in_cases x6 0 1 with ⟨e9, -, -⟩ | e9
                · rw [e9, Option.bind_some, Option.bind_some, i1, i1]
                  have U : f_X6_hoursInView u (nI c) (nI x) (nI a) (nI b) = some (nI (fu (ctS fun i => seeB (dPl v) (v.2.1 1) (v.2.1 2) (v.2.1 3) (dRo v) c x (nI (a + i))) (b - a + 1) 0)) := by
                    refine up_loop' (fun F i (t : Nat) => L_X6_hoursInView_6 (fun x5 x6 => some x5) u (nI c) (nI x) (nI b) F (nI t) (nI (a + i))) _ (b - a + 1) (fun t => some (nI t)) ?_ ?_ 0 FU (FU_gt (by omega))
                    · intro F i t hi
                      show L_X6_hoursInView_6 _ u (nI c) (nI x) (nI b) (F + 1) (nI t) (nI (a + i)) = _
                      rw [L_X6_hoursInView_6, if_neg (nI_nlt (by omega) (by omega)), canSee_ok D S1 hc hx, Option.bind_some, nI_1, nI_1]
                      unfold ctS
                      dsimp only
                      cases seeB (dPl v) (v.2.1 1) (v.2.1 2) (v.2.1 3) (dRo v) c x (nI (a + i)) <;> rfl
                    · intro F t
                      show L_X6_hoursInView_6 _ u (nI c) (nI x) (nI b) (F + 1) (nI t) (nI (a + (b - a + 1))) = _
                      rw [L_X6_hoursInView_6, if_pos (nI_lt (by omega) (by omega))]
                  have Wv : ∀ K : Int32 → Int32 → Int32 → Option Int32, L_X8_odds_75 K v (nI c) (nI x) (nI b) (nI k) FU 1 1 (nI a) = K (nI (10 ^ fu (ctS fun i => seeB (dPl v) (v.2.1 1) (v.2.1 2) (v.2.1 3) (dRo v) c x (nI (a + i))) (b - a + 1) 0)) (nI (k ^ fu (ctS fun i => seeB (dPl v) (v.2.1 1) (v.2.1 2) (v.2.1 3) (dRo v) c x (nI (a + i))) (b - a + 1) 0)) (nI (a + (b - a + 1))) := by
                    intro K
                    refine up_loop' (fun F i (t : Nat) => L_X8_odds_75 K v (nI c) (nI x) (nI b) (nI k) F (nI (10 ^ t)) (nI (k ^ t)) (nI (a + i))) _ (b - a + 1) (fun t => K (nI (10 ^ t)) (nI (k ^ t)) (nI (a + (b - a + 1)))) ?_ ?_ 0 FU (FU_gt (by omega))
                    · intro F i t hi
                      show L_X8_odds_75 K v (nI c) (nI x) (nI b) (nI k) (F + 1) (nI (10 ^ t)) (nI (k ^ t)) (nI (a + i)) = _
                      rw [L_X8_odds_75, if_neg (nI_nlt (by omega) (by omega)), sees_ok D S2 hc hx, Option.bind_some, nI_1, show (1 : Int32) = nI 1 from rfl, show (10 : Int32) = nI 10 from rfl, pk_mul, pk_mul, pk_mul, pk_mul, Nat.mul_one, Nat.mul_one, ← Nat.pow_succ, ← Nat.pow_succ]
                      unfold ctS
                      dsimp only
                      cases seeB (dPl v) (v.2.1 1) (v.2.1 2) (v.2.1 3) (dRo v) c x (nI (a + i)) <;> rfl
                    · intro F t
                      show L_X8_odds_75 K v (nI c) (nI x) (nI b) (nI k) (F + 1) (nI (10 ^ t)) (nI (k ^ t)) (nI (a + (b - a + 1))) = _
                      rw [L_X8_odds_75, if_pos (nI_lt (by omega) (by omega))]
                  rw [U, Wv]
                  have hle := ctS_le (p := fun i => seeB (dPl v) (v.2.1 1) (v.2.1 2) (v.2.1 3) (dRo v) c x (nI (a + i))) (b - a + 1)
                  generalize fu (ctS fun i => seeB (dPl v) (v.2.1 1) (v.2.1 2) (v.2.1 3) (dRo v) c x (nI (a + i))) (b - a + 1) 0 = n at *
                  obtain ⟨t1, ⟨t2, t3⟩, ⟨t4, t5⟩, t6, t7, t8, t9, t10⟩ := odds_tab k (by omega) n (by omega)
                  have hs : f_X7_sharedWithTen (nI k) = some (nI (shN k 10)) := shared_L (by omega) 10 FU (by omega) (FU_gt (by omega))
                  rw [hs, Option.bind_some, Option.bind_some, if_neg (nI_ne0 t4 (by omega)), show (10 : Int32) = nI 10 from rfl, pk_div (by omega) t4 (by omega), pk_div (by omega) t4 (by omega), power_ok _ _ (by omega), power_ok _ _ (by omega), Option.bind_some, Option.bind_some, if_neg (nI_ne0 t4 (by omega))]
                  rw [pk_sub t8, pk_sub t9]
                  have hlow : f_X8_lowest (nI (10 ^ n - k ^ n)) (nI (10 ^ n)) x6 = if x6 = 0 then some (nI ((10 / shN k 10) ^ n - (k / shN k 10) ^ n)) else some (nI ((10 / shN k 10) ^ n)) := by
                    unfold f_X8_lowest
                    rw [lowest_L _ 60 FU (10 ^ n - k ^ n) (10 ^ n) t1 (Nat.le_of_lt (FU_gt (by omega))) (by omega) t10, if_neg (nI_ne0 t2 t3), if_neg (nI_ne0 t2 t3), pk_div (by omega) t2 t3, pk_div (by omega) t2 t3, t6, t7]
                  rw [hlow]
                  by_cases z : x6 = 0
                  · simp only [if_pos z]; exact ⟨_, rfl, rfl⟩
                  · simp only [if_neg z]; exact ⟨_, rfl, rfl⟩
                · rw [e9, Option.bind_some, Option.bind_some, i0, i0]; exact ⟨_, rfl, rfl⟩
              · rw [e9, Option.bind_some, Option.bind_some, i0, i0]; exact ⟨_, rfl, rfl⟩
            · have h7 : f_X8_in (nI (b - a)) 0 7 = some 0 := by
                unfold f_X8_in
                rw [if_neg (nI_pos (by omega)), if_pos (show (7 : Int32) < nI (b - a) from nI_lt (b := b - a) (a := 7) (by omega) (by omega))]
              rw [if_neg (show ¬ nI (b - a) < 8 from nI_nlt (a := b - a) (b := 8) (by omega) (by omega)), h7, Option.bind_some, i0]; exact ⟨_, rfl, rfl⟩
        · rw [e7, e8, Option.bind_some, Option.bind_some, i0, i0]; exact ⟨_, rfl, rfl⟩
      · rw [e5, e6, Option.bind_some, Option.bind_some, i0, i0]; exact ⟨_, rfl, rfl⟩
    · rw [e3, e4, Option.bind_some, Option.bind_some, i0, i0]; exact ⟨_, rfl, rfl⟩
  · rw [e1, e2, Option.bind_some, Option.bind_some, i0, i0]; exact ⟨_, rfl, rfl⟩
end OD
