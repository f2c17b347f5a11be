-- ===== no machine any more: the two families of functions, one against the other =====
def fu {α : Type} (step : Nat → α → α) : Nat → α → α
  | 0, a => a
  | n + 1, a => step n (fu step n a)
theorem up_loop {α ρ : Type} (W : Nat → Nat → α → ρ) (step : Nat → α → α) (N : Nat) (K : α → ρ) (P : Nat → α → Prop)
    (hs : ∀ F i a, i < N → P i a → W (F + 1) i a = W F (i + 1) (step i a)) (hp : ∀ i a, i < N → P i a → P (i + 1) (step i a))
    (he : ∀ F a, P N a → W (F + 1) N a = K a) (a : α) (h0 : P 0 a) (F : Nat) (hF : N < F) : W F 0 a = K (fu step N a) ∧ P N (fu step N a) := by
  have h : ∀ i, i ≤ N → W F 0 a = W (F - i) i (fu step i a) ∧ P i (fu step i a) := by
    intro i
    induction i with
    | zero => intro _; exact ⟨rfl, h0⟩
    | succ i ih =>
      intro hi
      obtain ⟨e, q⟩ := ih (by omega)
      refine ⟨?_, hp i _ (by omega) q⟩
      rw [e, show F - i = (F - (i + 1)) + 1 by omega, hs _ i _ (by omega) q]
      rfl
  obtain ⟨e, q⟩ := h N (Nat.le_refl N)
  refine ⟨?_, q⟩
  rw [e, show F - N = (F - N - 1) + 1 by omega, he _ _ q]
theorem up_loop' {α ρ : Type} (W : Nat → Nat → α → ρ) (step : Nat → α → α) (N : Nat) (K : α → ρ)
    (hs : ∀ F i a, i < N → W (F + 1) i a = W F (i + 1) (step i a))
    (he : ∀ F a, W (F + 1) N a = K a) (a : α) (F : Nat) (hF : N < F) : W F 0 a = K (fu step N a) :=
  (up_loop W step N K (fun _ _ => True) (fun F i a h _ => hs F i a h) (fun _ _ _ _ => trivial) (fun F a _ => he F a) a trivial F hF).1
theorem fu_congr {α : Type} {f g : Nat → α → α} : ∀ {n : Nat} {a : α}, (∀ i x, i < n → f i x = g i x) → fu f n a = fu g n a
  | 0, _, _ => rfl
  | n + 1, a, h => by
    show f n (fu f n a) = g n (fu g n a)
    rw [fu_congr (n := n) fun i x hi => h i x (by omega), h n _ (by omega)]
theorem fu_id {α : Type} {f : Nat → α → α} {N : Nat} : ∀ {n : Nat} {a : α}, (∀ i x, N ≤ i → i < n → f i x = x) → N ≤ n → fu f n a = fu f N a
  | 0, _, _, h => by rw [show N = 0 by omega]
  | n + 1, a, h, hn => by
    by_cases q : N = n + 1
    · rw [q]
    · show f n (fu f n a) = _
      rw [fu_id (n := n) (fun i x hi hin => h i x hi (by omega)) (by omega), h n _ (by omega) (by omega)]
/-- all of the first n -/
def alN (p : Nat → Bool) : Nat → Bool
  | 0 => true
  | n + 1 => alN p n && p n
theorem alN_iff {p : Nat → Bool} : ∀ {n : Nat}, alN p n = true ↔ ∀ i, i < n → p i = true
  | 0 => ⟨fun _ i h => absurd h (Nat.not_lt_zero i), fun _ => rfl⟩
  | n + 1 => by
    show (alN p n && p n) = true ↔ _
    rw [Bool.and_eq_true, alN_iff (n := n)]
    exact ⟨fun h i hi => (Nat.lt_succ_iff_lt_or_eq.mp hi).elim (h.1 i) fun e => e ▸ h.2, fun h => ⟨fun i hi => h i (by omega), h n (by omega)⟩⟩
theorem alN_congr {p q : Nat → Bool} : ∀ {n : Nat}, (∀ i, i < n → p i = q i) → alN p n = alN q n
  | 0, _ => rfl
  | n + 1, h => by
    show (alN p n && p n) = (alN q n && q n)
    rw [alN_congr (n := n) fun i hi => h i (by omega), h n (by omega)]
/-- a loop that ends at once with r where p fails -/
theorem ex_loop {ρ : Type} (W : Nat → Nat → ρ) (p : Nat → Bool) (N : Nat) (K r : ρ)
    (hs : ∀ F i, i < N → W (F + 1) i = if p i = true then W F (i + 1) else r)
    (he : ∀ F, W (F + 1) N = K) (F : Nat) (hF : N < F) : W F 0 = if alN p N = true then K else r := by
  have h : ∀ i, i ≤ N → W F 0 = if alN p i = true then W (F - i) i else r := by
    intro i
    induction i with
    | zero => intro _; rfl
    | succ i ih =>
      intro hi
      rw [ih (by omega), show F - i = (F - (i + 1)) + 1 by omega, hs _ i (by omega)]
      show _ = if (alN p i && p i) = true then _ else _
      cases alN p i <;> cases p i <;> rfl
  rw [h N (Nat.le_refl N), show F - N = (F - N - 1) + 1 by omega, he]
def bI (b : Bool) : Int32 := if b = true then 1 else 0
theorem bI_0 {b : Bool} : bI b = 0 ↔ b = false := by cases b <;> decide
theorem bI_1 {b : Bool} : bI b = 1 ↔ b = true := by cases b <;> decide
theorem bI_nb (b : Bool) : nb (bI b) = true := by cases b <;> decide
theorem FU_gt {n : Nat} (h : n < 2000) : n < FU := h
-- numbers
theorem oobF {k n : Nat} (hk : k < n) (hn : n < 2 ^ 31) : oob (nI k) n = false := by
  have h := nI_in hk hn
  show decide _ = false
  exact decide_eq_false h
theorem tc_nI {n : Nat} (h : n < 2 ^ 31) : Int32.toNatClampNeg (nI n) = n := nI_clamp h
theorem sh_ok {c : Nat} (h : c < 31) : ((nI c &&& 31).toBitVec.smod 32).toNat = c :=
  co_dec (N := 31) (P := fun c => ((nI c &&& 31).toBitVec.smod 32).toNat = c) (by decide +kernel) h
theorem n_or (a b : Nat) : nI a ||| nI b = nI (a ||| b) := by
  apply Int32.toBitVec_inj.mp; simp [nI, Int32.toBitVec_or, Int32.toBitVec_ofNat, BitVec.ofNat_or]
theorem n_and (a b : Nat) : nI a &&& nI b = nI (a &&& b) := by
  apply Int32.toBitVec_inj.mp; simp [nI, Int32.toBitVec_and, Int32.toBitVec_ofNat, BitVec.ofNat_and]
theorem n_shl {c : Nat} (h : c < 31) : (1 : Int32) <<< (nI c &&& 31) = nI (2 ^ c) := by
  have := pk_shlN (n := 1) (nI c &&& 31) c (sh_ok h) (by rw [Nat.one_mul]; exact Nat.pow_lt_pow_right (by decide) (by omega))
  rw [Nat.one_mul] at this
  exact this
theorem n_has {m c : Nat} (hm : m < 2 ^ 31) (h : c < 31) : ((nI m >>> (nI c &&& 31)) &&& 1) = bI (m.testBit c) := by
  rw [pk_shrN hm _ c (sh_ok h), show (1 : Int32) = nI 1 from rfl, n_and, Nat.and_one_is_mod]
  have e : m.testBit c = decide (m / 2 ^ c % 2 = 1) := by rw [Nat.testBit, Nat.shiftRight_eq_div_pow, Nat.and_comm, Nat.and_one_is_mod]; have := Nat.mod_two_eq_zero_or_one (m / 2 ^ c); rcases this with q | q <;> rw [q] <;> rfl
  rw [e]
  rcases Nat.mod_two_eq_zero_or_one (m / 2 ^ c) with q | q <;> rw [q] <;> rfl
theorem n_in {m c : Nat} (hm : m < 2 ^ 31) (h : c < 31) : f_X7_isIn (nI c) (nI m) = some (bI (m.testBit c)) := by
  rw [f_X7_isIn, n_has hm h]
  cases m.testBit c <;> rfl
theorem isIn_has (a b : Int32) : f_X8_has a b = f_X7_isIn b a := rfl
theorem in_eq (x lo hi : Int32) : f_X7_isWithin x lo hi = f_X8_in x lo hi := rfl
theorem in_cases (x lo hi : Int32) : (f_X8_in x lo hi = some 1 ∧ lo ≤ x ∧ x ≤ hi) ∨ f_X8_in x lo hi = some 0 := by
  unfold f_X8_in
  by_cases h : x < lo
  · right; rw [if_pos h]
  · rw [if_neg h]
    by_cases h2 : hi < x
    · right; rw [if_pos h2]
    · left; rw [if_neg h2]; exact ⟨rfl, Int32.not_lt.mp h, Int32.not_lt.mp h2⟩
theorem rng {x : Int32} {n : Nat} (hn : n < 2 ^ 31) (h : (0 : Int32) ≤ x) (h2 : x ≤ nI n) : ∃ j, j ≤ n ∧ x = nI j :=
  nI_of2 (nI_toInt hn) (Int32.not_lt.mpr h) h2
