-- ===== counting bits =====
def bt1 (x i : Nat) : Nat := x / 2 ^ i % 2
def pcN (x : Nat) : Nat → Nat
  | 0 => 0
  | n + 1 => pcN x n + bt1 x n
theorem pcN_le (x : Nat) : ∀ n, pcN x n ≤ n
  | 0 => Nat.le_refl 0
  | n + 1 => by have := pcN_le x n; have h : bt1 x n < 2 := Nat.mod_lt _ (by decide); show pcN x n + bt1 x n ≤ n + 1; omega
theorem bits_ok {x : Nat} (hx : x < 2 ^ 31) : f_X8_bits (nI x) = some (nI (pcN x 30)) := by
  have := up_loop' (fun F i (m : Nat) => L_X8_bits_4 (fun x1 x2 => some x1) (nI x) F (nI m) (nI i)) (fun i m => m + bt1 x i) 30 (fun m => some (nI m)) ?_ ?_ 0 FU (FU_gt (by omega))
  · have e : ∀ n, fu (fun i m => m + bt1 x i) n 0 = pcN x n := by
      intro n
      induction n with
      | zero => rfl
      | succ n ih => show fu _ n 0 + bt1 x n = _; rw [ih]; rfl
    rw [← e 30]; exact this
  · intro F i m hi
    show L_X8_bits_4 _ (nI x) (F + 1) (nI m) (nI i) = _
    rw [L_X8_bits_4, if_neg (show ¬ (30 : Int32) ≤ nI i from nI_ge (b := 30) hi (by decide)), pk_shrN hx _ i (sh_ok (by omega)), show (1 : Int32) = nI 1 from rfl, n_and, Nat.and_one_is_mod, nI_add, nI_add]; rfl
  · intro F m
    show L_X8_bits_4 _ (nI x) (F + 1) (nI m) (nI 30) = _
    rw [L_X8_bits_4, if_pos (show (30 : Int32) ≤ nI 30 from Int32.le_refl _)]
-- the shorter way over bytes
def d4 (a b c d : Nat) : Nat := a + 256 * b + 65536 * c + 16777216 * d
theorem and_cat {k q r M t : Nat} (hr : r < 2 ^ k) (ht : t < 2 ^ k) : (2 ^ k * q + r) &&& (2 ^ k * M + t) = 2 ^ k * (q &&& M) + (r &&& t) := by
  apply Nat.eq_of_testBit_eq
  intro i
  have h3 : r &&& t < 2 ^ k := Nat.lt_of_le_of_lt Nat.and_le_left hr
  rw [Nat.testBit_and, Nat.testBit_two_pow_mul_add _ hr, Nat.testBit_two_pow_mul_add _ ht, Nat.testBit_two_pow_mul_add _ h3]
  by_cases q : i < k
  · simp only [if_pos q, Nat.testBit_and]
  · simp only [if_neg q, Nat.testBit_and]
theorem d4_and {a b c d m : Nat} (ha : a < 256) (hb : b < 256) (hc : c < 256) (hd : d < 256) (hm : m < 256) : d4 a b c d &&& d4 m m m m = d4 (a &&& m) (b &&& m) (c &&& m) (d &&& m) := by
  have e : ∀ a b c d, d4 a b c d = 2 ^ 8 * (2 ^ 8 * (2 ^ 8 * d + c) + b) + a := by intro a b c d; unfold d4; omega
  rw [e, e, e, and_cat ha hm, and_cat hb hm, and_cat hc hm]
theorem d4_lt {a b c d : Nat} (ha : a < 256) (hb : b < 256) (hc : c < 256) (hd : d < 256) : d4 a b c d < 2 ^ 32 := by unfold d4; omega
def y1 (a : Nat) : Nat := a - ((a / 2) &&& 85)
def y2 (a : Nat) : Nat := (a &&& 51) + ((a / 4) &&& 51)
def y3 (a : Nat) : Nat := (a + a / 16) &&& 15
def pc8 (a : Nat) : Nat := bt1 a 0 + bt1 a 1 + bt1 a 2 + bt1 a 3 + bt1 a 4 + bt1 a 5 + bt1 a 6 + bt1 a 7
theorem t1 : ∀ a, a < 256 → ∀ e, e < 2 → ((a / 2 + 128 * e) &&& 85) = ((a / 2) &&& 85) ∧ ((a / 2) &&& 85) ≤ a := by decide +kernel
theorem t2 : ∀ a, a < 256 → ∀ e, e < 4 → ((a / 4 + 64 * e) &&& 51) = ((a / 4) &&& 51) ∧ y2 a < 256 := by decide +kernel
theorem t2b : ∀ a, a < 256 → y2 (y1 a) ≤ 68 ∧ y2 (y1 a) % 16 ≤ 4 := by decide +kernel
theorem t3 : ∀ a, a < 69 → ∀ e, e < 5 → a + (a / 16 + 16 * e) < 256 ∧ ((a + (a / 16 + 16 * e)) &&& 15) = y3 a := by decide +kernel
theorem t4 : ∀ a, a < 256 → y3 (y2 (y1 a)) = pc8 a ∧ pc8 a ≤ 8 := by decide +kernel
theorem ush {n : Nat} (hn : n < 2 ^ 32) (k : Nat) (hk : k = 1 ∨ k = 2 ∨ k = 4 ∨ k = 8 ∨ k = 16) : ((nI n).toUInt32 >>> (Int32.toUInt32 (nI k) &&& Int32.toUInt32 31)).toInt32 = nI (n / 2 ^ k) := by
  rcases hk with rfl | rfl | rfl | rfl | rfl <;> exact pk_ushrN hn _ _ (by decide)
theorem t5 {A B C D : Nat} (p1 : A ≤ 8) (p2 : B ≤ 8) (p3 : C ≤ 8) (p4 : D ≤ 8) : (d4 A B C D + d4 A B C D / 2 ^ 8 + (d4 A B C D + d4 A B C D / 2 ^ 8) / 2 ^ 16) % 2 ^ 6 = A + B + C + D := by
  have e1 : d4 A B C D / 2 ^ 8 = d4 B C D 0 := by unfold d4; omega
  have e2 : d4 A B C D + d4 B C D 0 = d4 (A + B) (B + C) (C + D) D := by unfold d4; omega
  have e3 : d4 (A + B) (B + C) (C + D) D / 2 ^ 16 = d4 (C + D) D 0 0 := by unfold d4; omega
  rw [e1, e2, e3]; unfold d4; omega
theorem nI_sub32 {a b : Nat} (h : b ≤ a) : nI a - nI b = nI (a - b) := pk_sub h
theorem bc_ok {a b c d : Nat} (ha : a < 256) (hb : b < 256) (hc : c < 256) (hd : d < 256) : f_J6_bitCount_0f7a4 (nI (d4 a b c d)) = some (nI (pc8 a + pc8 b + pc8 c + pc8 d)) := by
  obtain ⟨a1, a2⟩ := t1 a ha (b % 2) (by omega)
  obtain ⟨b1, b2⟩ := t1 b hb (c % 2) (by omega)
  obtain ⟨c1, c2⟩ := t1 c hc (d % 2) (by omega)
  obtain ⟨d1, d2⟩ := t1 d hd 0 (by omega)
  have s1 : nI (d4 a b c d) - ((((nI (d4 a b c d)).toUInt32 >>> (Int32.toUInt32 1 &&& Int32.toUInt32 31)).toInt32) &&& 1431655765) = nI (d4 (y1 a) (y1 b) (y1 c) (y1 d)) := by
    rw [show (1 : Int32) = nI 1 from rfl, ush (d4_lt ha hb hc hd) 1 (by decide)]
    rw [show d4 a b c d / 2 ^ 1 = d4 (a / 2 + 128 * (b % 2)) (b / 2 + 128 * (c % 2)) (c / 2 + 128 * (d % 2)) (d / 2 + 128 * 0) by unfold d4; omega]
    rw [show (1431655765 : Int32) = nI (d4 85 85 85 85) from rfl, n_and, d4_and (by omega) (by omega) (by omega) (by omega) (by omega), a1, b1, c1, d1, pk_sub (by unfold d4; omega)]
    congr 1
    unfold d4 y1; omega
  have ua : y1 a < 256 := by unfold y1; omega
  have ub : y1 b < 256 := by unfold y1; omega
  have uc : y1 c < 256 := by unfold y1; omega
  have ud : y1 d < 256 := by unfold y1; omega
  obtain ⟨a3, -⟩ := t2 (y1 a) ua (y1 b % 4) (by omega)
  obtain ⟨b3, -⟩ := t2 (y1 b) ub (y1 c % 4) (by omega)
  obtain ⟨c3, -⟩ := t2 (y1 c) uc (y1 d % 4) (by omega)
  obtain ⟨d3, -⟩ := t2 (y1 d) ud 0 (by omega)
  have s2 : (nI (d4 (y1 a) (y1 b) (y1 c) (y1 d)) &&& 858993459) + ((((nI (d4 (y1 a) (y1 b) (y1 c) (y1 d))).toUInt32 >>> (Int32.toUInt32 2 &&& Int32.toUInt32 31)).toInt32) &&& 858993459) = nI (d4 (y2 (y1 a)) (y2 (y1 b)) (y2 (y1 c)) (y2 (y1 d))) := by
    rw [show (2 : Int32) = nI 2 from rfl, ush (d4_lt ua ub uc ud) 2 (by decide)]
    rw [show d4 (y1 a) (y1 b) (y1 c) (y1 d) / 2 ^ 2 = d4 (y1 a / 4 + 64 * (y1 b % 4)) (y1 b / 4 + 64 * (y1 c % 4)) (y1 c / 4 + 64 * (y1 d % 4)) (y1 d / 4 + 64 * 0) by unfold d4; omega]
    rw [show (858993459 : Int32) = nI (d4 51 51 51 51) from rfl, n_and, n_and, d4_and ua ub uc ud (by omega), d4_and (by omega) (by omega) (by omega) (by omega) (by omega), a3, b3, c3, d3, nI_add]
    congr 1
    unfold d4 y2; omega
  obtain ⟨va, wa⟩ := t2b a ha
  obtain ⟨vb, wb⟩ := t2b b hb
  obtain ⟨vc, wc⟩ := t2b c hc
  obtain ⟨vd, wd⟩ := t2b d hd
  obtain ⟨a4, a5⟩ := t3 (y2 (y1 a)) (by omega) (y2 (y1 b) % 16) (by omega)
  obtain ⟨b4, b5⟩ := t3 (y2 (y1 b)) (by omega) (y2 (y1 c) % 16) (by omega)
  obtain ⟨c4, c5⟩ := t3 (y2 (y1 c)) (by omega) (y2 (y1 d) % 16) (by omega)
  obtain ⟨d4', d5⟩ := t3 (y2 (y1 d)) (by omega) 0 (by omega)
  have s3 : (nI (d4 (y2 (y1 a)) (y2 (y1 b)) (y2 (y1 c)) (y2 (y1 d))) + (((nI (d4 (y2 (y1 a)) (y2 (y1 b)) (y2 (y1 c)) (y2 (y1 d)))).toUInt32 >>> (Int32.toUInt32 4 &&& Int32.toUInt32 31)).toInt32)) &&& 252645135 = nI (d4 (pc8 a) (pc8 b) (pc8 c) (pc8 d)) := by
    rw [show (4 : Int32) = nI 4 from rfl, ush (d4_lt (by omega) (by omega) (by omega) (by omega)) 4 (by decide)]
    rw [show d4 (y2 (y1 a)) (y2 (y1 b)) (y2 (y1 c)) (y2 (y1 d)) / 2 ^ 4 = d4 (y2 (y1 a) / 16 + 16 * (y2 (y1 b) % 16)) (y2 (y1 b) / 16 + 16 * (y2 (y1 c) % 16)) (y2 (y1 c) / 16 + 16 * (y2 (y1 d) % 16)) (y2 (y1 d) / 16 + 16 * 0) by unfold d4; omega]
    rw [nI_add, show d4 (y2 (y1 a)) (y2 (y1 b)) (y2 (y1 c)) (y2 (y1 d)) + d4 (y2 (y1 a) / 16 + 16 * (y2 (y1 b) % 16)) (y2 (y1 b) / 16 + 16 * (y2 (y1 c) % 16)) (y2 (y1 c) / 16 + 16 * (y2 (y1 d) % 16)) (y2 (y1 d) / 16 + 16 * 0) = d4 (y2 (y1 a) + (y2 (y1 a) / 16 + 16 * (y2 (y1 b) % 16))) (y2 (y1 b) + (y2 (y1 b) / 16 + 16 * (y2 (y1 c) % 16))) (y2 (y1 c) + (y2 (y1 c) / 16 + 16 * (y2 (y1 d) % 16))) (y2 (y1 d) + (y2 (y1 d) / 16 + 16 * 0)) by unfold d4; omega]
    rw [show (252645135 : Int32) = nI (d4 15 15 15 15) from rfl, n_and, d4_and a4 b4 c4 d4' (by omega), a5, b5, c5, d5, (t4 a ha).1, (t4 b hb).1, (t4 c hc).1, (t4 d hd).1]
  have p1 := (t4 a ha).2
  have p2 := (t4 b hb).2
  have p3 := (t4 c hc).2
  have p4 := (t4 d hd).2
  unfold f_J6_bitCount_0f7a4
  rw [s1, s2, s3]
  generalize pc8 a = A at *
  generalize pc8 b = B at *
  generalize pc8 c = C at *
  generalize pc8 d = D at *
  rw [show (8 : Int32) = nI 8 from rfl, ush (d4_lt (by omega) (by omega) (by omega) (by omega)) 8 (by decide), nI_add]
  rw [show (16 : Int32) = nI 16 from rfl, ush (by unfold d4; omega) 16 (by decide), nI_add, pk_andN (by unfold d4; omega) 6 (by decide)]
  congr 2
  exact t5 p1 p2 p3 p4
theorem bt1_tb (z n : Nat) : bt1 z n = (z.testBit n).toNat := by rw [Nat.toNat_testBit]; rfl
theorem bt1_sh (x k : Nat) {i : Nat} (hi : i < 8) : bt1 (x / 2 ^ k % 256) i = bt1 x (k + i) := by
  rw [bt1_tb, bt1_tb, show (256 : Nat) = 2 ^ 8 from rfl, Nat.testBit_mod_two_pow, Nat.testBit_div_two_pow, decide_eq_true hi, Bool.true_and, Nat.add_comm]
theorem pc8_sh (x k : Nat) : pc8 (x / 2 ^ k % 256) = bt1 x k + bt1 x (k + 1) + bt1 x (k + 2) + bt1 x (k + 3) + bt1 x (k + 4) + bt1 x (k + 5) + bt1 x (k + 6) + bt1 x (k + 7) := by
  unfold pc8
  rw [bt1_sh x k (by decide), bt1_sh x k (by decide), bt1_sh x k (by decide), bt1_sh x k (by decide), bt1_sh x k (by decide), bt1_sh x k (by decide), bt1_sh x k (by decide), bt1_sh x k (by decide)]; rfl
theorem bt1_hi {x n : Nat} (h : x < 2 ^ n) : bt1 x n = 0 := by unfold bt1; rw [Nat.div_eq_of_lt h]
theorem bitCount_ok {x : Nat} (hx : x < 2 ^ 30) : f_J6_bitCount_0f7a4 (nI x) = some (nI (pcN x 30)) := by
  have e : x = d4 (x / 2 ^ 0 % 256) (x / 2 ^ 8 % 256) (x / 2 ^ 16 % 256) (x / 2 ^ 24 % 256) := by unfold d4; omega
  have := bc_ok (a := x / 2 ^ 0 % 256) (b := x / 2 ^ 8 % 256) (c := x / 2 ^ 16 % 256) (d := x / 2 ^ 24 % 256) (by omega) (by omega) (by omega) (by omega)
  rw [← e] at this
  rw [this, pc8_sh, pc8_sh, pc8_sh, pc8_sh, show bt1 x (24 + 6) = 0 from bt1_hi hx, show bt1 x (24 + 7) = 0 from bt1_hi (show x < 2 ^ 31 by omega)]
  congr 2
  simp only [pcN, Nat.reduceAdd, Nat.zero_add, Nat.add_zero]
  omega
theorem pcN_mono {x y : Nat} (h : ∀ i, x.testBit i = true → y.testBit i = true) : ∀ n, pcN x n ≤ pcN y n
  | 0 => Nat.le_refl 0
  | n + 1 => by
    have ih := pcN_mono h n
    show pcN x n + bt1 x n ≤ pcN y n + bt1 y n
    rw [bt1_tb, bt1_tb]
    have := h n
    cases q : x.testBit n
    · show pcN x n + 0 ≤ _; omega
    · rw [this q]; show pcN x n + 1 ≤ pcN y n + 1; omega
