-- ===== copies =====
theorem cpy0 {f g : Nat → Int32} {n j : Nat} (h : j < n) : va_cpy f g 0 0 n j = f j := by
  show (if 0 ≤ j ∧ j < 0 + n then f (0 + (j - 0)) else g j) = f j
  rw [if_pos ⟨by omega, by omega⟩, show 0 + (j - 0) = j by omega]
theorem cpyI {f g : Nat → Int32} {a b n j : Nat} (h : j < n) : va_cpy f g b a n (a + j) = f (b + j) := by
  show (if a ≤ a + j ∧ a + j < a + n then f (b + (a + j - a)) else g (a + j)) = f (b + j)
  rw [if_pos ⟨by omega, by omega⟩, show a + j - a = j by omega]
theorem cpyO {f g : Nat → Int32} {a b n j : Nat} (h : j < a ∨ a + n ≤ j) : va_cpy f g b a n j = g j := if_neg (by omega)
theorem St_ext {u v : St} (h1 : u.1 = v.1) (h2 : ∀ j k, u.2.1 j k = v.2.1 j k) (h3 : u.2.2 = v.2.2) : u = v := by
  obtain ⟨u1, u2, u3⟩ := u
  obtain ⟨v1, v2, v3⟩ := v
  obtain rfl : u1 = v1 := h1
  obtain rfl : u2 = v2 := funext fun j => funext fun k => h2 j k
  obtain rfl : u3 = v3 := h3
  rfl
theorem sA_ne {u : St} {k j : Nat} {f : Nat → Int32} (h : j ≠ k) : (sA u k f).2.1 j = u.2.1 j := if_neg h
theorem sA_eq {u : St} {k : Nat} {f : Nat → Int32} : (sA u k f).2.1 k = f := if_pos rfl
def cpP (D S a b : Nat) (i : Nat) (u : St) : St := sA u D (upd (u.2.1 D) (a + i) (u.2.1 S (b + i)))
theorem cp_fu {D S a b : Nat} (u : St) : ∀ n, (D ≠ S ∨ a ≤ b ∨ b + n ≤ a) → fu (cpP D S a b) n u = sA u D (va_cpy (u.2.1 S) (u.2.1 D) b a n)
  | 0, _ => by
    refine St_ext (by rfl) (fun j k => ?_) (by rfl)
    show u.2.1 j k = (if j = D then va_cpy (u.2.1 S) (u.2.1 D) b a 0 else u.2.1 j) k
    by_cases q : j = D
    · rw [if_pos q, cpyO (by omega), q]
    · rw [if_neg q]
  | n + 1, h => by
    show cpP D S a b n (fu (cpP D S a b) n u) = _
    rw [cp_fu u n (by omega)]
    refine St_ext (by rfl) (fun j k => ?_) (by rfl)
    unfold cpP
    by_cases q : j = D
    · subst q
      rw [sA_eq, sA_eq, sA_eq]
      have e : (sA u j (va_cpy (u.2.1 S) (u.2.1 j) b a n)).2.1 S (b + n) = u.2.1 S (b + n) := by
        by_cases w : S = j
        · subst w; rw [sA_eq, cpyO (by omega)]
        · rw [sA_ne w]
      rw [e]
      show (if k = a + n then _ else va_cpy (u.2.1 S) (u.2.1 j) b a n k) = _
      by_cases w : k = a + n
      · rw [if_pos w, w, cpyI (by omega)]
      · rw [if_neg w]
        by_cases z : k < a ∨ a + n ≤ k
        · rw [cpyO z, cpyO (by omega)]
        · obtain ⟨i, rfl⟩ : ∃ i, k = a + i := ⟨k - a, by omega⟩
          rw [cpyI (by omega), cpyI (by omega)]
    · rw [sA_ne q, sA_ne q, sA_ne q]
def rwP (D S w : Nat) (i : Nat) (u : St) : St := sA u (D + i) (va_cpy (u.2.1 (S + i)) (u.2.1 (D + i)) 0 0 w)
def rwS (D S w n : Nat) (u : St) : St := (u.1, fun j => if D ≤ j ∧ j < D + n then va_cpy (u.2.1 (S + (j - D))) (u.2.1 j) 0 0 w else u.2.1 j, u.2.2)
theorem rwS_in {D S w n i : Nat} {u : St} (h : i < n) : (rwS D S w n u).2.1 (D + i) = va_cpy (u.2.1 (S + i)) (u.2.1 (D + i)) 0 0 w := by
  show (if D ≤ D + i ∧ D + i < D + n then va_cpy (u.2.1 (S + (D + i - D))) (u.2.1 (D + i)) 0 0 w else u.2.1 (D + i)) = _
  rw [if_pos ⟨by omega, by omega⟩, show D + i - D = i by omega]
theorem rwS_out {D S w n k : Nat} {u : St} (h : k < D ∨ D + n ≤ k) : (rwS D S w n u).2.1 k = u.2.1 k := if_neg (by omega)
theorem rw_fu {D S w : Nat} (u : St) : ∀ n, (D + n ≤ S ∨ S + n ≤ D) → fu (rwP D S w) n u = rwS D S w n u
  | 0, _ => by
    refine St_ext (by rfl) (fun j k => ?_) (by rfl)
    rw [rwS_out (by omega)]; rfl
  | n + 1, h => by
    show rwP D S w n (fu (rwP D S w) n u) = _
    rw [rw_fu u n (by omega)]
    refine St_ext (by rfl) (fun j k => ?_) (by rfl)
    unfold rwP
    rw [rwS_out (show S + n < D ∨ D + n ≤ S + n by omega), rwS_out (show D + n < D ∨ D + n ≤ D + n by omega)]
    by_cases q : j = D + n
    · rw [q, sA_eq, rwS_in (by omega)]
    · rw [sA_ne q]
      by_cases z : j < D ∨ D + n ≤ j
      · rw [rwS_out z, rwS_out (by omega)]
      · obtain ⟨i, rfl⟩ : ∃ i, j = D + i := ⟨j - D, by omega⟩
        rw [rwS_in (by omega), rwS_in (by omega)]
theorem rows_44_62 (u : St) : f_X7_copyRows_44_62 u = some (rwS 44 31 4 5 u) := by
  have h := up_loop' (fun F i (t : St) => L_X7_copyRows_44_62_2 (fun x2 u2 => some u2) F (nI i) t) (rwP 44 31 4) 5 (fun t => some t) ?_ ?_ u FU (FU_gt (by omega))
  · rw [rw_fu u 5 (by omega)] at h
    exact h
  · intro F i t hi
    show L_X7_copyRows_44_62_2 _ (F + 1) (nI i) t = _
    rw [L_X7_copyRows_44_62_2, if_neg (show ¬ (5 : Int32) ≤ nI i from nI_ge (b := 5) hi (by omega)), oobF hi (by decide), fT, show oobs 0 (if (4 : Nat) < 4 then 4 else 4) 4 = false from by decide, fT, fT, tc_nI (by omega), nI_1, show Int32.toNatClampNeg (if (4 : Nat) < 4 then 4 else 4) = 4 from by decide]
    rfl
  · intro F t
    show L_X7_copyRows_44_62_2 _ (F + 1) (nI 5) t = _
    rw [L_X7_copyRows_44_62_2, if_pos (show (5 : Int32) ≤ nI 5 by decide)]
theorem rows_44_73 (u : St) : f_X7_copyRows_44_73 u = some (rwS 53 31 4 5 u) := by
  have h := up_loop' (fun F i (t : St) => L_X7_copyRows_44_73_2 (fun x2 u2 => some u2) F (nI i) t) (rwP 53 31 4) 5 (fun t => some t) ?_ ?_ u FU (FU_gt (by omega))
  · rw [rw_fu u 5 (by omega)] at h
    exact h
  · intro F i t hi
    show L_X7_copyRows_44_73_2 _ (F + 1) (nI i) t = _
    rw [L_X7_copyRows_44_73_2, if_neg (show ¬ (5 : Int32) ≤ nI i from nI_ge (b := 5) hi (by omega)), oobF hi (by decide), fT, show oobs 0 (if (4 : Nat) < 4 then 4 else 4) 4 = false from by decide, fT, fT, tc_nI (by omega), nI_1, show Int32.toNatClampNeg (if (4 : Nat) < 4 then 4 else 4) = 4 from by decide]
    rfl
  · intro F t
    show L_X7_copyRows_44_73_2 _ (F + 1) (nI 5) t = _
    rw [L_X7_copyRows_44_73_2, if_pos (show (5 : Int32) ≤ nI 5 by decide)]
theorem rows_62_44 (u : St) : f_X7_copyRows_62_44 u = some (rwS 31 44 4 5 u) := by
  have h := up_loop' (fun F i (t : St) => L_X7_copyRows_62_44_2 (fun x2 u2 => some u2) F (nI i) t) (rwP 31 44 4) 5 (fun t => some t) ?_ ?_ u FU (FU_gt (by omega))
  · rw [rw_fu u 5 (by omega)] at h
    exact h
  · intro F i t hi
    show L_X7_copyRows_62_44_2 _ (F + 1) (nI i) t = _
    rw [L_X7_copyRows_62_44_2, if_neg (show ¬ (5 : Int32) ≤ nI i from nI_ge (b := 5) hi (by omega)), oobF hi (by decide), fT, show oobs 0 (if (4 : Nat) < 4 then 4 else 4) 4 = false from by decide, fT, fT, tc_nI (by omega), nI_1, show Int32.toNatClampNeg (if (4 : Nat) < 4 then 4 else 4) = 4 from by decide]
    rfl
  · intro F t
    show L_X7_copyRows_62_44_2 _ (F + 1) (nI 5) t = _
    rw [L_X7_copyRows_62_44_2, if_pos (show (5 : Int32) ≤ nI 5 by decide)]
theorem rows_73_44 (u : St) : f_X7_copyRows_73_44 u = some (rwS 31 53 4 5 u) := by
  have h := up_loop' (fun F i (t : St) => L_X7_copyRows_73_44_2 (fun x2 u2 => some u2) F (nI i) t) (rwP 31 53 4) 5 (fun t => some t) ?_ ?_ u FU (FU_gt (by omega))
  · rw [rw_fu u 5 (by omega)] at h
    exact h
  · intro F i t hi
    show L_X7_copyRows_73_44_2 _ (F + 1) (nI i) t = _
    rw [L_X7_copyRows_73_44_2, if_neg (show ¬ (5 : Int32) ≤ nI i from nI_ge (b := 5) hi (by omega)), oobF hi (by decide), fT, show oobs 0 (if (4 : Nat) < 4 then 4 else 4) 4 = false from by decide, fT, fT, tc_nI (by omega), nI_1, show Int32.toNatClampNeg (if (4 : Nat) < 4 then 4 else 4) = 4 from by decide]
    rfl
  · intro F t
    show L_X7_copyRows_73_44_2 _ (F + 1) (nI 5) t = _
    rw [L_X7_copyRows_73_44_2, if_pos (show (5 : Int32) ≤ nI 5 by decide)]
theorem rows_6_26 (u : St) : f_X7_copyRows_6_26 u = some (rwS 17 2 4 5 u) := by
  have h := up_loop' (fun F i (t : St) => L_X7_copyRows_6_26_2 (fun x2 u2 => some u2) F (nI i) t) (rwP 17 2 4) 5 (fun t => some t) ?_ ?_ u FU (FU_gt (by omega))
  · rw [rw_fu u 5 (by omega)] at h
    exact h
  · intro F i t hi
    show L_X7_copyRows_6_26_2 _ (F + 1) (nI i) t = _
    rw [L_X7_copyRows_6_26_2, if_neg (show ¬ (5 : Int32) ≤ nI i from nI_ge (b := 5) hi (by omega)), oobF hi (by decide), fT, show oobs 0 (if (4 : Nat) < 4 then 4 else 4) 4 = false from by decide, fT, fT, tc_nI (by omega), nI_1, show Int32.toNatClampNeg (if (4 : Nat) < 4 then 4 else 4) = 4 from by decide]
    rfl
  · intro F t
    show L_X7_copyRows_6_26_2 _ (F + 1) (nI 5) t = _
    rw [L_X7_copyRows_6_26_2, if_pos (show (5 : Int32) ≤ nI 5 by decide)]
theorem rows_12_32 (u : St) : f_X7_copyRows_12_32 u = some (rwS 22 7 2 4 u) := by
  have h := up_loop' (fun F i (t : St) => L_X7_copyRows_12_32_2 (fun x2 u2 => some u2) F (nI i) t) (rwP 22 7 2) 4 (fun t => some t) ?_ ?_ u FU (FU_gt (by omega))
  · rw [rw_fu u 4 (by omega)] at h
    exact h
  · intro F i t hi
    show L_X7_copyRows_12_32_2 _ (F + 1) (nI i) t = _
    rw [L_X7_copyRows_12_32_2, if_neg (show ¬ (4 : Int32) ≤ nI i from nI_ge (b := 4) hi (by omega)), oobF hi (by decide), fT, show oobs 0 (if (2 : Nat) < 2 then 2 else 2) 2 = false from by decide, fT, fT, tc_nI (by omega), nI_1, show Int32.toNatClampNeg (if (2 : Nat) < 2 then 2 else 2) = 2 from by decide]
    rfl
  · intro F t
    show L_X7_copyRows_12_32_2 _ (F + 1) (nI 4) t = _
    rw [L_X7_copyRows_12_32_2, if_pos (show (4 : Int32) ≤ nI 4 by decide)]
theorem rows_17_37 (u : St) : f_X7_copyRows_17_37 u = some (rwS 26 11 3 4 u) := by
  have h := up_loop' (fun F i (t : St) => L_X7_copyRows_17_37_2 (fun x2 u2 => some u2) F (nI i) t) (rwP 26 11 3) 4 (fun t => some t) ?_ ?_ u FU (FU_gt (by omega))
  · rw [rw_fu u 4 (by omega)] at h
    exact h
  · intro F i t hi
    show L_X7_copyRows_17_37_2 _ (F + 1) (nI i) t = _
    rw [L_X7_copyRows_17_37_2, if_neg (show ¬ (4 : Int32) ≤ nI i from nI_ge (b := 4) hi (by omega)), oobF hi (by decide), fT, show oobs 0 (if (3 : Nat) < 3 then 3 else 3) 3 = false from by decide, fT, fT, tc_nI (by omega), nI_1, show Int32.toNatClampNeg (if (3 : Nat) < 3 then 3 else 3) = 3 from by decide]
    rfl
  · intro F t
    show L_X7_copyRows_17_37_2 _ (F + 1) (nI 4) t = _
    rw [L_X7_copyRows_17_37_2, if_pos (show (4 : Int32) ≤ nI 4 by decide)]
theorem or_b0 : ∀ b : Nat, b < 4 → (b ||| 1) < 4 ∧ (b ||| 1).testBit 0 = true ∧ (b ||| 1).testBit 1 = b.testBit 1 := by decide
theorem or_b1 : ∀ b : Nat, b < 4 → (b ||| 2) < 4 ∧ (b ||| 2).testBit 1 = true ∧ (b ||| 2).testBit 0 = b.testBit 0 := by decide
section KB
variable {nC nP nS : Nat} {u v : St}
theorem keepV_ok (v : St) {i : Nat} (hi : i < 2) : f_X8_keep v (nI i) = some (v.2.1 7 0, sA (sA v 8 (va_cpy (v.2.1 7) (v.2.1 8) 0 (507 * i) 507)) 9 (upd (v.2.1 9) i 1)) := by
  unfold f_X8_keep
  have e : f_X8_in (nI i) 0 1 = some 1 := by rcases (show i = 0 ∨ i = 1 by omega) with rfl | rfl <;> decide
  rw [e, Option.bind_some, i1]
  have h := up_loop' (fun F j (t : St) => L_X8_keep_13 (fun x2 u13 => if oob (nI i) 2 then none else some (((u13.2.1 7) 0), (sA u13 9 (upd (u13.2.1 9) (Int32.toNatClampNeg (nI i)) 1)))) (nI i) F (nI j) t) (cpP 8 7 (507 * i) 0) 507 (fun t => some (t.2.1 7 0, sA t 9 (upd (t.2.1 9) i 1))) ?_ ?_ v FU (FU_gt (by omega))
  · rw [cp_fu v 507 (by omega)] at h
    exact h
  · intro F j t hj
    show L_X8_keep_13 _ (nI i) (F + 1) (nI j) t = _
    rw [L_X8_keep_13, if_neg (show ¬ (507 : Int32) ≤ nI j from nI_ge (b := 507) hj (by omega)), oobF hj (by decide), fT, show (507 : Int32) * nI i = nI (507 * i) from pk_mul 507 i, nI_add, oobF (show 507 * i + j < 1014 by omega) (by decide), fT, tc_nI (show j < 2 ^ 31 by omega), tc_nI (show 507 * i + j < 2 ^ 31 by omega), nI_1]
    show _ = L_X8_keep_13 _ (nI i) F (nI (j + 1)) (sA t 8 (upd (t.2.1 8) (507 * i + j) (t.2.1 7 (0 + j))))
    rw [Nat.zero_add]
  · intro F t
    show L_X8_keep_13 _ (nI i) (F + 1) (nI 507) t = _
    rw [L_X8_keep_13, if_pos (show (507 : Int32) ≤ nI 507 by decide), oobF hi (by decide), fT, tc_nI (by omega)]
theorem backV_ok (v : St) {i : Nat} (hi : i < 2) : f_X8_back v (nI i) = if v.2.1 9 i = 0 then some (-2, v) else some (v.2.1 8 (507 * i), sA v 7 (va_cpy (v.2.1 8) (v.2.1 7) (507 * i) 0 507)) := by
  unfold f_X8_back
  have e : f_X8_in (nI i) 0 1 = some 1 := by rcases (show i = 0 ∨ i = 1 by omega) with rfl | rfl <;> decide
  rw [e, Option.bind_some, i1, oobF hi (by decide), fT, tc_nI (by omega)]
  have h := up_loop' (fun F j (t : St) => L_X8_back_25 (fun x2 u25 => some (((u25.2.1 7) 0), u25)) (nI i) F (nI j) t) (cpP 7 8 0 (507 * i)) 507 (fun t => some (t.2.1 7 0, t)) ?_ ?_ v FU (FU_gt (by omega))
  · rw [cp_fu v 507 (by omega), sA_eq] at h
    by_cases q : v.2.1 9 i = 0
    · rw [if_pos q, if_pos q]
    · rw [if_neg q, if_neg q]
      exact h
  · intro F j t hj
    show L_X8_back_25 _ (nI i) (F + 1) (nI j) t = _
    rw [L_X8_back_25, if_neg (show ¬ (507 : Int32) ≤ nI j from nI_ge (b := 507) hj (by omega)), show (507 : Int32) * nI i = nI (507 * i) from pk_mul 507 i, nI_add, oobF (show 507 * i + j < 1014 by omega) (by decide), fT, oobF hj (by decide), fT, tc_nI (show j < 2 ^ 31 by omega), tc_nI (show 507 * i + j < 2 ^ 31 by omega), nI_1]
    show _ = L_X8_back_25 _ (nI i) F (nI (j + 1)) (sA t 7 (upd (t.2.1 7) (0 + j) (t.2.1 8 (507 * i + j))))
    rw [Nat.zero_add]
  · intro F t
    show L_X8_back_25 _ (nI i) (F + 1) (nI 507) t = _
    rw [L_X8_back_25, if_pos (show (507 : Int32) ≤ nI 507 by decide)]
def kp0 (u : St) : St := rwS 44 31 4 5 (sA (sI (sI (sI u 15 (u.1 10)) 16 (u.1 11)) 17 (u.1 12)) 43 (va_cpy (u.2.1 30) (u.2.1 43) 0 0 24))
def kq0 (u : St) : St := sA (sA (sA (kp0 u) 49 (va_cpy (u.2.1 36) (u.2.1 49) 0 0 10)) 50 (va_cpy (u.2.1 37) (u.2.1 50) 0 0 10)) 51 (va_cpy (u.2.1 38) (u.2.1 51) 0 0 10)
theorem kept0 (u : St) : f_X3_becomeAs_60_42 u = some (kq0 u) := by
  unfold f_X3_becomeAs_60_42
  rw [rows_44_62, Option.bind_some]; rfl
theorem kq0_row (u : St) {k : Nat} (h : k < 43 ∨ 51 < k) : (kq0 u).2.1 k = u.2.1 k := (if_neg (by omega)).trans ((if_neg (by omega)).trans ((if_neg (by omega)).trans ((if_neg (by omega)).trans (if_neg (by omega)))))
theorem kq0_num (u : St) {k : Nat} (h : k < 15 ∨ 17 < k) : (kq0 u).1 k = u.1 k := (if_neg (by omega)).trans ((if_neg (by omega)).trans (if_neg (by omega)))
theorem kq0_img {nC nP : Nat} {u v : St} (P : Pn nC nP u v) {st : Nat → Int32} (hs : ∀ k, k < 507 → st k = v.2.1 7 k) : PR nC nP ((kq0 u).1 15) ((kq0 u).1 16) ((kq0 u).1 17) ((kq0 u).2.1 43) (fun c => (kq0 u).2.1 (44 + c)) ((kq0 u).2.1 49) ((kq0 u).2.1 50) ((kq0 u).2.1 51) st := by
  refine PR.congr P rfl rfl rfl (fun x hx => ?_) (fun c p hc hp => ?_) (fun j hj => ⟨cpy0 hj, cpy0 hj, cpy0 hj⟩) hs
  · exact cpy0 (f := u.2.1 30) (g := u.2.1 43) hx
  · have e : (kq0 u).2.1 (44 + c) = (kp0 u).2.1 (44 + c) := (sA_ne (by omega)).trans ((sA_ne (by omega)).trans (sA_ne (by omega)))
    show (kq0 u).2.1 (44 + c) p = u.2.1 (31 + c) p
    rw [e, kp0, rwS_in hc, cpy0 hp, sA_ne (by omega)]; rfl
def bp0 (u : St) : St := rwS 31 44 4 5 (sA (sI (sI (sI u 10 (u.1 15)) 11 (u.1 16)) 12 (u.1 17)) 30 (va_cpy (u.2.1 43) (u.2.1 30) 0 0 24))
def bq0 (u : St) : St := sA (sA (sA (bp0 u) 36 (va_cpy (u.2.1 49) (u.2.1 36) 0 0 10)) 37 (va_cpy (u.2.1 50) (u.2.1 37) 0 0 10)) 38 (va_cpy (u.2.1 51) (u.2.1 38) 0 0 10)
theorem back0 (u : St) : f_X3_becomeAs_42_60 u = some (bq0 u) := by
  unfold f_X3_becomeAs_42_60
  rw [rows_62_44, Option.bind_some]; rfl
theorem bq0_row (u : St) {k : Nat} (h : k < 30 ∨ 38 < k) : (bq0 u).2.1 k = u.2.1 k := (if_neg (by omega)).trans ((if_neg (by omega)).trans ((if_neg (by omega)).trans ((if_neg (by omega)).trans (if_neg (by omega)))))
theorem bq0_num (u : St) {k : Nat} (h : k < 10 ∨ 12 < k) : (bq0 u).1 k = u.1 k := (if_neg (by omega)).trans ((if_neg (by omega)).trans (if_neg (by omega)))
theorem bq0_now {nC nP : Nat} {u : St} {s0 st : Nat → Int32} (P : PR nC nP (u.1 15) (u.1 16) (u.1 17) (u.2.1 43) (fun c => u.2.1 (44 + c)) (u.2.1 49) (u.2.1 50) (u.2.1 51) s0) (hs : ∀ k, k < 507 → st k = s0 k) : PR nC nP ((bq0 u).1 10) ((bq0 u).1 11) ((bq0 u).1 12) ((bq0 u).2.1 30) (fun c => (bq0 u).2.1 (31 + c)) ((bq0 u).2.1 36) ((bq0 u).2.1 37) ((bq0 u).2.1 38) st := by
  refine PR.congr P rfl rfl rfl (fun x hx => ?_) (fun c p hc hp => ?_) (fun j hj => ⟨cpy0 hj, cpy0 hj, cpy0 hj⟩) hs
  · exact cpy0 (f := u.2.1 43) (g := u.2.1 30) hx
  · have e : (bq0 u).2.1 (31 + c) = (bp0 u).2.1 (31 + c) := (sA_ne (by omega)).trans ((sA_ne (by omega)).trans (sA_ne (by omega)))
    show (bq0 u).2.1 (31 + c) p = u.2.1 (44 + c) p
    rw [e, bp0, rwS_in hc, cpy0 hp, sA_ne (by omega)]; rfl
def kp1 (u : St) : St := rwS 53 31 4 5 (sA (sI (sI (sI u 18 (u.1 10)) 19 (u.1 11)) 20 (u.1 12)) 52 (va_cpy (u.2.1 30) (u.2.1 52) 0 0 24))
def kq1 (u : St) : St := sA (sA (sA (kp1 u) 58 (va_cpy (u.2.1 36) (u.2.1 58) 0 0 10)) 59 (va_cpy (u.2.1 37) (u.2.1 59) 0 0 10)) 60 (va_cpy (u.2.1 38) (u.2.1 60) 0 0 10)
theorem kept1 (u : St) : f_X3_becomeAs_71_42 u = some (kq1 u) := by
  unfold f_X3_becomeAs_71_42
  rw [rows_44_73, Option.bind_some]; rfl
theorem kq1_row (u : St) {k : Nat} (h : k < 52 ∨ 60 < k) : (kq1 u).2.1 k = u.2.1 k := (if_neg (by omega)).trans ((if_neg (by omega)).trans ((if_neg (by omega)).trans ((if_neg (by omega)).trans (if_neg (by omega)))))
theorem kq1_num (u : St) {k : Nat} (h : k < 18 ∨ 20 < k) : (kq1 u).1 k = u.1 k := (if_neg (by omega)).trans ((if_neg (by omega)).trans (if_neg (by omega)))
theorem kq1_img {nC nP : Nat} {u v : St} (P : Pn nC nP u v) {st : Nat → Int32} (hs : ∀ k, k < 507 → st k = v.2.1 7 k) : PR nC nP ((kq1 u).1 18) ((kq1 u).1 19) ((kq1 u).1 20) ((kq1 u).2.1 52) (fun c => (kq1 u).2.1 (53 + c)) ((kq1 u).2.1 58) ((kq1 u).2.1 59) ((kq1 u).2.1 60) st := by
  refine PR.congr P rfl rfl rfl (fun x hx => ?_) (fun c p hc hp => ?_) (fun j hj => ⟨cpy0 hj, cpy0 hj, cpy0 hj⟩) hs
  · exact cpy0 (f := u.2.1 30) (g := u.2.1 52) hx
  · have e : (kq1 u).2.1 (53 + c) = (kp1 u).2.1 (53 + c) := (sA_ne (by omega)).trans ((sA_ne (by omega)).trans (sA_ne (by omega)))
    show (kq1 u).2.1 (53 + c) p = u.2.1 (31 + c) p
    rw [e, kp1, rwS_in hc, cpy0 hp, sA_ne (by omega)]; rfl
def bp1 (u : St) : St := rwS 31 53 4 5 (sA (sI (sI (sI u 10 (u.1 18)) 11 (u.1 19)) 12 (u.1 20)) 30 (va_cpy (u.2.1 52) (u.2.1 30) 0 0 24))
def bq1 (u : St) : St := sA (sA (sA (bp1 u) 36 (va_cpy (u.2.1 58) (u.2.1 36) 0 0 10)) 37 (va_cpy (u.2.1 59) (u.2.1 37) 0 0 10)) 38 (va_cpy (u.2.1 60) (u.2.1 38) 0 0 10)
theorem back1 (u : St) : f_X3_becomeAs_42_71 u = some (bq1 u) := by
  unfold f_X3_becomeAs_42_71
  rw [rows_73_44, Option.bind_some]; rfl
theorem bq1_row (u : St) {k : Nat} (h : k < 30 ∨ 38 < k) : (bq1 u).2.1 k = u.2.1 k := (if_neg (by omega)).trans ((if_neg (by omega)).trans ((if_neg (by omega)).trans ((if_neg (by omega)).trans (if_neg (by omega)))))
theorem bq1_num (u : St) {k : Nat} (h : k < 10 ∨ 12 < k) : (bq1 u).1 k = u.1 k := (if_neg (by omega)).trans ((if_neg (by omega)).trans (if_neg (by omega)))
theorem bq1_now {nC nP : Nat} {u : St} {s0 st : Nat → Int32} (P : PR nC nP (u.1 18) (u.1 19) (u.1 20) (u.2.1 52) (fun c => u.2.1 (53 + c)) (u.2.1 58) (u.2.1 59) (u.2.1 60) s0) (hs : ∀ k, k < 507 → st k = s0 k) : PR nC nP ((bq1 u).1 10) ((bq1 u).1 11) ((bq1 u).1 12) ((bq1 u).2.1 30) (fun c => (bq1 u).2.1 (31 + c)) ((bq1 u).2.1 36) ((bq1 u).2.1 37) ((bq1 u).2.1 38) st := by
  refine PR.congr P rfl rfl rfl (fun x hx => ?_) (fun c p hc hp => ?_) (fun j hj => ⟨cpy0 hj, cpy0 hj, cpy0 hj⟩) hs
  · exact cpy0 (f := u.2.1 52) (g := u.2.1 30) hx
  · have e : (bq1 u).2.1 (31 + c) = (bp1 u).2.1 (31 + c) := (sA_ne (by omega)).trans ((sA_ne (by omega)).trans (sA_ne (by omega)))
    show (bq1 u).2.1 (31 + c) p = u.2.1 (53 + c) p
    rw [e, bp1, rwS_in hc, cpy0 hp, sA_ne (by omega)]; rfl
theorem keep_ok (h : RR nC nP nS u v) (x : Int32) : Wo (f_X7_keep u x) (f_X8_keep v x) := by
  rcases in01 x with ⟨e, hx⟩ | ⟨e, -, -⟩
  · obtain ⟨T, P, ⟨b, b1, b2, ⟨b3, b4⟩, b5, b6⟩, X, C, J⟩ := h
    rcases hx with rfl | rfl
    · have ek : f_X7_keep u (nI 0) = some (u.1 10, sI (kq0 u) 21 (u.1 21 ||| (1 <<< (nI 0 &&& 31)))) := by
        unfold f_X7_keep
        rw [show f_X7_isWithin (nI 0) 0 (2 - 1) = some 1 from by decide, Option.bind_some, i1]
        rw [kept0, kept1]; rfl
      show Wo (f_X7_keep u (nI 0)) (f_X8_keep v (nI 0))
      rw [ek, keepV_ok v (i := 0) (by omega)]
      refine ⟨u.1 10, _, _, rfl, by rw [P.b.1], nC, nP, nS, ?_, ?_, ⟨b ||| 1, ?_, ?_, ?_⟩, ?_, ?_, ?_⟩
      · exact T.fr (fun k h1 h2 => (if_neg (by omega)).trans (kq0_num u (by omega))) (fun k h1 h2 => kq0_row u (by omega)) (fun k h1 => rfl) (fun k h1 => (if_neg (by omega)).trans (if_neg (by omega)))
      · exact P.fr (fun k h1 h2 => (if_neg (by omega)).trans (kq0_num u (by omega))) (fun k h1 h2 => kq0_row u (by omega)) rfl
      · exact (or_b0 b b1).1
      · show u.1 21 ||| (1 <<< (nI 0 &&& 31)) = _
        rw [b2, n_shl (by omega), n_or]
      · have hb : (b ||| 1).testBit 0 = true ∧ (b ||| 1).testBit 1 = b.testBit 1 := (or_b0 b b1).2
        refine ⟨⟨by rw [hb.1]; rfl, fun _ => kq0_img P (fun k hk => cpy0 (g := v.2.1 8) hk)⟩, by rw [hb.2]; exact b5, fun q => ?_⟩
        rw [hb.2] at q
        refine PR.congr (b6 q) ?_ ?_ ?_ (fun x _ => ?_) (fun c p hc _ => ?_) (fun j _ => ⟨?_, ?_, ?_⟩) fun k hk => ?_
        · exact kq0_num u (k := 18) (by omega)
        · exact kq0_num u (k := 19) (by omega)
        · exact kq0_num u (k := 20) (by omega)
        · exact congrFun (kq0_row u (k := 52) (by omega)) x
        · exact congrFun (kq0_row u (k := 53 + c) (by omega)) p
        · exact congrFun (kq0_row u (k := 58) (by omega)) j
        · exact congrFun (kq0_row u (k := 59) (by omega)) j
        · exact congrFun (kq0_row u (k := 60) (by omega)) j
        · exact cpyO (f := v.2.1 7) (by omega)
      · exact X.fr (kq0_num u (k := 0) (by omega)) (kq0_row u (k := 0) (by omega)) rfl rfl
      · exact C.fr (fun k h1 h2 => (if_neg (by omega)).trans (kq0_num u (by omega))) (fun k h1 h2 => kq0_row u (by omega)) (fun k h1 h2 => rfl) (fun k h1 h2 => (if_neg (by omega)).trans (if_neg (by omega)))
      · exact J
    · have ek : f_X7_keep u (nI 1) = some (u.1 10, sI (kq1 u) 21 (u.1 21 ||| (1 <<< (nI 1 &&& 31)))) := by
        unfold f_X7_keep
        rw [show f_X7_isWithin (nI 1) 0 (2 - 1) = some 1 from by decide, Option.bind_some, i1]
        rw [kept0, kept1]; rfl
      show Wo (f_X7_keep u (nI 1)) (f_X8_keep v (nI 1))
      rw [ek, keepV_ok v (i := 1) (by omega)]
      refine ⟨u.1 10, _, _, rfl, by rw [P.b.1], nC, nP, nS, ?_, ?_, ⟨b ||| 2, ?_, ?_, ?_⟩, ?_, ?_, ?_⟩
      · exact T.fr (fun k h1 h2 => (if_neg (by omega)).trans (kq1_num u (by omega))) (fun k h1 h2 => kq1_row u (by omega)) (fun k h1 => rfl) (fun k h1 => (if_neg (by omega)).trans (if_neg (by omega)))
      · exact P.fr (fun k h1 h2 => (if_neg (by omega)).trans (kq1_num u (by omega))) (fun k h1 h2 => kq1_row u (by omega)) rfl
      · exact (or_b1 b b1).1
      · show u.1 21 ||| (1 <<< (nI 1 &&& 31)) = _
        rw [b2, n_shl (by omega), n_or]
      · have hb : (b ||| 2).testBit 1 = true ∧ (b ||| 2).testBit 0 = b.testBit 0 := (or_b1 b b1).2
        refine ⟨⟨by rw [hb.2]; exact b3, fun q => ?_⟩, by rw [hb.1]; rfl, fun _ => kq1_img P (fun k hk => (cpyI (g := v.2.1 8) (a := 507) hk).trans (by rw [Nat.zero_add]))⟩
        rw [hb.2] at q
        refine PR.congr (b4 q) ?_ ?_ ?_ (fun x _ => ?_) (fun c p hc _ => ?_) (fun j _ => ⟨?_, ?_, ?_⟩) fun k hk => ?_
        · exact kq1_num u (k := 15) (by omega)
        · exact kq1_num u (k := 16) (by omega)
        · exact kq1_num u (k := 17) (by omega)
        · exact congrFun (kq1_row u (k := 43) (by omega)) x
        · exact congrFun (kq1_row u (k := 44 + c) (by omega)) p
        · exact congrFun (kq1_row u (k := 49) (by omega)) j
        · exact congrFun (kq1_row u (k := 50) (by omega)) j
        · exact congrFun (kq1_row u (k := 51) (by omega)) j
        · exact cpyO (f := v.2.1 7) (by omega)
      · exact X.fr (kq1_num u (k := 0) (by omega)) (kq1_row u (k := 0) (by omega)) rfl rfl
      · exact C.fr (fun k h1 h2 => (if_neg (by omega)).trans (kq1_num u (by omega))) (fun k h1 h2 => kq1_row u (by omega)) (fun k h1 h2 => rfl) (fun k h1 h2 => (if_neg (by omega)).trans (if_neg (by omega)))
      · exact J
  · unfold f_X7_keep f_X8_keep
    rw [in_eq, show (2 - 1 : Int32) = 1 from rfl, e, Option.bind_some, Option.bind_some, i0, i0]
    exact Wo.same h
theorem back_ok (h : RR nC nP nS u v) (x : Int32) : Wo (f_X7_back u x) (f_X8_back v x) := by
  rcases in01 x with ⟨e, hx⟩ | ⟨e, -, -⟩
  · obtain ⟨T, P, ⟨b, b1, b2, ⟨b3, b4⟩, b5, b6⟩, X, C, J⟩ := h
    rcases hx with rfl | rfl
    · have ek : f_X7_back u (nI 0) = if b.testBit 0 = true then some (u.1 15, bq0 u) else some (-2, u) := by
        unfold f_X7_back
        rw [show f_X7_isWithin (nI 0) 0 (2 - 1) = some 1 from by decide, Option.bind_some, i1, b2, n_in (by omega) (by omega), Option.bind_some, back0, back1]
        cases b.testBit 0 <;> rfl
      show Wo (f_X7_back u (nI 0)) (f_X8_back v (nI 0))
      rw [ek, backV_ok v (i := 0) (by omega), b3]
      cases q : b.testBit 0
      · rw [fT, if_pos (show bI false = 0 from rfl)]
        exact Wo.same ⟨T, P, ⟨b, b1, b2, ⟨b3, b4⟩, b5, b6⟩, X, C, J⟩
      · rw [if_pos rfl, if_neg (show ¬ bI true = 0 by decide)]
        have hP := b4 q
        refine ⟨u.1 15, _, _, rfl, by rw [show u.1 15 = v.2.1 8 (507 * 0) from hP.elim fun d hd => hd.1.1], nC, nP, nS, ?_, ?_, ?_, ?_, ?_, ?_⟩
        · exact T.fr (fun k h1 h2 => bq0_num u (by omega)) (fun k h1 h2 => bq0_row u (by omega)) (fun k h1 => rfl) (fun k h1 => if_neg (by omega))
        · exact bq0_now hP fun k hk => (cpy0 (f := fun k => v.2.1 8 (507 * 0 + k)) (g := v.2.1 7) hk).symm.trans (cpy0 hk) |> fun _ => (by rw [sA_eq, show va_cpy (v.2.1 8) (v.2.1 7) (507 * 0) 0 507 k = va_cpy (v.2.1 8) (v.2.1 7) 0 0 507 k from rfl, cpy0 hk])
        · exact Im.fr ⟨b, b1, b2, ⟨b3, b4⟩, b5, b6⟩ (fun k h1 h2 => bq0_num u (by omega)) (fun k h1 h2 => bq0_row u (by omega)) (fun k h1 h2 => if_neg (by omega))
        · exact X.fr (bq0_num u (by omega)) (bq0_row u (by omega)) rfl rfl
        · exact C.fr (fun k h1 h2 => bq0_num u (by omega)) (fun k h1 h2 => bq0_row u (by omega)) (fun k h1 h2 => rfl) (fun k h1 h2 => if_neg (by omega))
        · exact J
    · have ek : f_X7_back u (nI 1) = if b.testBit 1 = true then some (u.1 18, bq1 u) else some (-2, u) := by
        unfold f_X7_back
        rw [show f_X7_isWithin (nI 1) 0 (2 - 1) = some 1 from by decide, Option.bind_some, i1, b2, n_in (by omega) (by omega), Option.bind_some, back0, back1]
        cases b.testBit 1 <;> rfl
      show Wo (f_X7_back u (nI 1)) (f_X8_back v (nI 1))
      rw [ek, backV_ok v (i := 1) (by omega), b5]
      cases q : b.testBit 1
      · rw [fT, if_pos (show bI false = 0 from rfl)]
        exact Wo.same ⟨T, P, ⟨b, b1, b2, ⟨b3, b4⟩, b5, b6⟩, X, C, J⟩
      · rw [if_pos rfl, if_neg (show ¬ bI true = 0 by decide)]
        have hP := b6 q
        refine ⟨u.1 18, _, _, rfl, by rw [show u.1 18 = v.2.1 8 (507 * 1) from hP.elim fun d hd => hd.1.1], nC, nP, nS, ?_, ?_, ?_, ?_, ?_, ?_⟩
        · exact T.fr (fun k h1 h2 => bq1_num u (by omega)) (fun k h1 h2 => bq1_row u (by omega)) (fun k h1 => rfl) (fun k h1 => if_neg (by omega))
        · exact bq1_now hP fun k hk => (by rw [sA_eq]; have := cpyI (f := v.2.1 8) (g := v.2.1 7) (a := 0) (b := 507 * 1) hk; rw [Nat.zero_add] at this; exact this)
        · exact Im.fr ⟨b, b1, b2, ⟨b3, b4⟩, b5, b6⟩ (fun k h1 h2 => bq1_num u (by omega)) (fun k h1 h2 => bq1_row u (by omega)) (fun k h1 h2 => if_neg (by omega))
        · exact X.fr (bq1_num u (by omega)) (bq1_row u (by omega)) rfl rfl
        · exact C.fr (fun k h1 h2 => bq1_num u (by omega)) (fun k h1 h2 => bq1_row u (by omega)) (fun k h1 h2 => rfl) (fun k h1 h2 => if_neg (by omega))
        · exact J
  · unfold f_X7_back f_X8_back
    rw [in_eq, show (2 - 1 : Int32) = 1 from rfl, e, Option.bind_some, Option.bind_some, i0, i0]
    exact Wo.same h
end KB
