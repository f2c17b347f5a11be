-- ===== remembering a deed =====
def rmS (st : Nat → Int32) (d : Nat) : Nat → Int32 :=
  if d = 10 then upd (va_cpy (upd (va_cpy st st 93 47 414) 46 (nI 9)) (upd (va_cpy st st 93 47 414) 46 (nI 9)) 0 461 46) 46 (nI 10)
  else upd (va_cpy st st 0 (47 + 46 * d) 46) 46 (nI (d + 1))
def psS (f : Nat → Int32) (d : Nat) (x : Int32) : Nat → Int32 := if d = 10 then upd (va_cpy f f 1 0 9) 9 x else upd f d x
def nx (d : Nat) : Nat := if d = 10 then 10 else d + 1
def sx (d : Nat) : Nat := if d = 10 then 1 else 0
theorem cpyR {f g : Nat → Int32} {a b n j : Nat} (h : a ≤ j) (h2 : j < a + n) : va_cpy f g b a n j = f (b + (j - a)) := if_pos ⟨h, h2⟩
theorem upN {f : Nat → Int32} {k j : Nat} {x : Int32} (h : j ≠ k) : upd f k x j = f j := if_neg h
theorem upE {f : Nat → Int32} {k : Nat} {x : Int32} : upd f k x k = x := if_pos rfl
theorem rm_lo {st : Nat → Int32} {d k : Nat} (hd : d ≤ 10) (hk : k < 46) : rmS st d k = st k := by
  unfold rmS
  by_cases q : d = 10
  · rw [if_pos q, upN (by omega), cpyO (by omega), upN (by omega), cpyO (by omega)]
  · rw [if_neg q, upN (by omega), cpyO (by omega)]
theorem rm_46 {st : Nat → Int32} {d : Nat} : rmS st d 46 = nI (nx d) := by
  unfold rmS nx
  by_cases q : d = 10
  · rw [if_pos q, if_pos q, upE]
  · rw [if_neg q, if_neg q, upE]
theorem rm_hi {st : Nat → Int32} {d j k : Nat} (hd : d ≤ 10) (hj : j < nx d) (hk : k < 46) : rmS st d (47 + 46 * j + k) = sn st d (j + sx d) k := by
  unfold rmS sn
  unfold nx at hj
  unfold sx
  by_cases q : d = 10
  · rw [if_pos q] at hj ⊢
    rw [if_pos q, upN (by omega)]
    by_cases w : j = 9
    · subst w
      rw [if_pos (by omega), cpyR (by omega) (by omega), upN (by omega), cpyO (by omega), show 0 + (47 + 46 * 9 + k - 461) = k by omega]
    · rw [if_neg (by omega), cpyO (by omega), upN (by omega), cpyR (by omega) (by omega)]
      congr 1; omega
  · rw [if_neg q] at hj ⊢
    rw [if_neg q, upN (by omega), Nat.add_zero]
    by_cases w : j = d
    · rw [if_pos w, cpyR (by omega) (by omega)]
      congr 1; omega
    · rw [if_neg w, cpyO (by omega)]
theorem ps_lo {f : Nat → Int32} {d j : Nat} {x : Int32} (hd : d ≤ 10) (h : j + 1 < nx d) : psS f d x j = f (j + sx d) := by
  unfold psS sx
  unfold nx at h
  by_cases q : d = 10
  · rw [if_pos q] at h ⊢
    rw [if_pos q, upN (by omega), cpyR (by omega) (by omega)]
    congr 1; omega
  · rw [if_neg q] at h ⊢
    rw [if_neg q, upN (by omega), Nat.add_zero]
theorem ps_hi {f : Nat → Int32} {d j : Nat} {x : Int32} (hd : d ≤ 10) (h : j + 1 = nx d) : psS f d x j = x := by
  unfold psS
  unfold nx at h
  by_cases q : d = 10
  · rw [if_pos q] at h ⊢
    rw [show j = 9 by omega, upE]
  · rw [if_neg q] at h ⊢
    rw [show j = d by omega, upE]
theorem push {nC nP d : Nat} {hr ak dn hr' ak' dn' so nu rx : Int32} {ro ds dm dr ro' ds' dm' dr' : Nat → Int32} {se se' : Nat → Nat → Int32} {st st' : Nat → Int32}
    (h : PRd nC nP d hr ak dn ro se ds dm dr st) (hB : Bq hr' ak' ro' se' st') (hV : Vb nC nP st') (hD : Dd so nu rx st' st)
    (h1 : dn' = nI (nx d)) (h2 : ∀ k, 46 ≤ k → k < 507 → st' k = rmS st d k) (h3 : ds' = psS ds d so) (h4 : dm' = psS dm d nu) (h5 : dr' = psS dr d rx) :
    PRd nC nP (nx d) hr' ak' dn' ro' se' ds' dm' dr' st' := by
  obtain ⟨a1, a2, a3, a4, a5, a6⟩ := h
  have hn : nx d ≤ 10 := by unfold nx; split <;> omega
  have hsx : nx d = d + 1 - sx d ∧ sx d ≤ 1 ∧ (0 < nx d) := by unfold nx sx; split <;> omega
  have key : ∀ j, j < nx d → ∀ k, k < 46 → sn st' (nx d) j k = sn st d (j + sx d) k := fun j hj k hk => by
    rw [sn_lt hj]
    show st' (47 + 46 * j + k) = _
    rw [h2 _ (by omega) (by omega), rm_hi a2 hj hk]
  refine ⟨hB, hn, h1, (h2 46 (by omega) (by omega)).trans rm_46, fun j hj => ?_, fun j hj => ?_⟩
  · by_cases q : j = nx d
    · rw [q, sn_eq]; exact hV
    · exact (a5 (j + sx d) (by omega)).congr (key j (by omega))
  · rw [h3, h4, h5]
    by_cases q : j + 1 = nx d
    · rw [ps_hi a2 q, ps_hi a2 q, ps_hi a2 q, q, sn_eq]
      refine hD.congr (fun _ _ => rfl) fun k hk => ?_
      rw [key j hj k hk, show j + sx d = d by omega, sn_eq]
    · rw [ps_lo a2 (by omega), ps_lo a2 (by omega), ps_lo a2 (by omega)]
      refine (a6 (j + sx d) (by omega)).congr (fun k hk => ?_) (key j hj)
      rw [key (j + 1) (by omega) k hk, show j + 1 + sx d = j + sx d + 1 by omega]
theorem remU_ok (u : St) {d : Nat} (hd : d ≤ 10) (h : u.1 12 = nI d) (x y z : Int32) : f_X3_remember u x y z = some (sI (sA (sA (sA u 36 (psS (u.2.1 36) d x)) 37 (psS (u.2.1 37) d y)) 38 (psS (u.2.1 38) d z)) 12 (nI (nx d))) := by
  unfold f_X3_remember nx psS
  rw [h]
  by_cases q : d = 10
  · subst q
    rw [if_neg (show ¬ nI 10 < 10 by decide)]
    unfold f_X3_loseOldest
    rw [Option.bind_some]
    rw [show (sI (sA (sA (sA u 36 (va_cpy (u.2.1 36) (u.2.1 36) 1 0 9)) 37 (va_cpy (u.2.1 37) (u.2.1 37) 1 0 9)) 38 (va_cpy (u.2.1 38) (u.2.1 38) 1 0 9)) 12 9).1 12 = 9 from rfl, show oob 9 10 = false from by decide, fT, show Int32.toNatClampNeg 9 = 9 from rfl]
    refine congrArg some (St_ext ?_ (fun j k => ?_) rfl)
    · funext k
      show (if k = 12 then (9 + 1 : Int32) else if k = 12 then 9 else u.1 k) = if k = 12 then nI 10 else u.1 k
      by_cases w : k = 12
      · rw [if_pos w, if_pos w]; rfl
      · rw [if_neg w, if_neg w, if_neg w]
    · simp only [if_true]
      by_cases w1 : j = 38
      · subst w1; rfl
      · by_cases w2 : j = 37
        · subst w2; rfl
        · by_cases w3 : j = 36
          · subst w3; rfl
          · have e : ∀ (w : St) (f1 f2 f3 : Nat → Int32) (m : Nat) (t : Int32), (sI (sA (sA (sA w 36 f1) 37 f2) 38 f3) m t).2.1 j = w.2.1 j := fun w f1 f2 f3 m t => (sA_ne w1).trans ((sA_ne w2).trans (sA_ne w3))
            rw [e, e, e]
  · rw [if_pos (show nI d < 10 from nI_lt (b := 10) (by omega) (by omega)), oobF (show d < 10 by omega) (by decide), fT, tc_nI (by omega), nI_1]
    simp only [if_neg q]
theorem cp_loop (L : (Int32 → St → Option St) → Nat → Int32 → St → Option St) (k : Int32 → St → Option St) (D S a b n o : Nat) (u : St) (hn : n < 1000)
    (hs : ∀ F i t, i < n → L k (F + 1) (nI (o + i)) t = L k F (nI (o + (i + 1))) (cpP D S a b i t)) (he : ∀ F t, L k (F + 1) (nI (o + n)) t = k (nI (o + n)) t) (hd : D ≠ S ∨ a ≤ b ∨ b + n ≤ a) :
    L k FU (nI o) u = k (nI (o + n)) (sA u D (va_cpy (u.2.1 S) (u.2.1 D) b a n)) := by
  have h := up_loop' (fun F i (t : St) => L k F (nI (o + i)) t) (cpP D S a b) n (fun t => k (nI (o + n)) t) hs he u FU (FU_gt (by omega))
  rw [cp_fu u n hd] at h
  exact h
theorem sAA {u : St} {k : Nat} {f g : Nat → Int32} : sA (sA u k f) k g = sA u k g := by
  refine St_ext rfl (fun j i => ?_) rfl
  by_cases q : j = k
  · subst q; rw [sA_eq, sA_eq]
  · rw [sA_ne q, sA_ne q, sA_ne q]
theorem remV70 (v : St) (k : Int32 → St → Option St) {a : Nat} (ha : 47 ≤ a ∧ a ≤ 461) : L_X8_remembers_70 k (nI a) FU 0 v = k 46 (sA v 7 (va_cpy (v.2.1 7) (v.2.1 7) 0 a 46)) := by
  refine cp_loop (fun k F x u => L_X8_remembers_70 k (nI a) F x u) k 7 7 a 0 46 0 v (by omega) ?_ ?_ (by omega)
  · intro F i t hi
    rw [Nat.zero_add, Nat.zero_add, L_X8_remembers_70, if_neg (show ¬ (46 : Int32) ≤ nI i from nI_ge (b := 46) hi (by omega)), oobF (show i < 507 by omega) (by decide), nI_add, oobF (show a + i < 507 by omega) (by decide), fT, fT, tc_nI (by omega), tc_nI (by omega), nI_1]
    show _ = L_X8_remembers_70 k (nI a) F (nI (i + 1)) (sA t 7 (upd (t.2.1 7) (a + i) (t.2.1 7 (0 + i))))
    rw [Nat.zero_add]
  · intro F t
    rw [L_X8_remembers_70, if_pos (show (46 : Int32) ≤ nI (0 + 46) by decide)]
theorem remV15 (v : St) (k : Int32 → St → Option St) : L_X8_remembers_15 k FU 47 v = k (nI (47 + 414)) (sA v 7 (va_cpy (v.2.1 7) (v.2.1 7) 93 47 414)) := by
  refine cp_loop (fun k F x u => L_X8_remembers_15 k F x u) k 7 7 47 93 414 47 v (by omega) ?_ ?_ (by omega)
  · intro F i t hi
    rw [L_X8_remembers_15, if_neg (show ¬ (461 : Int32) ≤ nI (47 + i) from nI_ge (b := 461) (by omega) (by omega)), show (46 : Int32) = nI 46 from rfl, nI_add, oobF (show 47 + i + 46 < 507 by omega) (by decide), oobF (show 47 + i < 507 by omega) (by decide), fT, fT, tc_nI (by omega), tc_nI (by omega), nI_1]
    show _ = L_X8_remembers_15 k F (nI (47 + (i + 1))) (sA t 7 (upd (t.2.1 7) (47 + i) (t.2.1 7 (93 + i))))
    rw [show 47 + i + 46 = 93 + i by omega]; rfl
  · intro F t
    rw [L_X8_remembers_15, if_pos (show (461 : Int32) ≤ nI (47 + 414) by decide)]
theorem remV_ok (v : St) {d : Nat} (hd : d ≤ 10) (h : v.2.1 7 46 = nI d) : f_X8_remembers v = some (sA v 7 (rmS (v.2.1 7) d)) := by
  unfold f_X8_remembers
  rw [h]
  by_cases q : d = 10
  · subst q
    rw [if_pos (show nI 10 = 10 from rfl), remV15]
    have e : ((sA v 7 (va_cpy (v.2.1 7) (v.2.1 7) 93 47 414)).2.1 7) 46 = nI 10 := by rw [sA_eq, cpyO (by omega), h]
    rw [e, upE, show nI 10 - 1 = nI 9 from nI_pred 9, show (47 : Int32) + 46 * nI 9 = nI 461 from rfl, remV70 _ _ (by omega), sAA, sA_eq, sA_eq]
    rw [sAA, sA_eq, sAA]
    unfold rmS
    rw [if_pos rfl]
    rw [cpyO (f := upd (va_cpy (v.2.1 7) (v.2.1 7) 93 47 414) 46 (nI 9)) (j := 46) (by omega), upE]; rfl
  · rw [if_neg (show ¬ nI d = 10 from fun w => q ((nI_eq (b := 10) (by omega) (by omega)).mp w)), show (46 : Int32) * nI d = nI (46 * d) from pk_mul 46 d, show (47 : Int32) + nI (46 * d) = nI (47 + 46 * d) from nI_add 47 _, remV70 _ _ (by omega), sAA, sA_eq, cpyO (by omega), h, nI_1]
    unfold rmS
    rw [if_neg q]
