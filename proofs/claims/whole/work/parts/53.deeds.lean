-- ===== builds, asks, undo =====
def dedS (u : St) (d : Nat) (a b c : Int32) : St := sI (sA (sA (sA u 36 (psS (u.2.1 36) d a)) 37 (psS (u.2.1 37) d b)) 38 (psS (u.2.1 38) d c)) 12 (nI (nx d))
theorem ded_row {u : St} {d : Nat} {a b c : Int32} {k : Nat} (h : k < 36 ∨ 38 < k) : (dedS u d a b c).2.1 k = u.2.1 k := (sA_ne (by omega)).trans ((sA_ne (by omega)).trans (sA_ne (by omega)))
theorem ded_num {u : St} {d : Nat} {a b c : Int32} {k : Nat} (h : k ≠ 12) : (dedS u d a b c).1 k = u.1 k := if_neg h
theorem rem_ded (u : St) {d : Nat} (hd : d ≤ 10) (h : u.1 12 = nI d) (x y z : Int32) : f_X3_remember u x y z = some (dedS u d x y z) := remU_ok u hd h x y z
section DE
variable {nC nP nS : Nat} {u v : St}
theorem Pn.d (P : Pn nC nP u v) : ∃ d : Nat, d ≤ 10 ∧ u.1 12 = nI d ∧ v.2.1 7 46 = nI d ∧ PRd nC nP d (u.1 10) (u.1 11) (u.1 12) (u.2.1 30) (fun c => u.2.1 (31 + c)) (u.2.1 36) (u.2.1 37) (u.2.1 38) (v.2.1 7) :=
  P.elim fun d h => ⟨d, h.2.1, h.2.2.1, h.2.2.2.1, h⟩
theorem builds_ok (h : RR nC nP nS u v) (x y : Int32) : Wo (f_X7_builds u x y) (f_X8_builds v x y) := by
  unfold f_X7_builds f_X8_builds
  rcases cell_cases x with ⟨e1, e2, j, hj, rfl⟩ | ⟨e1, e2⟩
  · rw [e1, e2, Option.bind_some, Option.bind_some, i1, i1, in_eq]
    rcases in_cases y 0 9 with ⟨e, -, -⟩ | e
    · rw [e, Option.bind_some, Option.bind_some, i1, i1, oobF hj (by decide), fT, show (1 : Int32) + nI j = nI (1 + j) from nI_add 1 j, oobF (show 1 + j < 507 by omega) (by decide), fT, tc_nI (by omega), tc_nI (by omega)]
      have hro := h.2.1.b.2.2.1 j hj
      rw [hro]
      by_cases q : v.2.1 7 (1 + j) = y
      · rw [if_pos q, if_pos q]; exact Wo.same h
      · rw [if_neg q, if_neg q]
        obtain ⟨T, P, I, X, C, J⟩ := h
        obtain ⟨d, d1, d2, d3, d4⟩ := P.d
        unfold f_X3_build
        rw [oobF hj (by decide), fT, tc_nI (by omega), hro, rem_ded u d1 d2, Option.bind_some, fT, remV_ok v d1 d3, Option.bind_some, Option.bind_some, fT]
        refine ⟨v.2.1 7 (1 + j), _, _, rfl, rfl, nC, nP, nS, ?_, ⟨nx d, ?_⟩, ?_, ?_, ?_, J⟩
        · exact T.fr (fun k h1 h2 => ded_num (by omega)) (fun k h1 h2 => (sA_ne (by omega)).trans (ded_row (by omega))) (fun k h1 => rfl) (fun k h1 => (if_neg (by omega)).trans (if_neg (by omega)))
        · have e7 : (sA (sA v 7 (rmS (v.2.1 7) d)) 7 (upd ((sA v 7 (rmS (v.2.1 7) d)).2.1 7) (1 + j) y)).2.1 7 = upd (rmS (v.2.1 7) d) (1 + j) y := by rw [sA_eq, sA_eq]
          have e0 : ∀ k, k < 46 → k ≠ 1 + j → upd (rmS (v.2.1 7) d) (1 + j) y k = v.2.1 7 k := fun k hk hkj => by rw [upN hkj, rm_lo d1 hk]
          refine push (so := 1) (nu := nI j) (rx := v.2.1 7 (1 + j)) d4 ?_ ?_ ?_ rfl ?_ rfl rfl rfl
          · rw [e7]
            refine ⟨by rw [e0 0 (by omega) (by omega)]; exact P.b.1, by rw [e0 45 (by omega) (by omega)]; exact P.b.2.1, fun x hx => ?_, fun c p hc hp => (congrFun ((sA_ne (by omega)).trans (ded_row (by omega))) p).trans ((P.b.2.2.2 c p hc hp).trans (e0 _ (by omega) (by omega)).symm)⟩
            show (if x = j then y else u.2.1 30 x) = _
            by_cases w : x = j
            · rw [if_pos w, w, upE]
            · rw [if_neg w, e0 _ (by omega) (by omega)]; exact P.b.2.2.1 x hx
          · rw [e7]
            obtain ⟨⟨t, h1, h2, h3⟩, a, h4, h5⟩ := P.vb
            exact ⟨⟨t, h1, by rw [e0 0 (by omega) (by omega)]; exact h2, fun c p hc hp => by rw [e0 _ (by omega) (by omega)]; exact h3 c p hc hp⟩, a, h4, by rw [e0 45 (by omega) (by omega)]; exact h5⟩
          · rw [e7]
            exact Or.inr (Or.inl ⟨rfl, e0 0 (by omega) (by omega), e0 45 (by omega) (by omega), fun c p hc hp => e0 _ (by omega) (by omega), j, hj, rfl, rfl, fun z hz hzj => e0 _ (by omega) (by omega)⟩)
          · intro k h1 h2
            rw [e7, upN (by omega)]
        · exact I.fr (fun k h1 h2 => ded_num (by omega)) (fun k h1 h2 => (sA_ne (by omega)).trans (ded_row (by omega))) (fun k h1 h2 => (if_neg (by omega)).trans (if_neg (by omega)))
        · exact X.fr rfl rfl rfl rfl
        · exact C.fr (fun k h1 h2 => ded_num (by omega)) (fun k h1 h2 => (sA_ne (by omega)).trans (ded_row (by omega))) (fun k h1 h2 => rfl) (fun k h1 h2 => (if_neg (by omega)).trans (if_neg (by omega)))
    · rw [e, Option.bind_some, Option.bind_some, i0, i0]; exact Wo.same h
  · rw [e1, e2, Option.bind_some, Option.bind_some, i0, i0]; exact Wo.same h
theorem nI_gl {a i : Nat} (h : i < 32) : (nI a).toBitVec.getLsbD i = a.testBit i := by
  show (BitVec.ofNat 32 a).getLsbD i = _
  rw [BitVec.getLsbD_ofNat, decide_eq_true h, Bool.true_and]
theorem clr_ok {a c : Nat} (hc : c < 31) (h : a.testBit c = false) : nI (a ||| 2 ^ c) &&& ((1 <<< (nI c &&& 31)) ^^^ (-1)) = nI a := by
  rw [n_shl hc]
  apply Int32.toBitVec_inj.mp
  apply BitVec.eq_of_getLsbD_eq
  intro i hi
  rw [Int32.toBitVec_and, Int32.toBitVec_xor, BitVec.getLsbD_and, BitVec.getLsbD_xor, nI_gl hi, nI_gl hi, nI_gl hi, Nat.testBit_or, Nat.testBit_two_pow]
  have e : ((-1 : Int32).toBitVec).getLsbD i = true := by
    rw [show (-1 : Int32).toBitVec = BitVec.allOnes 32 from rfl, BitVec.getLsbD_allOnes]; exact decide_eq_true hi
  rw [e]
  by_cases q : c = i
  · subst q; rw [h, decide_eq_true rfl]; rfl
  · rw [decide_eq_false q]; cases a.testBit i <;> rfl
theorem asks_ok (h : RR nC nP nS u v) (x : Int32) : Wo (f_X7_asks u x) (f_X8_asks v x) := by
  unfold f_X7_asks f_X8_asks
  rcases cock_cases h.1 x with ⟨e1, e2, c, hc, rfl⟩ | ⟨e1, e2⟩
  · rw [e1, e2, Option.bind_some, Option.bind_some, i1, i1]
    obtain ⟨a1, a2, a3, a4, a5⟩ := ask_of h.1 h.2.1
    have hC := h.1.1.1
    rw [(a5 c (by omega)).1, (a5 c (by omega)).2, Option.bind_some, Option.bind_some]
    cases q : (dA v).testBit c
    · rw [show bI false = 0 from rfl, i0, i0]
      obtain ⟨A, U, V⟩ := A_of h.1 h.2.1
      obtain ⟨T, P, I, X, C, J⟩ := h
      obtain ⟨d, d1, d2, d3, d4⟩ := P.d
      have hu0 := knU_ok A U a3 (by omega) (show 0 < 32 by omega)
      unfold f_X3_bringDown
      rw [show (0 : Int32) = nI 0 from rfl, hu0, rem_ded u d1 d2, remV_ok v d1 d3]
      simp only [Option.bind_some]
      have ea : (dA v ||| 2 ^ c) < 2 ^ nC := Nat.or_lt_two_pow a1 (Nat.pow_lt_pow_right (by decide) hc)
      have e11 : (dedS u d 2 (nI c) (nI 0)).1 11 ||| 1 <<< (nI c &&& 31) = nI (dA v ||| 2 ^ c) := by
        show u.1 11 ||| 1 <<< (nI c &&& 31) = _
        rw [a3, n_shl (by omega), n_or]
      have r45 : ((sA v 7 (rmS (v.2.1 7) d)).2.1 7) 45 = nI (dA v) := by rw [sA_eq, rm_lo d1 (by omega), a4]
      rw [e11, r45, n_shl (by omega), n_or]
      have U' : Au nC nP (dS v) (sI (dedS u d 2 (nI c) (nI 0)) 11 (nI (dA v ||| 2 ^ c))) := fun c' p' hc' hp' => by
        rw [show (sI (dedS u d 2 (nI c) (nI 0)) 11 (nI (dA v ||| 2 ^ c))).2.1 (31 + c') = u.2.1 (31 + c') from ded_row (by omega)]
        exact U c' p' hc' hp'
      have V' : Av nC nP (dS v) (sA v 7 (rmS (v.2.1 7) d)) := fun c' p' hc' hp' => by rw [sA_eq, rm_lo d1 (by omega)]; exact V c' p' hc' hp'
      have V'' : Av nC nP (dS v) (sA (sA v 7 (rmS (v.2.1 7) d)) 7 (upd ((sA v 7 (rmS (v.2.1 7) d)).2.1 7) 45 (nI (dA v ||| 2 ^ c)))) := fun c' p' hc' hp' => by rw [sA_eq, sA_eq, upN (by omega), rm_lo d1 (by omega)]; exact V c' p' hc' hp'
      have k1 := knU_ok A U' (a := dA v ||| 2 ^ c) rfl (by omega) (show 0 < 32 by omega)
      have k2 : f_X8_knownMuch (sA v 7 (rmS (v.2.1 7) d)) = some (nI (amN (dS v) nC nP (dA v))) := by
        unfold f_X8_knownMuch
        rw [r45, amV_ok A V' T.2.1.2 T.2.2.1.2 (by omega)]; rfl
      have k3 : f_X8_knownMuch (sA (sA v 7 (rmS (v.2.1 7) d)) 7 (upd ((sA v 7 (rmS (v.2.1 7) d)).2.1 7) 45 (nI (dA v ||| 2 ^ c)))) = some (nI (amN (dS v) nC nP (dA v ||| 2 ^ c))) := by
        unfold f_X8_knownMuch
        rw [show ((sA (sA v 7 (rmS (v.2.1 7) d)) 7 (upd ((sA v 7 (rmS (v.2.1 7) d)).2.1 7) 45 (nI (dA v ||| 2 ^ c)))).2.1 7) 45 = nI (dA v ||| 2 ^ c) by rw [sA_eq, upE], amV_ok A V'' T.2.1.2 T.2.2.1.2 (by omega)]; rfl
      rw [k1, k2, k3]
      simp only [Option.bind_some, Nat.or_zero]
      refine ⟨_, _, _, rfl, rfl, nC, nP, nS, ?_, ⟨nx d, ?_⟩, ?_, ?_, ?_, J⟩
      · exact T.fr (fun k h1 h2 => (if_neg (by omega)).trans (ded_num (by omega))) (fun k h1 h2 => ded_row (by omega)) (fun k h1 => rfl) (fun k h1 => (if_neg (by omega)).trans (if_neg (by omega)))
      · have e7 : (sA (sA v 7 (rmS (v.2.1 7) d)) 7 (upd ((sA v 7 (rmS (v.2.1 7) d)).2.1 7) 45 (nI (dA v ||| 2 ^ c)))).2.1 7 = upd (rmS (v.2.1 7) d) 45 (nI (dA v ||| 2 ^ c)) := by rw [sA_eq, sA_eq]
        have e0 : ∀ k, k < 45 → upd (rmS (v.2.1 7) d) 45 (nI (dA v ||| 2 ^ c)) k = v.2.1 7 k := fun k hk => by rw [upN (by omega), rm_lo d1 (by omega)]
        refine push (so := 2) (nu := nI c) (rx := nI 0) d4 ?_ ?_ ?_ rfl ?_ rfl rfl rfl
        · rw [e7]
          exact ⟨by rw [e0 0 (by omega)]; exact P.b.1, (upE (f := rmS (v.2.1 7) d)).symm, fun x hx => by rw [e0 _ (by omega)]; exact P.b.2.2.1 x hx, fun c p hc hp => (congrFun (ded_row (u := u) (by omega)) p).trans ((P.b.2.2.2 c p hc hp).trans (e0 _ (by omega)).symm)⟩
        · rw [e7]
          obtain ⟨⟨t, h1, h2, h3⟩, -⟩ := P.vb
          exact ⟨⟨t, h1, by rw [e0 0 (by omega)]; exact h2, fun c p hc hp => by rw [e0 _ (by omega)]; exact h3 c p hc hp⟩, dA v ||| 2 ^ c, ea, upE⟩
        · rw [e7]
          refine Or.inr (Or.inr ⟨rfl, e0 0 (by omega), fun x hx => e0 _ (by omega), fun c p hc hp => e0 _ (by omega), ?_⟩)
          rw [upE, clr_ok (by omega) q, a4]
        · intro k h1 h2
          rw [e7, upN (by omega)]
      · exact I.fr (fun k h1 h2 => (if_neg (by omega)).trans (ded_num (by omega))) (fun k h1 h2 => ded_row (by omega)) (fun k h1 h2 => (if_neg (by omega)).trans (if_neg (by omega)))
      · exact X.fr rfl rfl rfl rfl
      · exact C.fr (fun k h1 h2 => (if_neg (by omega)).trans (ded_num (by omega))) (fun k h1 h2 => ded_row (by omega)) (fun k h1 h2 => rfl) (fun k h1 h2 => (if_neg (by omega)).trans (if_neg (by omega)))
    · rw [show bI true = 1 from rfl, i1, i1]; exact Wo.same h
  · rw [e1, e2, Option.bind_some, Option.bind_some, i0, i0]; exact Wo.same h
-- undo
def mpP (D : Nat) (g : Int32 → Int32) (i : Nat) (u : St) : St := sA u D (upd (u.2.1 D) i (g (u.2.1 D i)))
theorem mp_fu {D : Nat} {g : Int32 → Int32} (u : St) : ∀ n, fu (mpP D g) n u = sA u D (fun p => if p < n then g (u.2.1 D p) else u.2.1 D p)
  | 0 => by
    refine St_ext (by rfl) (fun j k => ?_) (by rfl)
    by_cases q : j = D
    · subst q; rw [sA_eq]; rfl
    · rw [sA_ne q]; rfl
  | n + 1 => by
    show mpP D g n (fu (mpP D g) n u) = _
    rw [mp_fu u n]
    refine St_ext (by rfl) (fun j k => ?_) (by rfl)
    unfold mpP
    by_cases q : j = D
    · subst q
      rw [sA_eq, sA_eq, sA_eq]
      show (if k = n then g (if n < n then g (u.2.1 j n) else u.2.1 j n) else if k < n then g (u.2.1 j k) else u.2.1 j k) = if k < n + 1 then g (u.2.1 j k) else u.2.1 j k
      by_cases w : k = n
      · rw [if_pos w, if_neg (by omega), if_pos (by omega), w]
      · rw [if_neg w]
        by_cases z : k < n
        · rw [if_pos z, if_pos (by omega)]
        · rw [if_neg z, if_neg (by omega)]
    · rw [sA_ne q, sA_ne q, sA_ne q]
def rmR (D : Nat) (g : (Nat → Int32) → Nat → Int32) (n : Nat) (u : St) : St := (u.1, fun j => if D ≤ j ∧ j < D + n then g (u.2.1 j) else u.2.1 j, u.2.2)
theorem rmR_in {D n i : Nat} {g : (Nat → Int32) → Nat → Int32} {u : St} (h : i < n) : (rmR D g n u).2.1 (D + i) = g (u.2.1 (D + i)) := if_pos ⟨by omega, by omega⟩
theorem rmR_out {D n k : Nat} {g : (Nat → Int32) → Nat → Int32} {u : St} (h : k < D ∨ D + n ≤ k) : (rmR D g n u).2.1 k = u.2.1 k := if_neg (by omega)
theorem rmR_fu {D : Nat} {g : (Nat → Int32) → Nat → Int32} (u : St) : ∀ n, fu (fun i t => sA t (D + i) (g (t.2.1 (D + i)))) n u = rmR D g n u
  | 0 => by
    refine St_ext (by rfl) (fun j k => ?_) (by rfl)
    rw [rmR_out (by omega)]; rfl
  | n + 1 => by
    show sA (fu _ n u) (D + n) (g ((fu _ n u).2.1 (D + n))) = _
    rw [rmR_fu u n, rmR_out (show D + n < D ∨ D + n ≤ D + n by omega)]
    refine St_ext (by rfl) (fun j k => ?_) (by rfl)
    by_cases q : j = D + n
    · rw [q, sA_eq, rmR_in (by omega)]
    · rw [sA_ne q]
      by_cases z : j < D ∨ D + n ≤ j
      · rw [rmR_out z, rmR_out (by omega)]
      · obtain ⟨i, rfl⟩ : ∃ i, j = D + i := ⟨j - D, by omega⟩
        rw [rmR_in (by omega), rmR_in (by omega)]
def cutR (m : Int32) (f : Nat → Int32) : Nat → Int32 := fun p => if p < 4 then f p &&& m else f p
theorem ret_ok (u : St) (x : Int32) : f_X3_returnTo u x = some (rmR 31 (cutR ((1 <<< (x &&& 31)) - 1)) 5 (sI u 10 x)) := by
  unfold f_X3_returnTo
  have h := up_loop' (fun F i (t : St) => L_X3_returnTo_13 (fun x3 u13 => some u13) ((1 <<< (x &&& 31)) - 1) F (nI i) t) (fun i t => sA t (31 + i) (cutR ((1 <<< (x &&& 31)) - 1) (t.2.1 (31 + i)))) 5 (fun t => some t) ?_ ?_ (sI u 10 x) FU (FU_gt (by omega))
  · rw [rmR_fu] at h
    exact h
  · intro F i t hi
    show L_X3_returnTo_13 _ _ (F + 1) (nI i) t = _
    rw [L_X3_returnTo_13, if_neg (show ¬ (5 : Int32) ≤ nI i from nI_ge (b := 5) hi (by omega))]
    generalize (1 <<< (x &&& 31)) - 1 = m
    have h2 := up_loop' (fun F' p (t : St) => L_X3_returnTo_21 (fun x4 u21 => L_X3_returnTo_13 (fun x3 u13 => some u13) m F (nI i + 1) u21) m (nI i) F' (nI p) t) (mpP (31 + i) (fun z => z &&& m)) 4 (fun t => L_X3_returnTo_13 (fun x3 u13 => some u13) m F (nI i + 1) t) ?_ ?_ t FU (FU_gt (by omega))
    · rw [mp_fu] at h2
      refine Eq.trans h2 ?_
      rw [nI_1]; rfl
    · intro F' p t hp
      show L_X3_returnTo_21 _ m (nI i) (F' + 1) (nI p) t = _
      rw [L_X3_returnTo_21, if_neg (show ¬ (4 : Int32) ≤ nI p from nI_ge (b := 4) hp (by omega)), oobF hi (by decide), oobF hp (by decide), fT, fT, tc_nI (by omega), tc_nI (by omega), nI_1 p]
      rfl
    · intro F' t
      show L_X3_returnTo_21 _ m (nI i) (F' + 1) (nI 4) t = _
      rw [L_X3_returnTo_21, if_pos (show (4 : Int32) ≤ nI 4 by decide)]
  · intro F t
    show L_X3_returnTo_13 _ _ (F + 1) (nI 5) t = _
    rw [L_X3_returnTo_13, if_pos (show (5 : Int32) ≤ nI 5 by decide)]
def unS (st : Nat → Int32) (d : Nat) : Nat → Int32 := va_cpy (upd st 46 (nI d)) (upd st 46 (nI d)) (47 + 46 * d) 0 46
theorem undoV_ok (v : St) {d : Nat} (hd : d < 10) (h : v.2.1 7 46 = nI (d + 1)) : f_X8_undo v = some (nI d, sA v 7 (unS (v.2.1 7) d)) := by
  unfold f_X8_undo
  rw [h, if_neg (nI_ne0 (by omega) (by omega)), nI_pred, upE, show (46 : Int32) * nI d = nI (46 * d) from pk_mul 46 d, show (47 : Int32) + nI (46 * d) = nI (47 + 46 * d) from nI_add 47 _]
  have h2 := up_loop' (fun F i (t : St) => L_X8_undo_40 (fun x2 u40 => some (((u40.2.1 7) 46), u40)) (nI (47 + 46 * d)) F (nI i) t) (cpP 7 7 0 (47 + 46 * d)) 46 (fun t => some (t.2.1 7 46, t)) ?_ ?_ (sA v 7 (upd (v.2.1 7) 46 (nI d))) FU (FU_gt (by omega))
  · rw [cp_fu _ 46 (by omega), sAA, sA_eq, sA_eq] at h2
    refine Eq.trans h2 ?_
    rw [cpyO (by omega), upE]; rfl
  · intro F i t hi
    show L_X8_undo_40 _ (nI (47 + 46 * d)) (F + 1) (nI i) t = _
    rw [L_X8_undo_40, if_neg (show ¬ (46 : Int32) ≤ nI i from nI_ge (b := 46) hi (by omega)), nI_add, oobF (show 47 + 46 * d + i < 507 by omega) (by decide), oobF (show i < 507 by omega) (by decide), fT, fT, tc_nI (by omega), tc_nI (by omega), nI_1]
    show _ = L_X8_undo_40 _ (nI (47 + 46 * d)) F (nI (i + 1)) (sA t 7 (upd (t.2.1 7) (0 + i) (t.2.1 7 (47 + 46 * d + i))))
    rw [Nat.zero_add]
  · intro F t
    show L_X8_undo_40 _ (nI (47 + 46 * d)) (F + 1) (nI 46) t = _
    rw [L_X8_undo_40, if_pos (show (46 : Int32) ≤ nI 46 by decide)]
theorem un_sn {st : Nat → Int32} {d j : Nat} (hd : d < 10) (hj : j ≤ d) : ∀ k, k < 46 → sn (unS st d) d j k = sn st (d + 1) j k := by
  intro k hk
  unfold sn unS
  rw [if_neg (show ¬ j = d + 1 by omega)]
  by_cases q : j = d
  · rw [if_pos q, cpyR (by omega) (by omega), upN (by omega), q]
    rfl
  · rw [if_neg q, cpyO (by omega), upN (by omega)]
theorem pop {nC nP d : Nat} {hr ak dn hr' ak' : Int32} {ro ds dm dr ro' : Nat → Int32} {se se' : Nat → Nat → Int32} {st : Nat → Int32} (hd : d < 10)
    (h : PRd nC nP (d + 1) hr ak dn ro se ds dm dr st) (hB : Bq hr' ak' ro' se' (fun k => st (47 + 46 * d + k))) : PRd nC nP d hr' ak' (nI d) ro' se' ds dm dr (unS st d) := by
  obtain ⟨a1, a2, a3, a4, a5, a6⟩ := h
  refine ⟨hB.congr rfl rfl (fun _ _ => rfl) (fun _ _ _ _ => rfl) fun k hk => ?_, by omega, rfl, ?_, fun j hj => (a5 j (by omega)).congr (un_sn hd hj), fun j hj => (a6 j (by omega)).congr (un_sn hd (by omega)) (un_sn hd (by omega))⟩
  · have := un_sn (st := st) hd (Nat.le_refl d) k hk
    rw [sn_eq, sn_lt (by omega)] at this
    exact this
  · unfold unS; rw [cpyO (by omega), upE]
theorem undo_ok (h : RR nC nP nS u v) : Wo (f_X7_undo u) (f_X8_undo v) := by
  obtain ⟨T, P, I, X, C, J⟩ := h
  obtain ⟨d', d1, d2, d3, d4⟩ := P.d
  cases d' with
  | zero =>
    unfold f_X7_undo f_X8_undo
    rw [d2, d3, if_pos (show nI 0 = 0 from rfl), if_pos (show nI 0 = 0 from rfl)]
    exact Wo.same ⟨T, P, I, X, C, J⟩
  | succ d =>
    rw [undoV_ok v (by omega) d3]
    unfold f_X7_undo f_X3_undoLatest
    rw [d2, if_neg (nI_ne0 (by omega) (by omega)), if_pos (show (0 : Int32) < nI (d + 1) from nI_lt (a := 0) (by omega) (by omega)), nI_pred, oobF (show d < 10 by omega) (by decide), fT, tc_nI (by omega), ret_ok]
    have hD := d4.2.2.2.2.2 d (by omega)
    rw [sn_eq, sn_lt (by omega)] at hD
    have rest : ∀ (u' : St), (∀ k, k < 10 ∨ 12 < k → u'.1 k = u.1 k) → (∀ k, k < 30 ∨ 36 ≤ k → u'.2.1 k = u.2.1 k) → u'.2.2 = u.2.2 → u'.1 12 = nI d → Bq (u'.1 10) (u'.1 11) (u'.2.1 30) (fun c => u'.2.1 (31 + c)) (fun k => v.2.1 7 (47 + 46 * d + k)) → RR nC nP nS u' (sA v 7 (unS (v.2.1 7) d)) := by
      intro u' g1 g2 g3 g4 g5
      refine ⟨?_, ⟨d, ?_⟩, ?_, ?_, ?_, g3.trans J⟩
      · exact T.fr (fun k h1 h2 => g1 k (by omega)) (fun k h1 h2 => g2 k (by omega)) (fun k h1 => rfl) (fun k h1 => if_neg (by omega))
      · rw [g4, g2 36 (by omega), g2 37 (by omega), g2 38 (by omega), sA_eq]
        exact pop (by omega) d4 g5
      · exact I.fr (fun k h1 h2 => g1 k (by omega)) (fun k h1 h2 => g2 k (by omega)) (fun k h1 h2 => if_neg (by omega))
      · exact X.fr (g1 0 (by omega)) (g2 0 (by omega)) rfl rfl
      · exact C.fr (fun k h1 h2 => g1 k (by omega)) (fun k h1 h2 => g2 k (by omega)) (fun k h1 h2 => rfl) (fun k h1 h2 => if_neg (by omega))
    have Bx := P.b
    rcases hD with ⟨b1, b2, ⟨hh, b3, b4⟩, b5, b6, b7⟩ | ⟨b1, b2, b3, b4, x, b5, b6, b7, b8⟩ | ⟨b1, b2, b3, b4, b5⟩
    · rw [b1, if_pos rfl]
      refine ⟨nI d, _, _, rfl, rfl, nC, nP, nS, rest _ (fun k hk => ?_) (fun k hk => ?_) rfl rfl ⟨b2, ?_, ?_, ?_⟩⟩
      · exact (if_neg (by omega)).trans (if_neg (by omega))
      · exact rmR_out (by omega)
      · exact Bx.2.1.trans b6
      · intro x hx
        exact (Bx.2.2.1 x hx).trans (b5 x hx)
      · intro c p hc hp
        show (rmR 31 _ 5 (sI (sI u 12 (nI d)) 10 (u.2.1 37 d))).2.1 (31 + c) p = _
        rw [rmR_in hc]
        show (if p < 4 then u.2.1 (31 + c) p &&& _ else _) = _
        rw [if_pos hp, show u.2.1 (31 + c) p = v.2.1 7 (25 + 4 * c + p) from Bx.2.2.2 c p hc hp]
        exact b7 c p hc hp
    · rw [b1, if_neg (show ¬ (1 : Int32) = 0 by decide), if_pos rfl, b6, oobF b5 (by decide), fT, tc_nI (by omega)]
      refine ⟨nI d, _, _, rfl, rfl, nC, nP, nS, rest _ (fun k hk => if_neg (by omega)) (fun k hk => if_neg (by omega)) rfl rfl ⟨Bx.1.trans b2, Bx.2.1.trans b3, ?_, ?_⟩⟩
      · intro y hy
        show (if y = x then u.2.1 38 d else u.2.1 30 y) = _
        by_cases w : y = x
        · rw [if_pos w, b7, w]
        · rw [if_neg w]; exact (Bx.2.2.1 y hy).trans (b8 y hy w)
      · intro c p hc hp
        exact (congrFun (sA_ne (u := sI u 12 (nI d)) (k := 30) (f := upd (u.2.1 30) x (u.2.1 38 d)) (j := 31 + c) (by omega)) p).trans ((Bx.2.2.2 c p hc hp).trans (b4 c p hc hp))
    · rw [b1, if_neg (show ¬ (2 : Int32) = 0 by decide), if_neg (show ¬ (2 : Int32) = 1 by decide)]
      refine ⟨nI d, _, _, rfl, rfl, nC, nP, nS, rest _ (fun k hk => (if_neg (by omega)).trans (if_neg (by omega))) (fun k hk => rfl) rfl rfl ⟨Bx.1.trans b2, ?_, fun x hx => (Bx.2.2.1 x hx).trans (b3 x hx), fun c p hc hp => (Bx.2.2.2 c p hc hp).trans (b4 c p hc hp)⟩⟩
      show u.1 11 &&& _ = _
      rw [Bx.2.1]
      exact b5
end DE
