-- ===== hours pass =====
def anN (p : Nat → Bool) : Nat → Bool
  | 0 => false
  | n + 1 => anN p n || p n
theorem anN_iff {p : Nat → Bool} : ∀ {n : Nat}, anN p n = true ↔ ∃ i, i < n ∧ p i = true
  | 0 => ⟨fun h => Bool.noConfusion h, fun ⟨i, h, _⟩ => absurd h (Nat.not_lt_zero i)⟩
  | n + 1 => by
    show (anN p n || p n) = true ↔ _
    rw [Bool.or_eq_true, anN_iff (n := n)]
    constructor
    · rintro (⟨i, h1, h2⟩ | h)
      · exact ⟨i, by omega, h2⟩
      · exact ⟨n, by omega, h⟩
    · rintro ⟨i, h1, h2⟩
      by_cases q : i = n
      · right; rw [← q]; exact h2
      · left; exact ⟨i, by omega, h2⟩
def mk (b : Nat) (Q : Nat → Nat → Bool) (s : Nat → Nat → Nat) : Nat → Nat → Nat := fun c p => if Q c p = true then s c p ||| b else s c p
theorem mk_fu {b : Nat} {Q : Nat → Nat → Nat → Bool} {s : Nat → Nat → Nat} : ∀ n, fu (fun i s => mk b (Q i) s) n s = mk b (fun c p => anN (fun i => Q i c p) n) s
  | 0 => rfl
  | n + 1 => by
    show mk b (Q n) (fu _ n s) = _
    rw [mk_fu n]
    funext c p
    show (if Q n c p = true then (if anN (fun i => Q i c p) n = true then s c p ||| b else s c p) ||| b else if anN (fun i => Q i c p) n = true then s c p ||| b else s c p) = if (anN (fun i => Q i c p) n || Q n c p) = true then s c p ||| b else s c p
    cases Q n c p <;> cases anN (fun i => Q i c p) n
    · rfl
    · rfl
    · rfl
    · show (s c p ||| b) ||| b = s c p ||| b
      rw [Nat.or_assoc, Nat.or_self]
theorem mk_congr {b : Nat} {Q Q' : Nat → Nat → Bool} {s : Nat → Nat → Nat} (h : ∀ c p, Q c p = Q' c p) : mk b Q s = mk b Q' s := by
  rw [show Q = Q' from funext fun c => funext fun p => h c p]
/-- the states with other marks -/
def US (u : St) (s : Nat → Nat → Nat) : St := (u.1, fun j k => if 31 ≤ j ∧ j < 36 ∧ k < 4 then nI (s (j - 31) k) else u.2.1 j k, u.2.2)
def VS (v : St) (h : Nat) (s : Nat → Nat → Nat) : St := (v.1, fun j k => if j = 7 ∧ k = 0 then nI h else if j = 7 ∧ 25 ≤ k ∧ k < 45 then nI (s ((k - 25) / 4) ((k - 25) % 4)) else v.2.1 j k, v.2.2)
theorem US_in {u : St} {s : Nat → Nat → Nat} {c p : Nat} (hc : c < 5) (hp : p < 4) : (US u s).2.1 (31 + c) p = nI (s c p) := by
  show (if 31 ≤ 31 + c ∧ 31 + c < 36 ∧ p < 4 then nI (s (31 + c - 31) p) else u.2.1 (31 + c) p) = _
  rw [if_pos (by omega), show 31 + c - 31 = c by omega]
theorem US_out {u : St} {s : Nat → Nat → Nat} {j : Nat} (h : j < 31 ∨ 36 ≤ j) : (US u s).2.1 j = u.2.1 j := funext fun k => if_neg (by omega)
theorem VS_in {v : St} {s : Nat → Nat → Nat} {h c p : Nat} (hc : c < 5) (hp : p < 4) : (VS v h s).2.1 7 (25 + 4 * c + p) = nI (s c p) := by
  show (if 7 = 7 ∧ 25 + 4 * c + p = 0 then nI h else if 7 = 7 ∧ 25 ≤ 25 + 4 * c + p ∧ 25 + 4 * c + p < 45 then nI (s ((25 + 4 * c + p - 25) / 4) ((25 + 4 * c + p - 25) % 4)) else v.2.1 7 (25 + 4 * c + p)) = _
  rw [if_neg (by omega), if_pos (by omega), show (25 + 4 * c + p - 25) / 4 = c by omega, show (25 + 4 * c + p - 25) % 4 = p by omega]
theorem VS_0 {v : St} {s : Nat → Nat → Nat} {h : Nat} : (VS v h s).2.1 7 0 = nI h := rfl
theorem VS_row {v : St} {s : Nat → Nat → Nat} {h j : Nat} (hj : j ≠ 7) : (VS v h s).2.1 j = v.2.1 j := funext fun k => (if_neg (by omega)).trans (if_neg (by omega))
theorem VS_cell {v : St} {s : Nat → Nat → Nat} {h k : Nat} (hk : 0 < k ∧ k < 25 ∨ 45 ≤ k) : (VS v h s).2.1 7 k = v.2.1 7 k := (if_neg (by omega)).trans (if_neg (by omega))
theorem US_self {nC nP : Nat} {s : Nat → Nat → Nat} {u : St} (U : Au nC nP s u) : US u s = u := by
  refine St_ext (by rfl) (fun j k => ?_) (by rfl)
  by_cases q : 31 ≤ j ∧ j < 36 ∧ k < 4
  · obtain ⟨c, rfl⟩ : ∃ c, j = 31 + c := ⟨j - 31, by omega⟩
    rw [US_in (by omega) q.2.2]; exact (U c k (by omega) q.2.2).symm
  · exact if_neg q
theorem VS_self {nC nP h : Nat} {s : Nat → Nat → Nat} {v : St} (V : Av nC nP s v) (h0 : v.2.1 7 0 = nI h) : VS v h s = v := by
  refine St_ext (by rfl) (fun j k => ?_) (by rfl)
  by_cases q0 : j = 7 ∧ k = 0
  · obtain ⟨rfl, rfl⟩ := q0; exact h0.symm
  · by_cases q : j = 7 ∧ 25 ≤ k ∧ k < 45
    · obtain ⟨rfl, q1, q2⟩ := q
      obtain ⟨c, p, hc, hp, rfl⟩ : ∃ c p, c < 5 ∧ p < 4 ∧ k = 25 + 4 * c + p := ⟨(k - 25) / 4, (k - 25) % 4, by omega, by omega, by omega⟩
      rw [VS_in hc hp]; exact (V c p hc hp).symm
    · exact (if_neg q0).trans (if_neg q)
def pt (c0 p0 : Nat) (B : Bool) (c p : Nat) : Bool := decide (c = c0 ∧ p = p0) && B
theorem US_set {u : St} {s : Nat → Nat → Nat} {b c p : Nat} {B : Bool} (hc : c < 5) (hp : p < 4) : US u (mk b (pt c p B) s) = if B = true then sA (US u s) (31 + c) (upd ((US u s).2.1 (31 + c)) p (nI (s c p ||| b))) else US u s := by
  cases B
  · rw [fT]
    congr 1
    funext c' p'
    show (if (decide (c' = c ∧ p' = p) && false) = true then _ else s c' p') = s c' p'
    rw [Bool.and_false, fT]
  · rw [if_pos rfl]
    refine St_ext (by rfl) (fun j k => ?_) (by rfl)
    by_cases q : 31 ≤ j ∧ j < 36 ∧ k < 4
    · obtain ⟨c', rfl⟩ : ∃ c', j = 31 + c' := ⟨j - 31, by omega⟩
      rw [US_in (by omega) q.2.2]
      show nI (if (decide (c' = c ∧ k = p) && true) = true then s c' k ||| b else s c' k) = _
      rw [Bool.and_true]
      by_cases w : c' = c
      · subst w
        rw [sA_eq]
        by_cases z : k = p
        · subst z
          rw [upE, if_pos (decide_eq_true ⟨rfl, rfl⟩)]
        · rw [upN z, if_neg (fun t => z (of_decide_eq_true t).2), US_in (by omega) q.2.2]
      · rw [sA_ne (by omega), if_neg (fun t => w (of_decide_eq_true t).1), US_in (by omega) q.2.2]
    · by_cases w : j = 31 + c
      · subst w
        rw [sA_eq, upN (by omega)]
        exact (if_neg q).trans (if_neg q).symm
      · rw [sA_ne w]
        exact (if_neg q).trans (if_neg q).symm
theorem VS_set {v : St} {s : Nat → Nat → Nat} {h b c p : Nat} {B : Bool} (hc : c < 5) (hp : p < 4) : VS v h (mk b (pt c p B) s) = sA (VS v h s) 7 (upd ((VS v h s).2.1 7) (25 + 4 * c + p) (if B = true then nI (s c p ||| b) else nI (s c p))) := by
  refine St_ext (by rfl) (fun j k => ?_) (by rfl)
  by_cases j7 : j = 7
  · subst j7
    rw [sA_eq]
    by_cases q : 25 ≤ k ∧ k < 45
    · obtain ⟨c', p', hc', hp', rfl⟩ : ∃ c p, c < 5 ∧ p < 4 ∧ k = 25 + 4 * c + p := ⟨(k - 25) / 4, (k - 25) % 4, by omega, by omega, by omega⟩
      rw [VS_in hc' hp']
      show nI (if (decide (c' = c ∧ p' = p) && B) = true then s c' p' ||| b else s c' p') = _
      by_cases w : c' = c ∧ p' = p
      · obtain ⟨rfl, rfl⟩ := w
        rw [upE, decide_eq_true ⟨rfl, rfl⟩, Bool.true_and]
        cases B <;> rfl
      · rw [upN (by omega), decide_eq_false w, Bool.false_and, fT, VS_in hc' hp']
    · rw [upN (by omega)]
      show (if 7 = 7 ∧ k = 0 then _ else if 7 = 7 ∧ 25 ≤ k ∧ k < 45 then _ else _) = (if 7 = 7 ∧ k = 0 then _ else if 7 = 7 ∧ 25 ≤ k ∧ k < 45 then _ else _)
      by_cases w : k = 0
      · rw [if_pos ⟨rfl, w⟩, if_pos ⟨rfl, w⟩]
      · rw [if_neg (by omega), if_neg (by omega), if_neg (by omega), if_neg (by omega)]
  · rw [sA_ne j7, VS_row j7, VS_row j7]
-- smoke
def smP (v : St) (x : Nat) (h : Int32) (i : Nat) : Bool := decide (v.2.1 6 (3 * i) = nI x) && decide (f_X8_in h (v.2.1 6 (3 * i + 1)) (v.2.1 6 (3 * i + 2)) = some 1)
def smB (v : St) (nS x : Nat) (h : Int32) : Bool := anN (smP v x h) nS
theorem fu_or {p : Nat → Bool} : ∀ n : Nat, fu (fun i b => b || p i) n false = anN p n
  | 0 => rfl
  | n + 1 => by show (fu _ n false || p n) = _; rw [fu_or n]; rfl
theorem anN_al {p : Nat → Bool} : ∀ n : Nat, alN (fun i => !p i) n = !anN p n
  | 0 => rfl
  | n + 1 => by show (alN _ n && !p n) = !(anN p n || p n); rw [anN_al n]; cases anN p n <;> cases p n <;> rfl
section HR
variable {nC nP nS : Nat} {u v : St}
theorem smU_ok (T : Tr nC nP nS u v) {x : Nat} (hx : x < 24) (h : Int32) : f_X1_isSmoky u (nI x) h = some (bI (smB v nS x h)) := by
  obtain ⟨⟨b1, b2, b3⟩, -, -, ⟨c1, c2⟩, -, -, g⟩ := T
  have h1 := ex_loop (fun F i => L_X1_isSmoky_2 (fun x3 => some 0) u (nI x) h F (nI i)) (fun i => !smP v x h i) nS (some 0) (some 1) ?_ ?_ FU (FU_gt (by omega))
  · refine Eq.trans h1 ?_
    rw [anN_al]
    show _ = some (bI (anN (smP v x h) nS))
    cases anN (smP v x h) nS <;> rfl
  · intro F i hi
    show L_X1_isSmoky_2 _ u (nI x) h (F + 1) (nI i) = _
    obtain ⟨d0, d1, d2⟩ := g i hi
    rw [L_X1_isSmoky_2, c1, if_neg (nI_ge hi (by omega)), oobF (show i < 4 by omega) (by decide), fT, tc_nI (by omega), d0, d1, d2, in_eq, nI_1]
    unfold smP
    by_cases q : v.2.1 6 (3 * i) = nI x
    · rw [if_pos q, decide_eq_true q]
      rcases in_cases h (v.2.1 6 (3 * i + 1)) (v.2.1 6 (3 * i + 2)) with ⟨e, -⟩ | e
      · rw [e]; rfl
      · rw [e]; rfl
    · rw [if_neg q, decide_eq_false q]; rfl
  · intro F
    show L_X1_isSmoky_2 _ u (nI x) h (F + 1) (nI nS) = _
    rw [L_X1_isSmoky_2, c1, if_pos (Int32.le_refl _)]
theorem smV_ok (v : St) (hS : nS ≤ 4) (c2 : v.1 2 = nI nS) {x : Nat} (hx : x < 24) (h : Int32) : f_X8_isSmoke v (nI x) h = some (bI (smB v nS x h)) := by
  have h1 := up_loop' (fun F i (t : Bool) => L_X8_isSmoke_5 (fun x3 x4 => if nb x3 then some x3 else none) v (nI x) h F (bI t) (nI i)) (fun i t => t || smP v x h i) nS (fun t => some (bI t)) ?_ ?_ false FU (FU_gt (by omega))
  · rw [fu_or] at h1; exact h1
  · intro F i t hi
    show L_X8_isSmoke_5 _ v (nI x) h (F + 1) (bI t) (nI i) = _
    rw [L_X8_isSmoke_5, c2, if_neg (nI_ge hi (by omega)), nI_1]
    cases t
    · rw [if_pos (show bI false = 0 from rfl), show (3 : Int32) * nI i = nI (3 * i) from pk_mul 3 i, show nI (3 * i) + 1 = nI (3 * i + 1) from nI_1 _, show nI (3 * i) + 2 = nI (3 * i + 2) from nI_add _ 2, oobF (show 3 * i < 12 by omega) (by decide), oobF (show 3 * i + 1 < 12 by omega) (by decide), oobF (show 3 * i + 2 < 12 by omega) (by decide), fT, fT, fT, tc_nI (by omega), tc_nI (by omega), tc_nI (by omega)]
      show _ = L_X8_isSmoke_5 _ v (nI x) h F (bI (false || smP v x h i)) (nI (i + 1))
      unfold smP
      by_cases q : v.2.1 6 (3 * i) = nI x
      · rw [if_pos q, decide_eq_true q]
        rcases in_cases h (v.2.1 6 (3 * i + 1)) (v.2.1 6 (3 * i + 2)) with ⟨e, -⟩ | e
        · rw [e]; rfl
        · rw [e]; rfl
      · rw [if_neg q, decide_eq_false q]; rfl
    · rw [if_neg (show ¬ bI true = 0 by decide)]; rfl
  · intro F t
    show L_X8_isSmoke_5 _ v (nI x) h (F + 1) (bI t) (nI nS) = _
    rw [L_X8_isSmoke_5, c2, if_pos (Int32.le_refl _), nbb]
/-- where one walks, as a number; 24 is nowhere -/
def wkN (v : St) (p : Nat) (h : Int32) : Nat := if f_X8_walks v (nI p) h = some (-9) then 24 else ((f_X8_walks v (nI p) h).getD 0).toNatClampNeg
theorem wk_ok (T : Tr nC nP nS u v) {p : Nat} (hp : p < nP) (h : Int32) : (f_X8_walks v (nI p) h = some (-9) ∧ wkN v p h = 24) ∨ (f_X8_walks v (nI p) h = some (nI (wkN v p h)) ∧ wkN v p h < 24 ∧ ¬ nI (wkN v p h) = -9) := by
  rcases (cellOf_ok T hp h).2 with e | ⟨j, hj, e⟩
  · left; refine ⟨e, ?_⟩; unfold wkN; rw [if_pos e]
  · right
    have hne : ¬ nI j = -9 := fun q => by have := nI_pos (n := j) (by omega); rw [q] at this; exact this (by decide)
    have : wkN v p h = j := by unfold wkN; rw [if_neg (fun q => by rw [e] at q; exact hne (Option.some.inj q)), e]; exact tc_nI (by omega)
    rw [this]; exact ⟨e, hj, hne⟩
/-- is one seen by the cock in the hour -/
def vis (v : St) (nS a : Nat) (h : Int32) (c p : Nat) : Bool :=
  decide (wkN v p h < 24) && (!smB v nS (wkN v p h) h && (!a.testBit c && seeB (dPl v) (v.2.1 1) (v.2.1 2) (v.2.1 3) (dRo v) c (wkN v p h) h))
theorem US_T (T : Tr nC nP nS u v) (s : Nat → Nat → Nat) : Tr nC nP nS (US u s) v := T.fr (fun k _ _ => rfl) (fun k h1 h2 => US_out (by omega)) (fun k _ => rfl) (fun k _ => rfl)
theorem US_S {pl : Nat → Nat} {ri si tu ro : Nat → Int32} (hC : nC ≤ 5) (S : Su nC pl ri si tu ro u) (s : Nat → Nat → Nat) : Su nC pl ri si tu ro (US u s) := by
  refine ⟨fun c hc => ?_, fun x hx => ?_⟩
  · rw [US_out (by omega)]; exact S.1 c hc
  · rw [US_out (by omega)]; exact S.2 x hx
theorem VS_S {pl : Nat → Nat} {ri si tu ro : Nat → Int32} (S : Sv nC pl ri si tu ro v) (h : Nat) (s : Nat → Nat → Nat) : Sv nC pl ri si tu ro (VS v h s) := by
  refine ⟨fun c hc => S.1 c hc, fun x hx => ?_⟩
  rw [VS_cell (by omega)]; exact S.2 x hx
theorem seeOne_ok (T : Tr nC nP nS u v) (P : Pn nC nP u v) {p x h : Nat} (hp : p < nP) (hx : x < 24) (hh : h < 30) (s : Nat → Nat → Nat) :
    f_X6_seeOne (US u s) (nI p) (nI x) (nI h) = some (US u (mk (2 ^ h) (fun c' p' => anN (fun c => pt c p (!(dA v).testBit c && seeB (dPl v) (v.2.1 1) (v.2.1 2) (v.2.1 3) (dRo v) c x (nI h)) c' p') nC) s)) := by
  obtain ⟨D, S1, S2⟩ := S_of T P
  obtain ⟨a1, a2, a3, a4, a5⟩ := ask_of T P
  have hC := T.1.1
  have hP := T.1.2.1
  have h1 := up_loop' (fun F i (s : Nat → Nat → Nat) => L_X6_seeOne_3 (fun x4 u3 => some u3) (nI p) (nI x) (nI h) F (nI i) (US u s)) (fun c s => mk (2 ^ h) (pt c p (!(dA v).testBit c && seeB (dPl v) (v.2.1 1) (v.2.1 2) (v.2.1 3) (dRo v) c x (nI h))) s) nC (fun s => some (US u s)) ?_ ?_ s FU (FU_gt (by omega))
  · rw [mk_fu] at h1
    exact h1
  · intro F i s hi
    show L_X6_seeOne_3 _ (nI p) (nI x) (nI h) (F + 1) (nI i) (US u s) = L_X6_seeOne_3 _ (nI p) (nI x) (nI h) F (nI (i + 1)) (US u (mk (2 ^ h) (pt i p (!(dA v).testBit i && seeB (dPl v) (v.2.1 1) (v.2.1 2) (v.2.1 3) (dRo v) i x (nI h))) s))
    rw [US_set (by omega) (by omega), L_X6_seeOne_3, show (US u s).1 7 = nI nC from T.2.1.1, if_neg (nI_ge hi (by omega)), show f_X3_isAsked (US u s) (nI i) = some (bI ((dA v).testBit i)) from (a5 i (by omega)).1, Option.bind_some, nI_1]
    cases (dA v).testBit i
    · rw [show bI false = 0 from rfl, i0, canSee_ok D (US_S hC S1 s) hi hx, Option.bind_some]
      cases seeB (dPl v) (v.2.1 1) (v.2.1 2) (v.2.1 3) (dRo v) i x (nI h)
      · rfl
      · rw [show bI true = 1 from rfl, i1, oobF (show i < 5 by omega) (by decide), oobF (show p < 4 by omega) (by decide), fT, fT, tc_nI (by omega), tc_nI (by omega), n_shl (by omega), US_in (by omega) (by omega), n_or]; rfl
    · rfl
  · intro F s
    show L_X6_seeOne_3 _ (nI p) (nI x) (nI h) (F + 1) (nI nC) (US u s) = _
    rw [L_X6_seeOne_3, show (US u s).1 7 = nI nC from T.2.1.1, if_pos (Int32.le_refl _)]
theorem hourU_ok (T : Tr nC nP nS u v) (P : Pn nC nP u v) {h : Nat} (hh : h < 30) (s : Nat → Nat → Nat) :
    f_X6_seeAllIn (US u s) (nI h) = some (US u (mk (2 ^ h) (fun c' p' => anN (fun p => anN (fun c => pt c p (vis v nS (dA v) (nI h) c p) c' p') nC) nP) s)) := by
  have hP := T.1.2.1
  have h1 := up_loop' (fun F i (s : Nat → Nat → Nat) => L_X6_seeAllIn_2 (fun x2 u2 => some u2) (nI h) F (nI i) (US u s)) (fun p s => mk (2 ^ h) (fun c' p' => anN (fun c => pt c p (vis v nS (dA v) (nI h) c p) c' p') nC) s) nP (fun s => some (US u s)) ?_ ?_ s FU (FU_gt (by omega))
  · rw [mk_fu] at h1
    exact h1
  · intro F i s hi
    show L_X6_seeAllIn_2 _ (nI h) (F + 1) (nI i) (US u s) = L_X6_seeAllIn_2 _ (nI h) F (nI (i + 1)) (US u (mk (2 ^ h) (fun c' p' => anN (fun c => pt c i (vis v nS (dA v) (nI h) c i) c' p') nC) s))
    have none : (∀ c, vis v nS (dA v) (nI h) c i = false) → mk (2 ^ h) (fun c' p' => anN (fun c => pt c i (vis v nS (dA v) (nI h) c i) c' p') nC) s = s := by
      intro hv
      funext c' p'
      refine if_neg fun q => ?_
      obtain ⟨c, -, e⟩ := anN_iff.mp q
      unfold pt at e
      rw [hv c, Bool.and_false] at e
      exact Bool.noConfusion e
    rw [L_X6_seeAllIn_2, show (US u s).1 8 = nI nP from T.2.2.1.1, if_neg (nI_ge hi (by omega)), (cellOf_ok (US_T T s) hi (nI h)).1, nI_1]
    rcases wk_ok T hi (nI h) with ⟨e1, e2⟩ | ⟨e1, e2, e3⟩
    · rw [e1, Option.bind_some, if_pos rfl, none]
      intro c
      unfold vis
      rw [e2]; rfl
    · rw [e1, Option.bind_some, if_neg e3, smU_ok (US_T T s) e2, Option.bind_some, seeOne_ok T P hi e2 hh s]
      cases q : smB v nS (wkN v i (nI h)) (nI h)
      · rw [show bI false = 0 from rfl, i0, Option.bind_some]
        congr 2
        refine mk_congr fun c' p' => ?_
        congr 1
        funext c
        unfold vis
        rw [decide_eq_true e2, q]; rfl
      · rw [show bI true = 1 from rfl, i1, none]
        intro c
        unfold vis
        rw [decide_eq_true e2, q]; rfl
  · intro F s
    show L_X6_seeAllIn_2 _ (nI h) (F + 1) (nI nP) (US u s) = _
    rw [L_X6_seeAllIn_2, show (US u s).1 8 = nI nP from T.2.2.1.1, if_pos (Int32.le_refl _)]
theorem VS_h {h h' : Nat} {s : Nat → Nat → Nat} : sA (VS v h s) 7 (upd ((VS v h s).2.1 7) 0 (nI h')) = VS v h' s := by
  refine St_ext (by rfl) (fun j k => ?_) (by rfl)
  by_cases j7 : j = 7
  · subst j7
    rw [sA_eq]
    by_cases w : k = 0
    · rw [w, upE]; rfl
    · rw [upN w]
      exact (if_neg (show ¬ (7 = 7 ∧ k = 0) by omega)).trans (if_neg (show ¬ (7 = 7 ∧ k = 0) by omega)).symm
  · rw [sA_ne j7, VS_row j7, VS_row j7]
theorem hourV_ok (T : Tr nC nP nS u v) (P : Pn nC nP u v) {h : Nat} (hh : h < 30) (s : Nat → Nat → Nat) :
    f_X8_hourGoes (VS v h s) = some (VS v (h + 1) (mk (2 ^ h) (fun c' p' => anN (fun c => anN (fun p => pt c p (vis v nS (dA v) (nI h) c p) c' p') nP) nC) s)) := by
  obtain ⟨D, S1, S2⟩ := S_of T P
  obtain ⟨a1, a2, a3, a4, a5⟩ := ask_of T P
  have hC := T.1.1
  have hP := T.1.2.1
  unfold f_X8_hourGoes
  rw [VS_0]
  have inner : ∀ (c : Nat), c < nC → ∀ (s : Nat → Nat → Nat) (k : Int32 → St → Option St), L_X8_hourGoes_19 k (nI h) (nI c) FU 0 (VS v h s) = k (nI nP) (VS v h (mk (2 ^ h) (fun c' p' => anN (fun p => pt c p (vis v nS (dA v) (nI h) c p) c' p') nP) s)) := by
    intro c hc s k
    have h1 := up_loop' (fun F i (s : Nat → Nat → Nat) => L_X8_hourGoes_19 k (nI h) (nI c) F (nI i) (VS v h s)) (fun p s => mk (2 ^ h) (pt c p (vis v nS (dA v) (nI h) c p)) s) nP (fun s => k (nI nP) (VS v h s)) ?_ ?_ s FU (FU_gt (by omega))
    · rw [mk_fu] at h1
      exact h1
    · intro F i s hi
      show L_X8_hourGoes_19 k (nI h) (nI c) (F + 1) (nI i) (VS v h s) = L_X8_hourGoes_19 k (nI h) (nI c) F (nI (i + 1)) (VS v h (mk (2 ^ h) (pt c i (vis v nS (dA v) (nI h) c i)) s))
      have ew : f_X8_walks (VS v h s) (nI i) (nI h) = f_X8_walks v (nI i) (nI h) := by unfold f_X8_walks; rw [VS_row (by decide), VS_row (by decide)]
      have ek : f_X8_isAsked (VS v h s) (nI c) = some (bI ((dA v).testBit c)) := by
        rw [← (a5 c (by omega)).2]; unfold f_X8_isAsked; rw [VS_cell (by omega)]
      have e0 : nI (s c i) ||| 0 = nI (s c i) := by rw [show nI (s c i) ||| 0 = nI (s c i ||| 0) from n_or _ 0, Nat.or_zero]
      have eix : (25 + 4 * nI c) + nI i = nI (25 + 4 * c + i) := by
        rw [show (4 : Int32) * nI c = nI (4 * c) from pk_mul 4 c, show (25 : Int32) + nI (4 * c) = nI (25 + 4 * c) from nI_add 25 _, nI_add]
      rw [VS_set (by omega) (by omega), L_X8_hourGoes_19, show (VS v h s).1 1 = nI nP from T.2.2.1.2, if_neg (nI_ge hi (by omega)), ew, ek, eix, oobF (show 25 + 4 * c + i < 507 by omega) (by decide), tc_nI (by omega), VS_in (by omega) (by omega), nI_1, e0, n_shl (by omega), n_or]
      simp only [fT]
      rcases wk_ok T hi (nI h) with ⟨e1, e2⟩ | ⟨e1, e2, e3⟩
      · rw [e1, Option.bind_some, if_pos rfl]
        unfold vis
        rw [e2]; rfl
      · rw [e1, Option.bind_some, if_neg e3, Option.bind_some, sees_ok D (VS_S S2 h s) hc e2, smV_ok (VS v h s) T.1.2.2 T.2.2.2.1.2 e2, show smB (VS v h s) nS (wkN v i (nI h)) (nI h) = smB v nS (wkN v i (nI h)) (nI h) by unfold smB smP; rw [VS_row (by decide)]]
        unfold vis
        rw [decide_eq_true e2]
        cases (dA v).testBit c
        · rw [show bI false = 0 from rfl, i0, Option.bind_some]
          cases seeB (dPl v) (v.2.1 1) (v.2.1 2) (v.2.1 3) (dRo v) c (wkN v i (nI h)) (nI h)
          · rw [show bI false = 0 from rfl, i0]
            cases smB v nS (wkN v i (nI h)) (nI h) <;> rfl
          · rw [show bI true = 1 from rfl, i1, Option.bind_some]
            cases smB v nS (wkN v i (nI h)) (nI h) <;> rfl
        · rw [show bI true = 1 from rfl, i1]
          cases smB v nS (wkN v i (nI h)) (nI h) <;> rfl
    · intro F s
      show L_X8_hourGoes_19 k (nI h) (nI c) (F + 1) (nI nP) (VS v h s) = _
      rw [L_X8_hourGoes_19, show (VS v h s).1 1 = nI nP from T.2.2.1.2, if_pos (Int32.le_refl _)]
  have h1 := up_loop' (fun F i (s : Nat → Nat → Nat) => L_X8_hourGoes_9 (fun x2 u9 => some (sA u9 7 (upd (u9.2.1 7) 0 (((u9.2.1 7) 0) + 1)))) (nI h) F (nI i) (VS v h s)) (fun c s => mk (2 ^ h) (fun c' p' => anN (fun p => pt c p (vis v nS (dA v) (nI h) c p) c' p') nP) s) nC (fun s => some (VS v (h + 1) s)) ?_ ?_ s FU (FU_gt (by omega))
  · rw [mk_fu] at h1
    exact h1
  · intro F i s hi
    show L_X8_hourGoes_9 _ (nI h) (F + 1) (nI i) (VS v h s) = _
    rw [L_X8_hourGoes_9, show (VS v h s).1 0 = nI nC from T.2.1.2, if_neg (nI_ge hi (by omega)), inner i hi, nI_1]
  · intro F s
    show L_X8_hourGoes_9 _ (nI h) (F + 1) (nI nC) (VS v h s) = _
    rw [L_X8_hourGoes_9, show (VS v h s).1 0 = nI nC from T.2.1.2, if_pos (Int32.le_refl _), VS_0, nI_1, VS_h]
theorem hour_same (v : St) (nC nP nS a h b : Nat) (s : Nat → Nat → Nat) : mk b (fun c' p' => anN (fun p => anN (fun c => pt c p (vis v nS a (nI h) c p) c' p') nC) nP) s = mk b (fun c' p' => anN (fun c => anN (fun p => pt c p (vis v nS a (nI h) c p) c' p') nP) nC) s := by
  refine mk_congr fun c' p' => ?_
  rw [Bool.eq_iff_iff, anN_iff, anN_iff]
  constructor
  · rintro ⟨p, hp, e⟩
    obtain ⟨c, hc, e⟩ := anN_iff.mp e
    exact ⟨c, hc, anN_iff.mpr ⟨p, hp, e⟩⟩
  · rintro ⟨c, hc, e⟩
    obtain ⟨p, hp, e⟩ := anN_iff.mp e
    exact ⟨p, hp, anN_iff.mpr ⟨c, hc, e⟩⟩
/-- the marks after i hours from the hour h -/
def mks (v : St) (nC nP nS a h : Nat) (s : Nat → Nat → Nat) (i : Nat) : Nat → Nat → Nat :=
  fu (fun i s => mk (2 ^ (h + i)) (fun c' p' => anN (fun c => anN (fun p => pt c p (vis v nS a (nI (h + i)) c p) c' p') nP) nC) s) i s
theorem mks_ok {a h : Nat} {s : Nat → Nat → Nat} (A : As nC nP s) (hl : ∀ c p, c < 5 → p < 4 → s c p < 2 ^ h) : ∀ i, ∀ c p, c < 5 → p < 4 → mks v nC nP nS a h s i c p < 2 ^ (h + i) ∧ mks v nC nP nS a h s i c p % 2 ^ h = s c p ∧ (nC ≤ c ∨ nP ≤ p → mks v nC nP nS a h s i c p = 0)
  | 0, c, p, hc, hp => ⟨hl c p hc hp, Nat.mod_eq_of_lt (hl c p hc hp), (A.2.2 c p hc hp).2⟩
  | i + 1, c, p, hc, hp => by
    obtain ⟨h1, h2, h3⟩ := mks_ok (a := a) A hl i c p hc hp
    have e : mks v nC nP nS a h s (i + 1) = mk (2 ^ (h + i)) (fun c' p' => anN (fun c => anN (fun p => pt c p (vis v nS a (nI (h + i)) c p) c' p') nP) nC) (mks v nC nP nS a h s i) := rfl
    rw [e]
    generalize mks v nC nP nS a h s i = t at *
    have hlt : t c p < 2 ^ (h + i + 1) := Nat.lt_of_lt_of_le h1 (Nat.pow_le_pow_right (by decide) (by omega))
    unfold mk
    by_cases q : anN (fun c' => anN (fun p' => pt c' p' (vis v nS a (nI (h + i)) c' p') c p) nP) nC = true
    · rw [if_pos q]
      refine ⟨Nat.or_lt_two_pow hlt (Nat.pow_lt_pow_right (by decide) (by omega)), ?_, fun w => ?_⟩
      · rw [← h2]
        apply Nat.eq_of_testBit_eq
        intro b
        rw [Nat.testBit_mod_two_pow, Nat.testBit_mod_two_pow, Nat.testBit_or, Nat.testBit_two_pow]
        by_cases z : b < h
        · rw [decide_eq_false (show ¬ h + i = b by omega), Bool.or_false]
        · rw [decide_eq_false z, Bool.false_and, Bool.false_and]
      · obtain ⟨c', hc', q⟩ := anN_iff.mp q
        obtain ⟨p', hp', q⟩ := anN_iff.mp q
        unfold pt at q
        have := of_decide_eq_true (Bool.and_eq_true_iff.mp q).1
        omega
    · rw [if_neg q]
      exact ⟨hlt, h2, h3⟩
theorem hours_ok (H : RR nC nP nS u v) (x : Int32) : Wo (f_X7_hours u x) (f_X8_hours v x) := by
  unfold f_X7_hours f_X8_hours
  rw [in_eq]
  rcases in_cases x 1 9 with ⟨e, hx1, hx2⟩ | e
  · rw [e, Option.bind_some, Option.bind_some, i1, i1]
    obtain ⟨⟨h, h1, h2, h3⟩, ha⟩ := H.2.1.vb
    have h2' : u.1 10 = nI h := H.2.1.b.1.trans h2
    rw [h2', h2]
    by_cases q : h = 30
    · subst q
      rw [if_neg (show ¬ nI 30 < 30 by decide), if_pos (show nI 30 = 30 from rfl)]; exact Wo.same H
    · rw [if_pos (show nI h < 30 from nI_lt (b := 30) (by omega) (by omega)), if_neg (show ¬ nI h = 30 from fun w => q ((nI_eq (b := 30) (by omega) (by omega)).mp w))]
      obtain ⟨n, hn, rfl⟩ : ∃ n : Nat, n ≤ 9 ∧ x = nI n := rng (n := 9) (by decide) (Int32.le_trans (by decide) hx1) hx2
      obtain ⟨T, P, I, X, C, J⟩ := H
      obtain ⟨d, d1, d2, d3, d4⟩ := P.d
      obtain ⟨A, U, V⟩ := A_of T P
      have hC := T.1.1
      have hP := T.1.2.1
      have hl : ∀ c p, c < 5 → p < 4 → dS v c p < 2 ^ h := fun c p hc hp => by
        obtain ⟨s, s1, s2, s3⟩ := h3 c p hc hp
        unfold dS; rw [s2, tc_nI (Nat.lt_of_lt_of_le s1 (Nat.pow_le_pow_right (by decide) (by omega)))]; exact s1
      -- the states after remembering
      have hu : f_X3_rememberHour u = some (dedS u d 0 (nI h) 0) := by
        unfold f_X3_rememberHour
        rw [rem_ded u d1 d2, h2']; rfl
      obtain ⟨u1, hu1⟩ : ∃ w, w = dedS u d 0 (nI h) 0 := ⟨_, rfl⟩
      obtain ⟨v1, hv1⟩ : ∃ w, w = sA v 7 (rmS (v.2.1 7) d) := ⟨_, rfl⟩
      have r7 : ∀ k, k < 46 → v1.2.1 7 k = v.2.1 7 k := fun k hk => by rw [hv1, sA_eq, rm_lo d1 hk]
      have rr : ∀ j, j ≠ 7 → v1.2.1 j = v.2.1 j := fun j hj => by rw [hv1, sA_ne hj]
      have ur : ∀ k, k < 36 ∨ 38 < k → u1.2.1 k = u.2.1 k := fun k hk => by rw [hu1]; exact ded_row hk
      have un : ∀ k, k ≠ 12 → u1.1 k = u.1 k := fun k hk => by rw [hu1]; exact ded_num hk
      have vn : v1.1 = v.1 := by rw [hv1]; rfl
      have T1 : Tr nC nP nS u1 v1 := T.fr (fun k h1 h2 => un k (by omega)) (fun k h1 h2 => ur k (by omega)) (fun k h1 => by rw [vn]) (fun k h1 => rr k (by omega))
      have B1 : Bq (u1.1 10) (u1.1 11) (u1.2.1 30) (fun c => u1.2.1 (31 + c)) (v1.2.1 7) := P.b.congr (un 10 (by omega)) (un 11 (by omega)) (fun x _ => by rw [ur 30 (by omega)]) (fun c p hc _ => by rw [ur (31 + c) (by omega)]) r7
      have Vb1 : Vb nC nP (v1.2.1 7) := P.vb.congr r7
      -- the relation of the two after remembering, as to what the hours read: only the deeds aside
      obtain ⟨n0, en0⟩ : ∃ n0, n0 = (if 30 < h + n then 30 else h + n) - h := ⟨_, rfl⟩
      have hn0 : n0 ≤ n ∧ h + n0 ≤ 30 ∧ (n0 = n ∨ h + n0 = 30) := by rw [en0]; split <;> omega
      have hn1 : 1 ≤ n := by
        by_cases w : 1 ≤ n
        · exact w
        · rw [show n = 0 by omega] at hx1; exact absurd hx1 (by decide)
      have hm : ∀ z, z < 2 ^ 31 → nI z &&& ((1 <<< (nI h &&& 31)) - 1) = nI (z % 2 ^ h) := fun z hz => by
        rw [n_shl (by omega), show (1 : Int32) = nI 1 from rfl, pk_sub (Nat.two_pow_pos h), n_and, Nat.and_two_pow_sub_one_eq_mod]
      have e46 : ∀ k, 46 ≤ k → k < 507 → v1.2.1 7 k = rmS (v.2.1 7) d k := fun k _ _ => by rw [hv1, sA_eq]
      have sd : u1.2.1 36 = psS (u.2.1 36) d 0 ∧ u1.2.1 37 = psS (u.2.1 37) d (nI h) ∧ u1.2.1 38 = psS (u.2.1 38) d 0 ∧ u1.1 12 = nI (nx d) := by rw [hu1]; exact ⟨rfl, rfl, rfl, rfl⟩
      have hsv : ∀ c p, c < 5 → p < 4 → v.2.1 7 (25 + 4 * c + p) = nI (dS v c p) := V
      have P1 : Pn nC nP u1 v1 := by
        refine ⟨nx d, push (so := 0) (nu := nI h) (rx := 0) d4 B1 Vb1 (Or.inl ⟨rfl, h2.symm, ⟨h, by omega, rfl⟩, fun x hx => r7 _ (by omega), r7 _ (by omega), fun c p hc hp => ?_⟩) sd.2.2.2 e46 sd.1 sd.2.1 sd.2.2.1⟩
        have hlt := (A.2.2 c p hc hp).1
        rw [r7 _ (by omega), hsv c p hc hp, hm _ (by omega), Nat.mod_eq_of_lt (hl c p hc hp)]
      have U1 : Au nC nP (dS v) u1 := fun c p hc hp => by rw [ur (31 + c) (by omega)]; exact U c p hc hp
      have V1 : Av nC nP (dS v) v1 := fun c p hc hp => by rw [r7 _ (by omega)]; exact V c p hc hp
      have hmk := mks_ok (v := v1) (nS := nS) (a := dA v1) A hl n0
      have GU : ∀ k : Int32 → St → Option St, L_X6_goBy_30 k (nI (h + n0)) FU (nI h) u1 = k (nI (h + n0)) (US u1 (mks v1 nC nP nS (dA v1) h (dS v) n0)) := by
        intro k
        have g := up_loop' (fun F i (s : Nat → Nat → Nat) => L_X6_goBy_30 k (nI (h + n0)) F (nI (h + i)) (US u1 s)) (fun i s => mk (2 ^ (h + i)) (fun c' p' => anN (fun c => anN (fun p => pt c p (vis v1 nS (dA v1) (nI (h + i)) c p) c' p') nP) nC) s) n0 (fun s => k (nI (h + n0)) (US u1 s)) ?_ ?_ (dS v) FU (FU_gt (by omega))
        · rw [US_self U1] at g
          exact g
        · intro F i s hi
          show L_X6_goBy_30 k (nI (h + n0)) (F + 1) (nI (h + i)) (US u1 s) = _
          rw [L_X6_goBy_30, if_neg (nI_ge (by omega) (by omega)), hourU_ok T1 P1 (by omega), Option.bind_some, nI_1, hour_same]
          rfl
        · intro F s
          show L_X6_goBy_30 k (nI (h + n0)) (F + 1) (nI (h + n0)) (US u1 s) = _
          rw [L_X6_goBy_30, if_pos (Int32.le_refl _)]
      have GV : L_X8_hours_32 (fun x2 u32 => some (((u32.2.1 7) 0), u32)) (nI n) FU 0 v1 = some (nI (h + n0), VS v1 (h + n0) (mks v1 nC nP nS (dA v1) h (dS v) n0)) := by
        have g := up_loop' (fun F i (s : Nat → Nat → Nat) => L_X8_hours_32 (fun x2 u32 => some (((u32.2.1 7) 0), u32)) (nI n) F (nI i) (VS v1 (h + i) s)) (fun i s => mk (2 ^ (h + i)) (fun c' p' => anN (fun c => anN (fun p => pt c p (vis v1 nS (dA v1) (nI (h + i)) c p) c' p') nP) nC) s) n0 (fun s => some (nI (h + n0), VS v1 (h + n0) s)) ?_ ?_ (dS v) FU (FU_gt (by omega))
        · have e1 : VS v1 (h + 0) (dS v) = v1 := VS_self V1 (by rw [r7 0 (by omega)]; exact h2)
          rw [e1] at g
          exact g
        · intro F i s hi
          show L_X8_hours_32 _ (nI n) (F + 1) (nI i) (VS v1 (h + i) s) = _
          rw [L_X8_hours_32, if_neg (nI_ge (by omega) (by omega)), VS_0, if_neg (show ¬ (30 : Int32) ≤ nI (h + i) from nI_ge (b := 30) (by omega) (by omega)), hourV_ok T1 P1 (by omega), Option.bind_some, nI_1]
          rfl
        · intro F s
          show L_X8_hours_32 _ (nI n) (F + 1) (nI n0) (VS v1 (h + n0) s) = _
          rw [L_X8_hours_32, VS_0]
          by_cases w : n0 = n
          · rw [if_pos (by rw [w]; exact Int32.le_refl _)]
          · rw [if_neg (nI_ge (by omega) (by omega)), if_pos (show (30 : Int32) ≤ nI (h + n0) by rw [show h + n0 = 30 by omega]; decide)]
      have FUn : f_X6_goBy u (nI n) = some (sI (US u1 (mks v1 nC nP nS (dA v1) h (dS v) n0)) 10 (nI (h + n0))) := by
        unfold f_X6_goBy
        rw [hu, Option.bind_some, ← hu1, un 10 (by omega), h2', nI_add]
        have eE : (if 30 < nI (h + n) then 30 else nI (h + n)) = nI (h + n0) := by
          by_cases w : 30 < h + n
          · rw [if_pos (show (30 : Int32) < nI (h + n) from nI_lt (a := 30) w (by omega)), show h + n0 = 30 by rw [en0, if_pos w]; omega]; rfl
          · rw [if_neg (show ¬ (30 : Int32) < nI (h + n) from nI_nlt (a := 30) (by omega) (by omega)), show h + n0 = h + n by rw [en0, if_neg w]; omega]
        rw [eE, GU]
      rw [FUn, Option.bind_some, remV_ok v d1 d3, Option.bind_some, ← hv1, GV]
      generalize mks v1 nC nP nS (dA v1) h (dS v) n0 = sN at *
      refine ⟨nI (h + n0), _, _, rfl, rfl, nC, nP, nS, ?_, ⟨nx d, ?_⟩, ?_, ?_, ?_, ?_⟩
      · exact T1.fr (fun k h1 h2 => if_neg (by omega)) (fun k h1 h2 => US_out (by omega)) (fun k h1 => rfl) (fun k h1 => VS_row (by omega))
      · refine push (so := 0) (nu := nI h) (rx := 0) d4 ⟨rfl, ?_, fun x hx => ?_, fun c p hc hp => ?_⟩ ⟨⟨h + n0, hn0.2.1, rfl, fun c p hc hp => ?_⟩, ?_⟩ (Or.inl ⟨rfl, h2.symm, ⟨h, by omega, rfl⟩, fun x hx => ?_, ?_, fun c p hc hp => ?_⟩) sd.2.2.2 ?_ ?_ ?_ ?_
        · rw [VS_cell (by omega)]; exact B1.2.1
        · rw [VS_cell (by omega)]; exact B1.2.2.1 x hx
        · exact (US_in hc hp).trans (VS_in hc hp).symm
        · exact ⟨sN c p, (hmk c p hc hp).1, VS_in hc hp, (hmk c p hc hp).2.2⟩
        · rw [VS_cell (by omega)]; exact Vb1.2
        · rw [VS_cell (by omega)]; exact r7 _ (by omega)
        · rw [VS_cell (by omega)]; exact r7 _ (by omega)
        · have hk := hmk c p hc hp
          rw [VS_in hc hp, hm _ (Nat.lt_of_lt_of_le hk.1 (Nat.pow_le_pow_right (by decide) (by omega))), hk.2.1, hsv c p hc hp]
        · intro k k1 k2
          rw [VS_cell (by omega)]; exact e46 k k1 k2
        · exact sd.1
        · exact sd.2.1
        · exact sd.2.2.1
      · exact I.fr (fun k h1 h2 => (if_neg (by omega)).trans (un k (by omega))) (fun k h1 h2 => (US_out (by omega)).trans (ur k (by omega))) (fun k h1 h2 => (VS_row (by omega)).trans (rr k (by omega)))
      · exact X.fr (un 0 (by omega)) (ur 0 (by omega)) (by show v1.1 5 = v.1 5; rw [vn]) (rr 12 (by omega))
      · exact C.fr (fun k h1 h2 => (if_neg (by omega)).trans (un k (by omega))) (fun k h1 h2 => (US_out (by omega)).trans (ur k (by omega))) (fun k h1 h2 => by show v1.1 k = v.1 k; rw [vn]) (fun k h1 h2 => (VS_row (by omega)).trans (rr k (by omega)))
      · show u1.2.2 = v1.2.2
        rw [hu1, hv1]; exact J
  · rw [e, Option.bind_some, Option.bind_some, i0, i0]; exact Wo.same H
end HR
