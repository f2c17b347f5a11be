-- ===== tokens =====
def scF (p : Int32 → Bool) (b : Nat → Int32) (n : Nat) : Nat → Nat → Nat
  | 0, i => i
  | F + 1, i => if i < n ∧ p (b i) = true then scF p b n F (i + 1) else i
theorem scF_ge {p : Int32 → Bool} {b : Nat → Int32} {n : Nat} : ∀ F i, i ≤ scF p b n F i
  | 0, i => Nat.le_refl i
  | F + 1, i => by
    show i ≤ if _ then _ else _
    split
    · exact Nat.le_trans (Nat.le_succ i) (scF_ge F (i + 1))
    · exact Nat.le_refl i
theorem scF_le {p : Int32 → Bool} {b : Nat → Int32} {n : Nat} : ∀ F i, i ≤ n → scF p b n F i ≤ n
  | 0, i, h => h
  | F + 1, i, h => by
    show (if _ then _ else _) ≤ n
    split
    · next q => exact scF_le F (i + 1) q.1
    · exact h
theorem scF_gt {p : Int32 → Bool} {b : Nat → Int32} {n F i : Nat} (h : i < n) (q : p (b i) = true) : i < scF p b n (F + 1) i := by
  show i < if _ then _ else _
  rw [if_pos ⟨h, q⟩]
  exact scF_ge F (i + 1)
theorem scF_gtF {p : Int32 → Bool} {b : Nat → Int32} {n i : Nat} (h : i < n) (q : p (b i) = true) : i < scF p b n FU i := scF_gt (F := 1999) h q
def spB (x : Int32) : Bool := decide (x = 32)
def leB (x : Int32) : Bool := decide (¬ x < 97 ∧ ¬ 122 < x)
def diB (x : Int32) : Bool := decide (¬ x < 48 ∧ ¬ 57 < x)
def nmV (b : Nat → Int32) (n : Nat) : Nat → Nat → Int32 → Int32
  | 0, _, x => x
  | F + 1, i, x => if i < n ∧ diB (b i) = true then nmV b n F (i + 1) (if 99 < x then x else x * 10 + b i - 48) else x
theorem leU (x : Int32) : f_X5_isLetter x = some (bI (leB x)) := by
  unfold f_X5_isLetter leB
  by_cases q : x < 97
  · rw [if_pos q, decide_eq_false (fun k => k.1 q)]; rfl
  · rw [if_neg q]
    by_cases w : 122 < x
    · rw [if_pos w, decide_eq_false (fun k => k.2 w)]; rfl
    · rw [if_neg w, decide_eq_true ⟨q, w⟩]; rfl
theorem diU (x : Int32) : f_X5_isDigit x = some (bI (diB x)) := by
  unfold f_X5_isDigit diB
  by_cases q : x < 48
  · rw [if_pos q, decide_eq_false (fun k => k.1 q)]; rfl
  · rw [if_neg q]
    by_cases w : 57 < x
    · rw [if_pos w, decide_eq_false (fun k => k.2 w)]; rfl
    · rw [if_neg w, decide_eq_true ⟨q, w⟩]; rfl
theorem leV (x : Int32) : f_X8_isLetter x = some (bI (leB x)) := by
  unfold f_X8_isLetter
  rw [show f_X8_in x 97 122 = f_X5_isLetter x from rfl, leU, Option.bind_some, nbb]
theorem diV (x : Int32) : f_X8_isFigure x = some (bI (diB x)) := by
  unfold f_X8_isFigure
  rw [show f_X8_in x 48 57 = f_X5_isDigit x from rfl, diU, Option.bind_some, nbb]
/-- kind, value, start, end of the token at a -/
def tkK (b : Nat → Int32) (n a : Nat) : Int32 :=
  if scF spB b n FU a < n then
    if leB (b (scF spB b n FU a)) = true then 1
    else if diB (b (scF spB b n FU a)) = true then
      if 99 < nmV b n FU (scF spB b n FU a) 0 then 4
      else if b (scF spB b n FU a) = 48 then (if scF diB b n FU (scF spB b n FU a) - scF spB b n FU a ≤ 1 then 2 else 4) else 2
    else if b (scF spB b n FU a) = 59 then 3 else 4
  else 0
def tkV (b : Nat → Int32) (n a : Nat) : Int32 :=
  if scF spB b n FU a < n then
    if leB (b (scF spB b n FU a)) = true then (if scF leB b n FU (scF spB b n FU a) - scF spB b n FU a = 1 then b (scF spB b n FU a) else 0)
    else if diB (b (scF spB b n FU a)) = true then nmV b n FU (scF spB b n FU a) 0
    else 0
  else 0
def tkS (b : Nat → Int32) (n a : Nat) : Nat := scF spB b n FU a
def tkE (b : Nat → Int32) (n a : Nat) : Nat :=
  if scF spB b n FU a < n then
    if leB (b (scF spB b n FU a)) = true then scF leB b n FU (scF spB b n FU a)
    else if diB (b (scF spB b n FU a)) = true then scF diB b n FU (scF spB b n FU a)
    else scF spB b n FU a + 1
  else scF spB b n FU a
theorem tkS_le {b : Nat → Int32} {n a : Nat} (h : a ≤ n) : a ≤ tkS b n a ∧ tkS b n a ≤ n := ⟨scF_ge _ _, scF_le _ _ h⟩
theorem tkE_le {b : Nat → Int32} {n a : Nat} (h : a ≤ n) : tkE b n a ≤ n ∧ a ≤ tkE b n a ∧ (¬ tkK b n a = 0 → a < tkE b n a) := by
  have h1 : a ≤ scF spB b n FU a := scF_ge FU a
  have h2 : scF spB b n FU a ≤ n := scF_le FU a h
  unfold tkE tkK
  generalize scF spB b n FU a = s at *
  by_cases q : s < n
  · simp only [if_pos q]
    by_cases w : leB (b s) = true
    · simp only [if_pos w]
      have := scF_gtF (p := leB) (b := b) q w
      have h3 := scF_le (p := leB) (b := b) FU s h2
      exact ⟨h3, by omega, fun _ => by omega⟩
    · simp only [if_neg w]
      by_cases z : diB (b s) = true
      · simp only [if_pos z]
        have := scF_gtF (p := diB) (b := b) q z
        have h3 := scF_le (p := diB) (b := b) FU s h2
        exact ⟨h3, by omega, fun _ => by omega⟩
      · simp only [if_neg z]
        exact ⟨by omega, by omega, fun _ => by omega⟩
  · simp only [if_neg q]
    exact ⟨h2, h1, fun k => absurd trivial k⟩
section TK
variable {n : Nat} {b : Nat → Int32}
/-- only field j has changed, to x -/
def on1 (u u' : St) (j : Nat) (x : Int32) : Prop := u'.1 j = x ∧ (∀ k : Nat, k ≠ j → u'.1 k = u.1 k) ∧ u'.2 = u.2
theorem on1.rf {u : St} {j : Nat} {x : Int32} (h : u.1 j = x) : on1 u u j x := ⟨h, fun _ _ => rfl, rfl⟩
theorem on1.st {u u' : St} {j : Nat} {x y : Int32} (h : on1 (sI u j y) u' j x) : on1 u u' j x := ⟨h.1, fun k hk => (h.2.1 k hk).trans (if_neg hk), h.2.2⟩
theorem spU (hn : n ≤ 150) (k : St → Option (Int32 × St)) : ∀ (F i : Nat) (u : St), u.1 0 = nI n → u.2.1 0 = b → u.1 1 = nI i → i ≤ n → n - i < F → ∃ u', L_X5_nextToken_0 k F u = k u' ∧ on1 u u' 1 (nI (scF spB b n F i))
  | 0, _, _, _, _, _, _, h => absurd h (Nat.not_lt_zero _)
  | F + 1, i, u, h0, hb, h1, hi, hF => by
    rw [L_X5_nextToken_0, h0, h1]
    show ∃ u', _ ∧ on1 u u' 1 (nI (if i < n ∧ spB (b i) = true then scF spB b n F (i + 1) else i))
    by_cases q : i < n
    · rw [if_neg (nI_ge q (by omega)), oobF (show i < 150 by omega) (by decide), fT, tc_nI (by omega), hb, nI_1]
      by_cases w : b i = 32
      · rw [if_pos w, if_pos ⟨q, decide_eq_true w⟩]
        obtain ⟨u', e, g⟩ := spU hn k F (i + 1) (sI u 1 (nI (i + 1))) h0 hb rfl q (by omega)
        exact ⟨u', e, g.st⟩
      · rw [if_neg w, if_neg (fun t => w (of_decide_eq_true t.2))]
        exact ⟨u, rfl, on1.rf h1⟩
    · rw [if_pos (nI_le (by omega) (by omega)), if_neg (fun t => q t.1)]
      exact ⟨u, rfl, on1.rf h1⟩
theorem lettU (hn : n ≤ 150) (k : St → Option (Int32 × St)) : ∀ (F i : Nat) (u : St), u.1 0 = nI n → u.2.1 0 = b → u.1 1 = nI i → i ≤ n → n - i < F → ∃ u', L_X5_readWord_10 k F u = k u' ∧ on1 u u' 1 (nI (scF leB b n F i))
  | 0, _, _, _, _, _, _, h => absurd h (Nat.not_lt_zero _)
  | F + 1, i, u, h0, hb, h1, hi, hF => by
    rw [L_X5_readWord_10, h0, h1]
    show ∃ u', _ ∧ on1 u u' 1 (nI (if i < n ∧ leB (b i) = true then scF leB b n F (i + 1) else i))
    by_cases q : i < n
    · rw [if_neg (nI_ge q (by omega)), oobF (show i < 150 by omega) (by decide), fT, tc_nI (by omega), hb, nI_1, leU, Option.bind_some]
      cases w : leB (b i)
      · rw [show bI false = 0 from rfl, i0, if_neg (fun t => Bool.noConfusion t.2)]
        exact ⟨u, rfl, on1.rf h1⟩
      · rw [show bI true = 1 from rfl, i1, if_pos ⟨q, rfl⟩]
        obtain ⟨u', e, g⟩ := lettU hn k F (i + 1) (sI u 1 (nI (i + 1))) h0 hb rfl q (by omega)
        exact ⟨u', e, g.st⟩
    · rw [if_pos (nI_le (by omega) (by omega)), if_neg (fun t => q t.1)]
      exact ⟨u, rfl, on1.rf h1⟩
/-- fields j and l have changed -/
def on2 (u u' : St) (j l : Nat) (x y : Int32) : Prop := u'.1 j = x ∧ u'.1 l = y ∧ (∀ k : Nat, k ≠ j → k ≠ l → u'.1 k = u.1 k) ∧ u'.2 = u.2
theorem numbU (hn : n ≤ 150) (k : St → Option (Int32 × St)) : ∀ (F i : Nat) (u : St), u.1 0 = nI n → u.2.1 0 = b → u.1 1 = nI i → i ≤ n → n - i < F → ∃ u', L_X5_readNumber_20 k F u = k u' ∧ on2 u u' 1 3 (nI (scF diB b n F i)) (nmV b n F i (u.1 3))
  | 0, _, _, _, _, _, _, h => absurd h (Nat.not_lt_zero _)
  | F + 1, i, u, h0, hb, h1, hi, hF => by
    rw [L_X5_readNumber_20, h0, h1]
    show ∃ u', _ ∧ on2 u u' 1 3 (nI (if i < n ∧ diB (b i) = true then scF diB b n F (i + 1) else i)) (if i < n ∧ diB (b i) = true then nmV b n F (i + 1) (if 99 < u.1 3 then u.1 3 else u.1 3 * 10 + b i - 48) else u.1 3)
    by_cases q : i < n
    · rw [if_neg (nI_ge q (by omega)), oobF (show i < 150 by omega) (by decide), fT, tc_nI (by omega), hb, nI_1, diU, Option.bind_some]
      cases w : diB (b i)
      · rw [show bI false = 0 from rfl, i0, if_neg (fun t => Bool.noConfusion t.2), if_neg (fun t => Bool.noConfusion t.2)]
        exact ⟨u, rfl, h1, rfl, fun _ _ _ => rfl, rfl⟩
      · rw [show bI true = 1 from rfl, i1, if_pos (show i < n ∧ true = true from ⟨q, rfl⟩), if_pos (show i < n ∧ true = true from ⟨q, rfl⟩)]
        by_cases z : 99 < u.1 3
        · simp only [if_pos z]
          obtain ⟨u', e, g1, g2, g3, g4⟩ := numbU hn k F (i + 1) (sI u 1 (nI (i + 1))) h0 hb rfl q (by omega)
          exact ⟨u', e, g1, g2, fun k h1 h2 => (g3 k h1 h2).trans (if_neg h1), g4⟩
        · simp only [if_neg z]
          obtain ⟨u', e, g1, g2, g3, g4⟩ := numbU hn k F (i + 1) (sI (sI u 3 (u.1 3 * 10 + b i - 48)) 1 (nI (i + 1))) h0 hb rfl q (by omega)
          exact ⟨u', e, g1, g2, fun k h1 h2 => (g3 k h1 h2).trans ((if_neg h1).trans (if_neg h2)), g4⟩
    · rw [if_pos (nI_le (by omega) (by omega)), if_neg (fun t => q t.1), if_neg (fun t => q t.1)]
      exact ⟨u, rfl, h1, rfl, fun _ _ _ => rfl, rfl⟩
/-- the script's fields after a token -/
def TkU (b : Nat → Int32) (n a : Nat) (u u' : St) : Prop := u'.1 1 = nI (tkE b n a) ∧ u'.1 2 = nI (tkS b n a) ∧ u'.1 3 = tkV b n a ∧ (∀ k : Nat, k = 0 ∨ 4 ≤ k → u'.1 k = u.1 k) ∧ u'.2 = u.2
theorem tokU (hn : n ≤ 150) {a : Nat} (ha : a ≤ n) (u : St) (h0 : u.1 0 = nI n) (hb : u.2.1 0 = b) (h1 : u.1 1 = nI a) : ∃ u', f_X5_nextToken u = some (tkK b n a, u') ∧ TkU b n a u u' := by
  unfold f_X5_nextToken TkU tkE tkS tkV tkK
  obtain ⟨w, e, g1, g2, g3⟩ := spU hn (fun u0 =>
    if (u0.1 1) < (u0.1 0) then
      if oob (u0.1 1) 150 then none else
      Option.bind (f_X5_isLetter ((u0.2.1 0) (Int32.toNatClampNeg (u0.1 1)))) fun r73 =>
      if r73 = 0 then
        Option.bind (f_X5_isDigit ((u0.2.1 0) (Int32.toNatClampNeg (u0.1 1)))) fun r93 =>
        if r93 = 0 then
          if ((u0.2.1 0) (Int32.toNatClampNeg (u0.1 1))) = 59 then
            some (3, (sI (sI (sI u0 2 (u0.1 1)) 3 0) 1 ((u0.1 1) + 1)))
          else
            some (4, (sI (sI (sI u0 2 (u0.1 1)) 3 0) 1 ((u0.1 1) + 1)))
        else
          Option.bind (f_X5_readNumber (sI (sI u0 2 (u0.1 1)) 3 0)) fun r100 =>
          some (r100.1, r100.2)
      else
        Option.bind (f_X5_readWord (sI (sI u0 2 (u0.1 1)) 3 0)) fun r80 =>
        some (r80.1, r80.2)
    else
      some (0, (sI (sI u0 2 (u0.1 1)) 3 0))) FU a u h0 hb h1 ha (FU_gt (by omega))
  rw [e]
  have hs2 : scF spB b n FU a ≤ n := scF_le FU a ha
  generalize scF spB b n FU a = s at *
  have w0 : w.1 0 = nI n := (g2 0 (by decide)).trans h0
  have wb : w.2.1 0 = b := by rw [g3]; exact hb
  rw [g1, w0, wb]
  by_cases q : s < n
  · simp only [if_pos q]
    rw [if_pos (nI_lt q (by omega)), oobF (show s < 150 by omega) (by decide), fT, tc_nI (by omega), leU, Option.bind_some]
    cases l : leB (b s)
    · rw [show bI false = 0 from rfl, i0, diU, Option.bind_some]
      simp only [fT]
      cases d : diB (b s)
      · rw [show bI false = 0 from rfl, i0]
        simp only [fT]
        by_cases z : b s = 59
        · rw [if_pos z, if_pos z]
          exact ⟨_, rfl, nI_1 s, rfl, rfl, fun k hk => (if_neg (by omega)).trans ((if_neg (by omega)).trans ((if_neg (by omega)).trans (g2 k (by omega)))), g3⟩
        · rw [if_neg z, if_neg z]
          exact ⟨_, rfl, nI_1 s, rfl, rfl, fun k hk => (if_neg (by omega)).trans ((if_neg (by omega)).trans ((if_neg (by omega)).trans (g2 k (by omega)))), g3⟩
      · rw [show bI true = 1 from rfl, i1]
        simp only [if_true]
        have K : ∃ u', f_X5_readNumber (sI (sI w 2 (nI s)) 3 0) = some (if 99 < nmV b n FU s 0 then 4 else if b s = 48 then (if scF diB b n FU s - s ≤ 1 then 2 else 4) else 2, u') ∧ on2 (sI (sI w 2 (nI s)) 3 0) u' 1 3 (nI (scF diB b n FU s)) (nmV b n FU s 0) := by
          unfold f_X5_readNumber
          have hE : scF diB b n FU s ≤ n := scF_le FU s hs2
          have hG : s ≤ scF diB b n FU s := scF_ge FU s
          rw [show (sI (sI w 2 (nI s)) 3 0).1 1 = nI s from g1, oobF (show s < 150 by omega) (by decide), fT, tc_nI (by omega), show (sI (sI w 2 (nI s)) 3 0).2.1 0 = b from wb]
          by_cases z : b s = 48
          · rw [if_pos z]
            obtain ⟨u', e', f1, f2, f3, f4⟩ := numbU hn (fun u20 =>
              if ((u20.1 1) - (u20.1 2)) ≤ 1 then
                if (u20.1 3) ≤ 99 then
                  some (2, u20)
                else
                  some (4, u20)
              else
                some (4, u20)) FU s (sI (sI w 2 (nI s)) 3 0) w0 wb g1 hs2 (FU_gt (by omega))
            refine ⟨u', ?_, f1, f2, f3, f4⟩
            rw [e', f1, f2, show u'.1 2 = nI s from f3 2 (by decide) (by decide), pk_sub hG, show (sI (sI w 2 (nI s)) 3 0).1 3 = 0 from rfl, if_pos z]
            by_cases y : scF diB b n FU s - s ≤ 1
            · rw [if_pos (show nI (scF diB b n FU s - s) ≤ 1 from nI_le (b := 1) y (by omega)), if_pos y]
              by_cases x : 99 < nmV b n FU s 0
              · rw [if_neg (Int32.not_le.mpr x), if_pos x]
              · rw [if_pos (Int32.not_lt.mp x), if_neg x]
            · rw [if_neg (show ¬ nI (scF diB b n FU s - s) ≤ 1 from nI_ge (a := 1) (by omega) (by omega)), if_neg y]
              by_cases x : 99 < nmV b n FU s 0
              · rw [if_pos x]
              · rw [if_neg x]
          · rw [if_neg z]
            obtain ⟨u', e', f1, f2, f3, f4⟩ := numbU hn (fun u20 =>
              if (u20.1 3) ≤ 99 then
                some (2, u20)
              else
                some (4, u20)) FU s (sI (sI w 2 (nI s)) 3 0) w0 wb g1 hs2 (FU_gt (by omega))
            refine ⟨u', ?_, f1, f2, f3, f4⟩
            rw [e', f2, show (sI (sI w 2 (nI s)) 3 0).1 3 = 0 from rfl, if_neg z]
            by_cases x : 99 < nmV b n FU s 0
            · rw [if_neg (Int32.not_le.mpr x), if_pos x]
            · rw [if_pos (Int32.not_lt.mp x), if_neg x]
        obtain ⟨u', e', f1, f2, f3, f4⟩ := K
        rw [e']
        refine ⟨u', rfl, f1, f3 2 (by decide) (by decide), f2, fun k hk => (f3 k (by omega) (by omega)).trans ((if_neg (by omega)).trans ((if_neg (by omega)).trans (g2 k (by omega)))), f4.trans g3⟩
    · rw [show bI true = 1 from rfl, i1]
      simp only [if_true]
      have hE : scF leB b n FU s ≤ n := scF_le FU s hs2
      have hG : s ≤ scF leB b n FU s := scF_ge FU s
      have K : ∃ u', f_X5_readWord (sI (sI w 2 (nI s)) 3 0) = some (1, u') ∧ on2 (sI (sI w 2 (nI s)) 3 0) u' 1 3 (nI (scF leB b n FU s)) (if scF leB b n FU s - s = 1 then b s else 0) := by
        unfold f_X5_readWord
        rw [show (sI (sI w 2 (nI s)) 3 0).1 1 = nI s from g1, oobF (show s < 150 by omega) (by decide), fT, tc_nI (by omega), show (sI (sI w 2 (nI s)) 3 0).2.1 0 = b from wb]
        obtain ⟨u', e', f1, f2, f3⟩ := lettU hn (fun u10 =>
          if ((u10.1 1) - (u10.1 2)) = 1 then
            some (1, (sI u10 3 (b s)))
          else
            some (1, u10)) FU s (sI (sI w 2 (nI s)) 3 0) w0 wb g1 hs2 (FU_gt (by omega))
        rw [e']
        rw [f1, show u'.1 2 = nI s from f2 2 (by decide), pk_sub hG]
        by_cases y : scF leB b n FU s - s = 1
        · rw [if_pos (show nI (scF leB b n FU s - s) = 1 by rw [y]; rfl), if_pos y]
          exact ⟨_, rfl, f1, rfl, fun k h1 h2 => (if_neg h2).trans (f2 k h1), f3⟩
        · rw [if_neg (show ¬ nI (scF leB b n FU s - s) = 1 from fun k => y ((nI_eq (b := 1) (by omega) (by omega)).mp k)), if_neg y]
          exact ⟨_, rfl, f1, f2 3 (by decide), fun k h1 h2 => f2 k h1, f3⟩
      obtain ⟨u', e', f1, f2, f3, f4⟩ := K
      rw [e']
      refine ⟨u', rfl, f1, f3 2 (by decide) (by decide), f2, fun k hk => (f3 k (by omega) (by omega)).trans ((if_neg (by omega)).trans ((if_neg (by omega)).trans (g2 k (by omega)))), f4.trans g3⟩
  · rw [if_neg (nI_nlt (by omega) (by omega))]
    simp only [if_neg q]
    exact ⟨_, rfl, g1, rfl, rfl, fun k hk => (if_neg (by omega)).trans ((if_neg (by omega)).trans (g2 k (by omega))), g3⟩
-- the other side
theorem atV {v : St} (h0 : v.1 5 = nI n) (hb : v.2.1 12 = b) (hn : n ≤ 150) {i : Nat} (hi : i ≤ n) : f_X8_letterAt v (nI i) = some (if i < n then b i else -1) := by
  unfold f_X8_letterAt
  rw [h0]
  by_cases q : i < n
  · rw [if_neg (nI_ge q (by omega)), oobF (show i < 150 by omega) (by decide), fT, tc_nI (by omega), hb, if_pos q]
  · rw [if_pos (nI_le (by omega) (by omega)), if_neg q]
theorem spV (hn : n ≤ 150) (k : St → Option St) : ∀ (F i : Nat) (v : St), v.1 5 = nI n → v.2.1 12 = b → v.1 6 = nI i → i ≤ n → n - i < F → ∃ v', L_X8_next_0 k F v = k v' ∧ on1 v v' 6 (nI (scF spB b n F i))
  | 0, _, _, _, _, _, _, h => absurd h (Nat.not_lt_zero _)
  | F + 1, i, v, h0, hb, h1, hi, hF => by
    rw [L_X8_next_0, h1, atV h0 hb hn hi, Option.bind_some]
    show ∃ v', _ ∧ on1 v v' 6 (nI (if i < n ∧ spB (b i) = true then scF spB b n F (i + 1) else i))
    by_cases q : i < n
    · rw [if_pos q, nI_1]
      by_cases w : b i = 32
      · rw [if_pos w, if_pos (show i < n ∧ spB (b i) = true from ⟨q, decide_eq_true w⟩)]
        obtain ⟨v', e, g⟩ := spV hn k F (i + 1) (sI v 6 (nI (i + 1))) h0 hb rfl q (by omega)
        exact ⟨v', e, g.st⟩
      · rw [if_neg w, if_neg (fun t => w (of_decide_eq_true t.2))]
        exact ⟨v, rfl, on1.rf h1⟩
    · rw [if_neg q, if_neg (show ¬ (-1 : Int32) = 32 by decide), if_neg (fun t => q t.1)]
      exact ⟨v, rfl, on1.rf h1⟩
theorem lettV (hn : n ≤ 150) (k : St → Option St) : ∀ (F i : Nat) (v : St), v.1 5 = nI n → v.2.1 12 = b → v.1 6 = nI i → i ≤ n → n - i < F → ∃ v', L_X8_next_180 k F v = k v' ∧ on1 v v' 6 (nI (scF leB b n F i))
  | 0, _, _, _, _, _, _, h => absurd h (Nat.not_lt_zero _)
  | F + 1, i, v, h0, hb, h1, hi, hF => by
    rw [L_X8_next_180, h1, atV h0 hb hn hi, Option.bind_some, leV, Option.bind_some]
    show ∃ v', _ ∧ on1 v v' 6 (nI (if i < n ∧ leB (b i) = true then scF leB b n F (i + 1) else i))
    by_cases q : i < n
    · rw [if_pos q, nI_1]
      cases w : leB (b i)
      · rw [show bI false = 0 from rfl, i0, if_neg (fun t => Bool.noConfusion t.2)]
        exact ⟨v, rfl, on1.rf h1⟩
      · rw [show bI true = 1 from rfl, i1, if_pos (show i < n ∧ true = true from ⟨q, rfl⟩)]
        obtain ⟨v', e, g⟩ := lettV hn k F (i + 1) (sI v 6 (nI (i + 1))) h0 hb rfl q (by omega)
        exact ⟨v', e, g.st⟩
    · rw [if_neg q, show bI (leB (-1)) = 0 from by decide, i0, if_neg (fun t => q t.1)]
      exact ⟨v, rfl, on1.rf h1⟩
theorem numbV (hn : n ≤ 150) (k : St → Option St) : ∀ (F i : Nat) (v : St), v.1 5 = nI n → v.2.1 12 = b → v.1 6 = nI i → i ≤ n → n - i < F → ∃ v', L_X8_next_67 k F v = k v' ∧ on2 v v' 6 9 (nI (scF diB b n F i)) (nmV b n F i (v.1 9))
  | 0, _, _, _, _, _, _, h => absurd h (Nat.not_lt_zero _)
  | F + 1, i, v, h0, hb, h1, hi, hF => by
    rw [L_X8_next_67, h1, atV h0 hb hn hi, Option.bind_some, diV, Option.bind_some]
    show ∃ v', _ ∧ on2 v v' 6 9 (nI (if i < n ∧ diB (b i) = true then scF diB b n F (i + 1) else i)) (if i < n ∧ diB (b i) = true then nmV b n F (i + 1) (if 99 < v.1 9 then v.1 9 else v.1 9 * 10 + b i - 48) else v.1 9)
    by_cases q : i < n
    · rw [if_pos q, nI_1]
      cases w : diB (b i)
      · rw [show bI false = 0 from rfl, i0, if_neg (fun t => Bool.noConfusion t.2), if_neg (fun t => Bool.noConfusion t.2)]
        exact ⟨v, rfl, h1, rfl, fun _ _ _ => rfl, rfl⟩
      · rw [show bI true = 1 from rfl, i1, if_pos (show i < n ∧ true = true from ⟨q, rfl⟩), if_pos (show i < n ∧ true = true from ⟨q, rfl⟩)]
        by_cases z : 99 < v.1 9
        · simp only [if_pos z, if_neg (Int32.not_le.mpr z)]
          obtain ⟨v', e, g1, g2, g3, g4⟩ := numbV hn k F (i + 1) (sI (sI v 9 (v.1 9)) 6 (nI (i + 1))) h0 hb rfl q (by omega)
          exact ⟨v', e, g1, g2, fun k h1 h2 => (g3 k h1 h2).trans ((if_neg h1).trans (if_neg h2)), g4⟩
        · simp only [if_neg z, if_pos (Int32.not_lt.mp z)]
          rw [Option.bind_some, show 10 * v.1 9 = v.1 9 * 10 from Int32.mul_comm _ _]
          obtain ⟨v', e, g1, g2, g3, g4⟩ := numbV hn k F (i + 1) (sI (sI v 9 (v.1 9 * 10 + b i - 48)) 6 (nI (i + 1))) h0 hb rfl q (by omega)
          exact ⟨v', e, g1, g2, fun k h1 h2 => (g3 k h1 h2).trans ((if_neg h1).trans (if_neg h2)), g4⟩
    · rw [if_neg q, show bI (diB (-1)) = 0 from by decide, i0, if_neg (fun t => q t.1), if_neg (fun t => q t.1)]
      exact ⟨v, rfl, h1, rfl, fun _ _ _ => rfl, rfl⟩
/-- the token held in view by the other side is the one at a -/
def TkV (b : Nat → Int32) (n a : Nat) (v : St) : Prop := v.1 6 = nI (tkE b n a) ∧ v.1 7 = nI (tkS b n a) ∧ v.1 8 = tkK b n a ∧ v.1 9 = tkV b n a
theorem tokV (hn : n ≤ 150) {a : Nat} (ha : a ≤ n) (v : St) (h0 : v.1 5 = nI n) (hb : v.2.1 12 = b) (hp : ∀ i, 0 ≤ b i) (h1 : v.1 6 = nI a) : ∃ v', f_X8_next v = some v' ∧ TkV b n a v' ∧ (∀ k : Nat, k < 6 ∨ 10 ≤ k → v'.1 k = v.1 k) ∧ v'.2 = v.2 := by
  unfold f_X8_next TkV tkE tkS tkV tkK
  obtain ⟨w, e, g1, g2, g3⟩ := spV hn (fun u0 =>
    Option.bind (f_X8_letterAt (sI u0 7 (u0.1 6)) (u0.1 6)) fun r39 =>
    if 0 ≤ r39 then
      Option.bind (f_X8_isFigure r39) fun r61 =>
      if r61 = 0 then
        Option.bind (f_X8_isLetter r39) fun r174 =>
        if r174 = 0 then
          if r39 = 59 then
            some (sI (sI (sI (sI u0 7 (u0.1 6)) 9 0) 8 3) 6 ((u0.1 6) + 1))
          else
            some (sI (sI (sI (sI u0 7 (u0.1 6)) 9 0) 8 4) 6 ((u0.1 6) + 1))
        else
          L_X8_next_180 (fun u180 =>
            if ((u180.1 6) - (u180.1 7)) = 1 then
              some (sI (sI u180 8 1) 9 r39)
            else
              some (sI (sI u180 8 1) 9 0)) FU (sI (sI u0 7 (u0.1 6)) 9 0)
      else
        L_X8_next_67 (fun u67 =>
          if 99 < (u67.1 9) then
            some (sI u67 8 4)
          else
            if r39 = 48 then
              if ((u67.1 6) - (u67.1 7)) ≤ 1 then
                some (sI u67 8 2)
              else
                some (sI u67 8 4)
            else
              some (sI u67 8 2)) FU (sI (sI u0 7 (u0.1 6)) 9 0)
    else
      some (sI (sI (sI u0 7 (u0.1 6)) 9 0) 8 0)) FU a v h0 hb h1 ha (FU_gt (by omega))
  rw [e]
  have hs2 : scF spB b n FU a ≤ n := scF_le FU a ha
  generalize scF spB b n FU a = s at *
  have w0 : w.1 5 = nI n := (g2 5 (by decide)).trans h0
  have wb : w.2.1 12 = b := by rw [g3]; exact hb
  have hat : f_X8_letterAt (sI w 7 (w.1 6)) (w.1 6) = some (if s < n then b s else -1) := by
    rw [g1]; exact atV (v := sI w 7 (nI s)) w0 wb hn hs2
  rw [hat, Option.bind_some, g1]
  by_cases q : s < n
  · simp only [if_pos q]
    rw [if_pos (hp s), diV, Option.bind_some, leV]
    have hx : ¬ (leB (b s) = true ∧ diB (b s) = true) := by
      rintro ⟨k1, k2⟩
      have k3 := (of_decide_eq_true k1).1
      have k4 := (of_decide_eq_true k2).2
      exact k4 (Int32.lt_of_lt_of_le (by decide) (Int32.not_lt.mp k3))
    cases d : diB (b s)
    · rw [show bI false = 0 from rfl, i0, Option.bind_some]
      cases l : leB (b s)
      · rw [show bI false = 0 from rfl, i0]
        simp only [fT]
        by_cases z : b s = 59
        · rw [if_pos z, if_pos z]
          exact ⟨_, rfl, ⟨nI_1 s, rfl, rfl, rfl⟩, fun k hk => (if_neg (by omega)).trans ((if_neg (by omega)).trans ((if_neg (by omega)).trans ((if_neg (by omega)).trans (g2 k (by omega))))), g3⟩
        · rw [if_neg z, if_neg z]
          exact ⟨_, rfl, ⟨nI_1 s, rfl, rfl, rfl⟩, fun k hk => (if_neg (by omega)).trans ((if_neg (by omega)).trans ((if_neg (by omega)).trans ((if_neg (by omega)).trans (g2 k (by omega))))), g3⟩
      · rw [show bI true = 1 from rfl, i1]
        simp only [if_true]
        have hE : scF leB b n FU s ≤ n := scF_le FU s hs2
        have hG : s ≤ scF leB b n FU s := scF_ge FU s
        obtain ⟨v', e', f1, f2, f3⟩ := lettV hn (fun u180 =>
            if ((u180.1 6) - (u180.1 7)) = 1 then
              some (sI (sI u180 8 1) 9 (b s))
            else
              some (sI (sI u180 8 1) 9 0)) FU s (sI (sI w 7 (nI s)) 9 0) w0 wb g1 hs2 (FU_gt (by omega))
        have f7 : v'.1 7 = nI s := f2 7 (by decide)
        rw [e', f1, f7, pk_sub hG]
        by_cases y : scF leB b n FU s - s = 1
        · rw [if_pos (show nI (scF leB b n FU s - s) = 1 by rw [y]; rfl), if_pos y]
          exact ⟨_, rfl, ⟨f1, f7, rfl, rfl⟩, fun k hk => (if_neg (by omega)).trans ((if_neg (by omega)).trans ((f2 k (by omega)).trans ((if_neg (by omega)).trans ((if_neg (by omega)).trans (g2 k (by omega)))))), f3.trans g3⟩
        · rw [if_neg (show ¬ nI (scF leB b n FU s - s) = 1 from fun k => y ((nI_eq (b := 1) (by omega) (by omega)).mp k)), if_neg y]
          exact ⟨_, rfl, ⟨f1, f7, rfl, rfl⟩, fun k hk => (if_neg (by omega)).trans ((if_neg (by omega)).trans ((f2 k (by omega)).trans ((if_neg (by omega)).trans ((if_neg (by omega)).trans (g2 k (by omega)))))), f3.trans g3⟩
    · have l : leB (b s) = false := by
        cases l : leB (b s)
        · rfl
        · exact absurd ⟨l, d⟩ hx
      rw [show bI true = 1 from rfl, i1, l]
      simp only [if_true, fT]
      have hE : scF diB b n FU s ≤ n := scF_le FU s hs2
      have hG : s ≤ scF diB b n FU s := scF_ge FU s
      obtain ⟨v', e', f1, f2, f3, f4⟩ := numbV hn (fun u67 =>
          if 99 < (u67.1 9) then
            some (sI u67 8 4)
          else
            if b s = 48 then
              if ((u67.1 6) - (u67.1 7)) ≤ 1 then
                some (sI u67 8 2)
              else
                some (sI u67 8 4)
            else
              some (sI u67 8 2)) FU s (sI (sI w 7 (nI s)) 9 0) w0 wb g1 hs2 (FU_gt (by omega))
      have f9 : v'.1 9 = nmV b n FU s 0 := f2
      have f7 : v'.1 7 = nI s := f3 7 (by decide) (by decide)
      have R : ∀ z : Int32, (∃ v'', some (sI v' 8 z) = some v'' ∧ (v''.1 6 = nI (scF diB b n FU s) ∧ v''.1 7 = nI s ∧ v''.1 8 = z ∧ v''.1 9 = nmV b n FU s 0) ∧ (∀ k : Nat, k < 6 ∨ 10 ≤ k → v''.1 k = v.1 k) ∧ v''.2 = v.2) := fun z =>
        ⟨_, rfl, ⟨f1, f7, rfl, f9⟩, fun k hk => (if_neg (by omega)).trans ((f3 k (by omega) (by omega)).trans ((if_neg (by omega)).trans ((if_neg (by omega)).trans (g2 k (by omega))))), f4.trans g3⟩
      rw [e', f9, f1, f7, pk_sub hG]
      by_cases x : 99 < nmV b n FU s 0
      · rw [if_pos x, if_pos x]; exact R 4
      · rw [if_neg x, if_neg x]
        by_cases z : b s = 48
        · rw [if_pos z, if_pos z]
          by_cases y : scF diB b n FU s - s ≤ 1
          · rw [if_pos (show nI (scF diB b n FU s - s) ≤ 1 from nI_le (b := 1) y (by omega)), if_pos y]; exact R 2
          · rw [if_neg (show ¬ nI (scF diB b n FU s - s) ≤ 1 from nI_ge (a := 1) (by omega) (by omega)), if_neg y]; exact R 4
        · rw [if_neg z, if_neg z]; exact R 2
  · simp only [if_neg q]
    rw [if_neg (show ¬ (0 : Int32) ≤ -1 by decide)]
    exact ⟨_, rfl, ⟨g1, rfl, rfl, rfl⟩, fun k hk => (if_neg (by omega)).trans ((if_neg (by omega)).trans ((if_neg (by omega)).trans (g2 k (by omega)))), g3⟩
end TK
