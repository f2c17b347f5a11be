-- ===== items =====
def PU (b : Nat → Int32) (n a : Nat) (u : St) : Prop := u.1 0 = nI n ∧ u.2.1 0 = b ∧ u.1 1 = nI a
def PV (b : Nat → Int32) (n a : Nat) (v : St) : Prop := v.1 5 = nI n ∧ v.2.1 12 = b ∧ TkV b n a v
def okT (b : Nat → Int32) (n a : Nat) (lo hi : Int32) : Prop := tkK b n a = 2 ∧ f_X8_in (tkV b n a) lo hi = some 1
/-- a draft on both sides -/
def DR (u v : St) : Prop := ∃ nc np ns : Nat, (nc ≤ 5 ∧ np ≤ 4 ∧ ns ≤ 4) ∧ (u.1 4 = nI nc ∧ v.1 12 = nI nc) ∧ (u.1 5 = nI np ∧ v.1 13 = nI np) ∧ (u.1 6 = nI ns ∧ v.1 14 = nI ns) ∧
  (∀ x : Nat, x < 24 → u.2.1 1 x = v.2.1 13 x) ∧
  (∀ c : Nat, c < nc → u.2.1 (2 + c) 0 = v.2.1 14 c ∧ u.2.1 (2 + c) 1 = v.2.1 15 c ∧ u.2.1 (2 + c) 2 = v.2.1 16 c ∧ u.2.1 (2 + c) 3 = v.2.1 17 c ∧ (∃ x : Nat, x < 24 ∧ v.2.1 14 c = nI x) ∧ (v.2.1 16 c = 0 ∨ v.2.1 16 c = 1)) ∧
  (∀ p : Nat, p < np → u.2.1 (7 + p) 0 = v.2.1 18 p ∧ u.2.1 (7 + p) 1 = v.2.1 19 p) ∧
  ∀ s : Nat, s < ns → u.2.1 (11 + s) 0 = v.2.1 20 (3 * s) ∧ u.2.1 (11 + s) 1 = v.2.1 20 (3 * s + 1) ∧ u.2.1 (11 + s) 2 = v.2.1 20 (3 * s + 2)
theorem DR.fr {u v u' v' : St} (h : DR u v) (h1 : ∀ k, 4 ≤ k → k ≤ 6 → u'.1 k = u.1 k) (h2 : ∀ j, 1 ≤ j → j ≤ 14 → u'.2.1 j = u.2.1 j) (h3 : ∀ k, 12 ≤ k → k ≤ 14 → v'.1 k = v.1 k) (h4 : ∀ j, 13 ≤ j → j ≤ 20 → v'.2.1 j = v.2.1 j) : DR u' v' := by
  obtain ⟨nc, np, ns, b, ⟨c1, c2⟩, ⟨d1, d2⟩, ⟨e1, e2⟩, f, g, i, j⟩ := h
  refine ⟨nc, np, ns, b, ⟨(h1 4 (by omega) (by omega)).trans c1, (h3 12 (by omega) (by omega)).trans c2⟩, ⟨(h1 5 (by omega) (by omega)).trans d1, (h3 13 (by omega) (by omega)).trans d2⟩, ⟨(h1 6 (by omega) (by omega)).trans e1, (h3 14 (by omega) (by omega)).trans e2⟩, fun x hx => ?_, fun c hc => ?_, fun p hp => ?_, fun s hs => ?_⟩
  · rw [h2 1 (by omega) (by omega), h4 13 (by omega) (by omega)]; exact f x hx
  · rw [h2 (2 + c) (by omega) (by omega), h4 14 (by omega) (by omega), h4 15 (by omega) (by omega), h4 16 (by omega) (by omega), h4 17 (by omega) (by omega)]; exact g c hc
  · rw [h2 (7 + p) (by omega) (by omega), h4 18 (by omega) (by omega), h4 19 (by omega) (by omega)]; exact i p hp
  · rw [h2 (11 + s) (by omega) (by omega), h4 20 (by omega) (by omega)]; exact j s hs
/-- what an item may change -/
def FrU (u u' : St) : Prop := (∀ k : Nat, k = 0 ∨ 7 ≤ k → u'.1 k = u.1 k) ∧ (∀ j : Nat, j = 0 ∨ 16 ≤ j → u'.2.1 j = u.2.1 j) ∧ u'.2.2 = u.2.2
def FrV (v v' : St) : Prop := (∀ k : Nat, k < 6 ∨ k = 11 → v'.1 k = v.1 k) ∧ (∀ j : Nat, j < 13 → v'.2.1 j = v.2.1 j) ∧ v'.2.2 = v.2.2
theorem FrU.rf {u : St} : FrU u u := ⟨fun _ _ => rfl, fun _ _ => rfl, rfl⟩
theorem FrV.rf {u : St} : FrV u u := ⟨fun _ _ => rfl, fun _ _ => rfl, rfl⟩
theorem FrU.tr {u v w : St} (h : FrU u v) (g : FrU v w) : FrU u w := ⟨fun k hk => (g.1 k hk).trans (h.1 k hk), fun k hk => (g.2.1 k hk).trans (h.2.1 k hk), g.2.2.trans h.2.2⟩
theorem FrV.tr {u v w : St} (h : FrV u v) (g : FrV v w) : FrV u w := ⟨fun k hk => (g.1 k hk).trans (h.1 k hk), fun k hk => (g.2.1 k hk).trans (h.2.1 k hk), g.2.2.trans h.2.2⟩
theorem TkU.fr {b : Nat → Int32} {n a : Nat} {u u' : St} (h : TkU b n a u u') : FrU u u' := ⟨fun k hk => h.2.2.2.1 k (by omega), fun j _ => by rw [h.2.2.2.2], by rw [h.2.2.2.2]⟩
/-- outcome of an item: both read it and stand at the same place, or both fail at the same token -/
def ItemR (b : Nat → Int32) (n a : Nat) (u v : St) (A : Option (Int32 × St)) (B : Option St) : Prop :=
  (∃ (u' v' : St) (a' : Nat), A = some (1, u') ∧ B = some v' ∧ (a ≤ a' ∧ a' ≤ n) ∧ PU b n a' u' ∧ PV b n a' v' ∧ v'.1 10 = 0 ∧ DR u' v' ∧ FrU u u' ∧ FrV v v') ∨
  ∃ (u' v' : St) (s : Nat), s ≤ n ∧ A = some (0, u') ∧ B = some v' ∧ v'.1 10 = 1 ∧ u'.1 2 = nI s ∧ v'.1 7 = nI s ∧ FrU u u' ∧ FrV v v'
section IT
variable {n : Nat} {b : Nat → Int32}
theorem takes_no (v : St) (lo hi : Int32) (h : ¬ (v.1 10 = 0 ∧ v.1 8 = 2 ∧ f_X8_in (v.1 9) lo hi = some 1)) : f_X8_takesNumber v lo hi = some (0, sI v 10 1) := by
  unfold f_X8_takesNumber
  by_cases q : v.1 10 = 0
  · rw [if_pos q]
    by_cases w : v.1 8 = 2
    · rw [if_pos w]
      rcases in_cases (v.1 9) lo hi with ⟨e, -⟩ | e
      · exact absurd ⟨q, w, e⟩ h
      · rw [e, Option.bind_some, i0]
    · rw [if_neg w]
  · rw [if_neg q]
theorem takes_bad {v : St} {a : Nat} {lo hi : Int32} (hv : PV b n a v) (h : ¬ okT b n a lo hi) : f_X8_takesNumber v lo hi = some (0, sI v 10 1) := by
  refine takes_no v lo hi fun k => h ⟨?_, ?_⟩
  · rw [← hv.2.2.2.2.1]; exact k.2.1
  · rw [← hv.2.2.2.2.2]; exact k.2.2
theorem takes_wr {v : St} {lo hi : Int32} (h : v.1 10 = 1) : f_X8_takesNumber v lo hi = some (0, sI v 10 1) := takes_no v lo hi fun k => by rw [h] at k; exact absurd k.1 (by decide)
theorem takes_ok (hn : n ≤ 150) (hp : ∀ i, 0 ≤ b i) {v : St} {a : Nat} {lo hi : Int32} (ha : a ≤ n) (hv : PV b n a v) (h0 : v.1 10 = 0) (h : okT b n a lo hi) :
    ∃ v', f_X8_takesNumber v lo hi = some (tkV b n a, v') ∧ PV b n (tkE b n a) v' ∧ v'.1 10 = 0 ∧ (∀ k : Nat, k < 6 ∨ 11 ≤ k → v'.1 k = v.1 k) ∧ v'.2 = v.2 := by
  obtain ⟨h1, h2, h3, h4, h5, h6⟩ := hv
  obtain ⟨v', e, t, f1, f2⟩ := tokV hn (tkE_le ha).1 (sI v 10 0) h1 h2 hp h3
  unfold f_X8_takesNumber
  rw [if_pos h0, h5, h6, if_pos h.1, h.2, Option.bind_some, i1, e]
  exact ⟨v', rfl, ⟨(f1 5 (by omega)).trans h1, by rw [f2]; exact h2, t⟩, f1 10 (by omega), fun k hk => (f1 k (by omega)).trans (if_neg (by omega)), f2⟩
/-- class side: one number of an item -/
def FuR (u u' : St) : Prop := (∀ k : Nat, k = 0 ∨ 4 ≤ k → u'.1 k = u.1 k) ∧ (∀ j : Nat, j ≠ 15 → u'.2.1 j = u.2.1 j) ∧ u'.2.2 = u.2.2
theorem FuR.tr {u v w : St} (h : FuR u v) (g : FuR v w) : FuR u w := ⟨fun k hk => (g.1 k hk).trans (h.1 k hk), fun k hk => (g.2.1 k hk).trans (h.2.1 k hk), g.2.2.trans h.2.2⟩
theorem FuR.fr {u u' : St} (h : FuR u u') : FrU u u' := ⟨fun k hk => h.1 k (by omega), fun j hj => h.2.1 j (by omega), h.2.2⟩
def loB (u : St) (it j : Nat) : Int32 := if it = 3 ∧ j = 2 then u.2.1 15 1 else kLOW (4 * it + j)
theorem may_ok (u : St) {it j : Nat} (hi : it < 4) (hj : j < 4) (h1 : it = 3 → j = 2 → 0 ≤ u.2.1 15 1) (x : Int32) : f_X4_mayBe u (nI it) (nI j) x = some (bI (decide (f_X8_in x (loB u it j) (kHIG (4 * it + j)) = some 1))) := by
  have B : ∀ lo hi : Int32, (Option.bind (f_X8_in x lo hi) fun r41 => if nb r41 then some r41 else none) = some (bI (decide (f_X8_in x lo hi = some 1))) := fun lo hi => by
    rcases in_cases x lo hi with ⟨e, -⟩ | e <;> rw [e] <;> rfl
  have e16 : nI it * 4 + nI j = nI (4 * it + j) := by rw [show nI it * 4 = nI (it * 4) from pk_mul it 4, nI_add, Nat.mul_comm]
  unfold f_X4_mayBe
  rw [e16, oobF (show 4 * it + j < 16 by omega) (by decide), fT, tc_nI (by omega), in_eq, B]
  unfold loB
  by_cases q : it = 3
  · rw [if_pos (show nI it = 3 by rw [q]; rfl)]
    by_cases w : j = 2
    · rw [if_pos (show nI j = 2 by rw [w]; rfl), if_pos (show it = 3 ∧ j = 2 from ⟨q, w⟩)]
      have h2 := h1 q w
      subst q; subst w
      show (if u.2.1 15 1 ≤ x then some (bI (decide (f_X8_in x 0 29 = some 1))) else some 0) = some (bI (decide (f_X8_in x (u.2.1 15 1) 29 = some 1)))
      unfold f_X8_in
      by_cases z : u.2.1 15 1 ≤ x
      · rw [if_pos z, if_neg (Int32.not_lt.mpr z), if_neg (Int32.not_lt.mpr (Int32.le_trans h2 z))]
      · rw [if_neg z, if_pos (Int32.not_le.mp z)]; rfl
    · rw [if_neg (show ¬ nI j = 2 from fun k => w ((nI_eq (b := 2) (by omega) (by omega)).mp k)), if_neg (fun k => w k.2)]
  · rw [if_neg (show ¬ nI it = 3 from fun k => q ((nI_eq (b := 3) (by omega) (by omega)).mp k)), if_neg (fun k => q k.1)]
def cnt (it : Nat) : Nat := [2, 4, 2, 3].getD it 0
theorem cnt_ok : ∀ it, it < 4 → kNUM it = nI (cnt it) ∧ cnt it ≤ 4 := by decide
theorem rd_ok (hn : n ≤ 150) (K : Int32 → St → Option (Int32 × St)) (F : Nat) {it j a : Nat} {u : St} (hi : it < 4) (hj : j < cnt it) (ha : a ≤ n) (hu : PU b n a u) (h1 : it = 3 → j = 2 → 0 ≤ u.2.1 15 1) (h : okT b n a (loB u it j) (kHIG (4 * it + j))) :
    ∃ u', L_X4_readItem_24 K (nI it) (F + 1) (nI j) u = L_X4_readItem_24 K (nI it) F (nI (j + 1)) u' ∧ PU b n (tkE b n a) u' ∧ u'.2.1 15 = upd (u.2.1 15) j (tkV b n a) ∧ FuR u u' := by
  obtain ⟨c1, c2⟩ := cnt_ok it hi
  obtain ⟨w, e, t1, t2, t3, t4, t5⟩ := tokU hn ha u hu.1 hu.2.1 hu.2.2
  rw [L_X4_readItem_24, oobF hi (by decide), fT, tc_nI (by omega), c1, if_neg (nI_ge hj (by omega)), e, Option.bind_some]
  dsimp only
  rw [if_pos h.1, t3, may_ok w hi (by omega) (by rw [t5]; exact h1), Option.bind_some, show loB w it j = loB u it j by unfold loB; rw [t5], h.2, show bI (decide (some (1 : Int32) = some 1)) = 1 from rfl, i1, oobF (show j < 4 by omega) (by decide), fT, tc_nI (by omega), nI_1]
  refine ⟨_, rfl, ⟨(t4 0 (by omega)).trans hu.1, by rw [sA_ne (by decide), t5]; exact hu.2.1, t1⟩, by rw [sA_eq, t5], fun k hk => t4 k (by omega), fun k hk => by rw [sA_ne hk, t5], by show w.2.2 = u.2.2; rw [t5]⟩
theorem rd_no (hn : n ≤ 150) (K : Int32 → St → Option (Int32 × St)) (F : Nat) {it j a : Nat} {u : St} (hi : it < 4) (hj : j < cnt it) (ha : a ≤ n) (hu : PU b n a u) (h1 : it = 3 → j = 2 → 0 ≤ u.2.1 15 1) (h : ¬ okT b n a (loB u it j) (kHIG (4 * it + j))) :
    ∃ u', L_X4_readItem_24 K (nI it) (F + 1) (nI j) u = some (0, u') ∧ u'.1 2 = nI (tkS b n a) ∧ FuR u u' := by
  obtain ⟨c1, c2⟩ := cnt_ok it hi
  obtain ⟨w, e, t1, t2, t3, t4, t5⟩ := tokU hn ha u hu.1 hu.2.1 hu.2.2
  rw [L_X4_readItem_24, oobF hi (by decide), fT, tc_nI (by omega), c1, if_neg (nI_ge hj (by omega)), e, Option.bind_some]
  dsimp only
  have fr : FuR u w := ⟨fun k hk => t4 k (by omega), fun k hk => by rw [t5], by rw [t5]⟩
  by_cases q : tkK b n a = 2
  · rw [if_pos q, t3, may_ok w hi (by omega) (by rw [t5]; exact h1), Option.bind_some, show loB w it j = loB u it j by unfold loB; rw [t5], decide_eq_false (fun k => h ⟨q, k⟩), show bI false = 0 from rfl, i0]
    exact ⟨w, rfl, t2, fr⟩
  · rw [if_neg q]
    exact ⟨w, rfl, t2, fr⟩
theorem rd_end (K : Int32 → St → Option (Int32 × St)) (F : Nat) {it : Nat} {u : St} (hi : it < 4) : L_X4_readItem_24 K (nI it) (F + 1) (nI (cnt it)) u = K (nI (cnt it)) u := by
  obtain ⟨c1, c2⟩ := cnt_ok it hi
  rw [L_X4_readItem_24, oobF hi (by decide), fT, tc_nI (by omega), c1, if_pos (Int32.le_refl _)]
/-- what follows the numbers, class side -/
def afterU (it : Nat) : Int32 → St → Option (Int32 × St) := fun x3 u24 =>
  Option.bind (f_X5_nextToken u24) fun r75 =>
  if r75.1 = 3 then
    Option.bind (f_X4_tell r75.2 (nI it)) fun r86 =>
    some (1, r86)
  else
    some (0, r75.2)
def afterV (w : St) : Option St :=
  if (w.1 10) = 0 then
    if (w.1 8) = 3 then
      Option.bind (f_X8_next (sI w 10 0)) fun r68 =>
      some r68
    else
      some (sI w 10 1)
  else
    some (sI w 10 1)
theorem afterV_wr {w : St} (h : w.1 10 = 1) : ∃ v', afterV w = some v' ∧ v'.1 10 = 1 ∧ v'.1 7 = w.1 7 ∧ FrV w v' := by
  unfold afterV
  rw [h, i1]
  exact ⟨_, rfl, rfl, rfl, fun k hk => if_neg (by omega), fun j hj => rfl, rfl⟩
theorem semi_ok (hn : n ≤ 150) (hp : ∀ i, 0 ≤ b i) {it a0 a : Nat} {u0 v0 u w : St} {x : Int32} (ha : a ≤ n) (ha0 : a0 ≤ a) (hu : PU b n a u) (hw : PV b n a w) (h0 : w.1 10 = 0) (fu0 : FrU u0 u) (fv0 : FrV v0 w)
    (ht : ∀ u1 : St, (∀ k : Nat, 4 ≤ k → u1.1 k = u.1 k) → u1.2 = u.2 → ∃ u2, f_X4_tell u1 (nI it) = some u2 ∧ u2.1 1 = u1.1 1 ∧ FrU u1 u2 ∧ DR u2 w) :
    ItemR b n a0 u0 v0 (afterU it x u) (afterV w) := by
  obtain ⟨u1, e, t1, t2, t3, t4, t5⟩ := tokU hn ha u hu.1 hu.2.1 hu.2.2
  have tf : FrU u u1 := TkU.fr ⟨t1, t2, t3, t4, t5⟩
  obtain ⟨h1, h2, h3, h4, h5, h6⟩ := hw
  unfold afterU afterV
  rw [e, Option.bind_some, if_pos h0, h5]
  dsimp only
  by_cases q : tkK b n a = 3
  · rw [if_pos q, if_pos q]
    obtain ⟨u2, e2, g1, g2, g3⟩ := ht u1 (fun k hk => t4 k (by omega)) t5
    obtain ⟨v', e3, s1, s2, s3⟩ := tokV hn (tkE_le ha).1 (sI w 10 0) h1 h2 hp h3
    rw [e2, e3]
    have hq := tkE_le (b := b) ha
    refine Or.inl ⟨u2, v', tkE b n a, rfl, rfl, ⟨by omega, hq.1⟩, ⟨(g2.1 0 (by omega)).trans ((t4 0 (by omega)).trans hu.1), (g2.2.1 0 (by omega)).trans (by rw [t5]; exact hu.2.1), g1.trans t1⟩, ⟨(s2 5 (by omega)).trans h1, by rw [s3]; exact h2, s1⟩, s2 10 (by omega), g3.fr (fun _ _ _ => rfl) (fun _ _ _ => rfl) (fun k k1 k2 => (s2 k (by omega)).trans (if_neg (by omega))) (fun j _ _ => by rw [s3]; rfl), fu0.tr (tf.tr g2), fv0.tr ⟨fun k hk => (s2 k (by omega)).trans (if_neg (by omega)), fun j _ => by rw [s3]; rfl, by rw [s3]; rfl⟩⟩
  · rw [if_neg q, if_neg q]
    exact Or.inr ⟨u1, _, tkS b n a, (tkS_le ha).2, rfl, rfl, rfl, t2, h4, fu0.tr tf, fv0.tr ⟨fun k hk => if_neg (by omega), fun j hj => rfl, rfl⟩⟩
end IT
