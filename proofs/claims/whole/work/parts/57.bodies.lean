-- ===== the four kinds of items =====
theorem FrV.sA {v : St} {r : Nat} {f : Nat → Int32} (h : 13 ≤ r) : FrV v (sA v r f) := ⟨fun k hk => rfl, fun j hj => sA_ne (by omega), rfl⟩
theorem FrV.sI {v : St} {r : Nat} {x : Int32} (h : 6 ≤ r) (h2 : r ≠ 11) : FrV v (sI v r x) := ⟨fun k hk => if_neg (by omega), fun j hj => rfl, rfl⟩
section BO
variable {n : Nat} {b : Nat → Int32}
def badT (b : Nat → Int32) (n a : Nat) (w : St) : Prop := w.1 10 = 1 ∧ w.1 7 = nI (tkS b n a)
theorem takes_any (hn : n ≤ 150) (hp : ∀ i, 0 ≤ b i) (w : St) (lo hi : Int32) {a : Nat} {B : Prop} (ha : a ≤ n) (hw : (B ∧ PV b n a w ∧ w.1 10 = 0) ∨ (¬ B ∧ w.1 10 = 1)) :
    ∃ x v', f_X8_takesNumber w lo hi = some (x, v') ∧ (∀ k : Nat, k < 6 ∨ 11 ≤ k → v'.1 k = w.1 k) ∧ v'.2 = w.2 ∧ (B ∧ okT b n a lo hi → x = tkV b n a) ∧ (¬ (B ∧ okT b n a lo hi) → x = 0) ∧
      ((B ∧ okT b n a lo hi ∧ PV b n (tkE b n a) v' ∧ v'.1 10 = 0) ∨ (¬ (B ∧ okT b n a lo hi) ∧ v'.1 10 = 1)) ∧ (B → ¬ okT b n a lo hi → badT b n a v') ∧ (¬ B → v'.1 7 = w.1 7) := by
  rcases hw with ⟨hB, hw, h0⟩ | ⟨hB, h1⟩
  · by_cases q : okT b n a lo hi
    · obtain ⟨v', e, f1, f2, f3, f4⟩ := takes_ok hn hp ha hw h0 q
      exact ⟨_, v', e, f3, f4, fun _ => rfl, fun k => absurd ⟨hB, q⟩ k, Or.inl ⟨hB, q, f1, f2⟩, fun _ k => absurd q k, fun k => absurd hB k⟩
    · refine ⟨_, _, takes_bad hw q, fun k hk => if_neg (by omega), rfl, fun k => absurd k.2 q, fun _ => rfl, Or.inr ⟨fun k => q k.2, rfl⟩, fun _ _ => ⟨rfl, hw.2.2.2.1⟩, fun k => absurd hB k⟩
  · refine ⟨_, _, takes_wr h1, fun k hk => if_neg (by omega), rfl, fun k => absurd k.1 hB, fun _ => rfl, Or.inr ⟨fun k => hB k.1, rfl⟩, fun k => absurd k hB, fun _ => rfl⟩
theorem PV.sA {a r : Nat} {v : St} {f : Nat → Int32} (h : PV b n a v) (hr : r ≠ 12) : PV b n a (sA v r f) := ⟨h.1, by rw [sA_ne (Ne.symm hr)]; exact h.2.1, h.2.2⟩
theorem PV.sI {a r : Nat} {v : St} {x : Int32} (h : PV b n a v) (hr : 10 ≤ r) : PV b n a (sI v r x) := by
  obtain ⟨h1, h2, h3, h4, h5, h6⟩ := h
  exact ⟨(if_neg (by omega)).trans h1, h2, (if_neg (by omega)).trans h3, (if_neg (by omega)).trans h4, (if_neg (by omega)).trans h5, (if_neg (by omega)).trans h6⟩
theorem ok_nat {a m : Nat} (hm : m < 2 ^ 31) (h : okT b n a 0 (nI m)) : ∃ j, j ≤ m ∧ tkV b n a = nI j := by
  rcases in_cases (tkV b n a) 0 (nI m) with ⟨-, h1, h2⟩ | e
  · exact rng hm h1 h2
  · rw [h.2] at e; exact absurd e (by decide)
theorem FrV_of {v w : St} (h1 : ∀ k : Nat, k < 6 ∨ 11 ≤ k → w.1 k = v.1 k) (h2 : w.2 = v.2) : FrV v w := ⟨fun k hk => h1 k (by omega), fun j hj => by rw [h2], by rw [h2]⟩
theorem roof_b (hn : n ≤ 150) (hp : ∀ i, 0 ≤ b i) {a : Nat} {u v : St} (ha : a ≤ n) (hu : PU b n a u) (hv : PV b n a v) (h0 : v.1 10 = 0) (D : DR u v) :
    ItemR b n a u v (L_X4_readItem_24 (afterU 0) (nI 0) FU 0 u) (Option.bind (f_X8_readRoof v) afterV) := by
  have hq := tkE_le (b := b) ha
  obtain ⟨x0, v1, e1, f1, g1, k1, l1, m1, n1, -⟩ := takes_any hn hp v 0 23 ha (B := True) (Or.inl ⟨trivial, hv, h0⟩)
  have hx0 : ∃ j, j < 24 ∧ x0 = nI j := by
    by_cases q : okT b n a 0 23
    · obtain ⟨j, hj, e⟩ := ok_nat (m := 23) (by decide) q
      exact ⟨j, by omega, (k1 ⟨trivial, q⟩).trans e⟩
    · exact ⟨0, by omega, l1 fun k => q k.2⟩
  obtain ⟨j, hj, hx0⟩ := hx0
  obtain ⟨x1, v2, e2, f2, g2, k2, l2, m2, n2, o2⟩ := takes_any hn hp v1 0 9 hq.1 (B := True ∧ okT b n a 0 23) (m1.imp (fun t => ⟨⟨t.1, t.2.1⟩, t.2.2⟩) id)
  have eW : f_X8_readRoof v = some (sA v2 13 (upd (v2.2.1 13) j x1)) := by
    unfold f_X8_readRoof
    rw [e1, Option.bind_some]
    dsimp only
    rw [e2, Option.bind_some]
    dsimp only
    rw [hx0, oobF hj (by decide), fT, tc_nI (by omega)]
  have F2 : FrV v (sA v2 13 (upd (v2.2.1 13) j x1)) := (FrV_of (fun k hk => (f2 k hk).trans (f1 k hk)) (g2.trans g1)).tr (FrV.sA (by omega))
  rw [eW, Option.bind_some]
  by_cases o0 : okT b n a 0 23
  · obtain ⟨u1, c1, p1, q1, r1⟩ := rd_ok hn (afterU 0) 1999 (it := 0) (j := 0) (by omega) (by decide) ha hu (fun k => absurd k (by decide)) o0
    by_cases o1 : okT b n (tkE b n a) 0 9
    · obtain ⟨u2, c2, p2, q2, r2⟩ := rd_ok hn (afterU 0) 1998 (it := 0) (j := 1) (by omega) (by decide) hq.1 p1 (fun k => absurd k (by decide)) o1
      have c3 := rd_end (afterU 0) 1997 (it := 0) (u := u2) (by omega)
      have hq2 := tkE_le (b := b) hq.1
      rw [show L_X4_readItem_24 (afterU 0) (nI 0) FU 0 u = afterU 0 (nI (cnt 0)) u2 from Eq.trans c1 (Eq.trans c2 c3)]
      rcases m2 with ⟨-, -, m3, m4⟩ | ⟨m3, -⟩
      · refine semi_ok hn hp hq2.1 (by omega) p2 (m3.sA (by decide)) m4 (r1.tr r2).fr F2 fun w w1 w2 => ?_
        have e15 : w.2.1 15 = upd (upd (u.2.1 15) 0 (tkV b n a)) 1 (tkV b n (tkE b n a)) := by rw [w2, q2, q1]
        have y0 : w.2.1 15 0 = nI j := by rw [e15, upN (by decide), upE, ← k1 ⟨trivial, o0⟩, hx0]
        have y1 : w.2.1 15 1 = x1 := by rw [e15, upE, k2 ⟨⟨trivial, o0⟩, o1⟩]
        refine ⟨sA w 1 (upd (w.2.1 1) j x1), ?_, rfl, ⟨fun k hk => rfl, fun i hi => sA_ne (by omega), rfl⟩, ?_⟩
        · unfold f_X4_tell
          rw [if_pos (show nI 0 = 0 from rfl), y0, oobF hj (by decide), fT, tc_nI (by omega), y1]
        · obtain ⟨nc, np, ns, d1, ⟨d2, d3⟩, ⟨d4, d5⟩, ⟨d6, d7⟩, d8, d9, d10, d11⟩ := D
          have wr : ∀ i, i ≠ 15 → i ≠ 1 → (sA w 1 (upd (w.2.1 1) j x1)).2.1 i = u.2.1 i := fun i hi hi1 => by rw [sA_ne hi1, w2, (r1.tr r2).2.1 i hi]
          have wn : ∀ k, 4 ≤ k → (sA w 1 (upd (w.2.1 1) j x1)).1 k = u.1 k := fun k hk => (w1 k hk).trans ((r1.tr r2).1 k (by omega))
          have vr : ∀ i, i ≠ 13 → (sA v2 13 (upd (v2.2.1 13) j x1)).2.1 i = v.2.1 i := fun i hi => by rw [sA_ne hi, g2, g1]
          have vn : ∀ k, 11 ≤ k → (sA v2 13 (upd (v2.2.1 13) j x1)).1 k = v.1 k := fun k hk => (f2 k (by omega)).trans (f1 k (by omega))
          refine ⟨nc, np, ns, d1, ⟨(wn 4 (by omega)).trans d2, (vn 12 (by omega)).trans d3⟩, ⟨(wn 5 (by omega)).trans d4, (vn 13 (by omega)).trans d5⟩, ⟨(wn 6 (by omega)).trans d6, (vn 14 (by omega)).trans d7⟩, fun x hx => ?_, fun c hc => ?_, fun p hp => ?_, fun s hs => ?_⟩
          · rw [sA_eq, sA_eq, g2, g1, w2, (r1.tr r2).2.1 1 (by decide)]
            show (if x = j then x1 else u.2.1 1 x) = (if x = j then x1 else v.2.1 13 x)
            rw [d8 x hx]
          · rw [wr _ (by omega) (by omega), vr _ (by omega), vr _ (by omega), vr _ (by omega), vr _ (by omega)]; exact d9 c hc
          · rw [wr _ (by omega) (by omega), vr _ (by omega), vr _ (by omega)]; exact d10 p hp
          · rw [wr _ (by omega) (by omega), vr _ (by omega)]; exact d11 s hs
      · exact absurd ⟨⟨trivial, o0⟩, o1⟩ m3
    · obtain ⟨u2, c2, p2, r2⟩ := rd_no hn (afterU 0) 1998 (it := 0) (j := 1) (by omega) (by decide) hq.1 p1 (fun k => absurd k (by decide)) o1
      obtain ⟨z1, z2⟩ := n2 ⟨trivial, o0⟩ o1
      obtain ⟨v', z3, z4, z5, z6⟩ := afterV_wr (w := sA v2 13 (upd (v2.2.1 13) j x1)) z1
      exact Or.inr ⟨u2, v', _, (tkS_le hq.1).2, Eq.trans c1 c2, z3, z4, p2, z5.trans z2, (r1.tr r2).fr, F2.tr z6⟩
  · obtain ⟨u1, c1, p1, r1⟩ := rd_no hn (afterU 0) 1999 (it := 0) (j := 0) (by omega) (by decide) ha hu (fun k => absurd k (by decide)) o0
    obtain ⟨z1, z2⟩ := n1 trivial o0
    have z7 : v2.1 7 = v1.1 7 := o2 fun k => o0 k.2
    have z10 : v2.1 10 = 1 := m2.elim (fun k => absurd k.1.2 o0) fun k => k.2
    obtain ⟨v', z3, z4, z5, z6⟩ := afterV_wr (w := sA v2 13 (upd (v2.2.1 13) j x1)) z10
    exact Or.inr ⟨u1, v', _, (tkS_le ha).2, c1, z3, z4, p1, z5.trans (z7.trans z2), r1.fr, F2.tr z6⟩
theorem one_b (hn : n ≤ 150) (hp : ∀ i, 0 ≤ b i) {a : Nat} {u v : St} (ha : a ≤ n) (hu : PU b n a u) (hv : PV b n a v) (h0 : v.1 10 = 0) (D : DR u v) (hr : ¬ 4 ≤ v.1 13) :
    ItemR b n a u v (L_X4_readItem_24 (afterU 2) (nI 2) FU 0 u) (Option.bind (f_X8_readOne v) afterV) := by
  have hq := tkE_le (b := b) ha
  obtain ⟨nc, np, ns, d1, ⟨d2, d3⟩, ⟨d4, d5⟩, ⟨d6, d7⟩, d8, d9, d10, d11⟩ := D
  have hp4 : np < 4 := by
    by_cases w : np < 4
    · exact w
    · exact absurd (by rw [d5]; exact nI_le (a := 4) (by omega) (by omega)) hr
  obtain ⟨x0, v1, e1, f1, g1, k1, l1, m1, n1, -⟩ := takes_any hn hp v 0 23 ha (B := True) (Or.inl ⟨trivial, hv, h0⟩)
  obtain ⟨x1, v2, e2, f2, g2, k2, l2, m2, n2, o2⟩ := takes_any hn hp (sA v1 18 (upd (v1.2.1 18) np x0)) 0 6 hq.1 (B := True ∧ okT b n a 0 23) (m1.imp (fun t => ⟨⟨t.1, t.2.1⟩, t.2.2.1.sA (by decide), t.2.2.2⟩) id)
  have v1n : v1.1 13 = nI np := (f1 13 (by omega)).trans d5
  have v2n : v2.1 13 = nI np := (f2 13 (by omega)).trans v1n
  have eW : f_X8_readOne v = some (sI (sA v2 19 (upd (v2.2.1 19) np (x1 - 3))) 13 (nI (np + 1))) := by
    unfold f_X8_readOne
    rw [e1, Option.bind_some, d5, oobF hp4 (by decide), fT, tc_nI (by omega)]
    dsimp only
    rw [e2, Option.bind_some]
    dsimp only
    rw [v1n, oobF hp4 (by decide), fT, tc_nI (by omega), v2n, nI_1]
  have F2 : FrV v (sI (sA v2 19 (upd (v2.2.1 19) np (x1 - 3))) 13 (nI (np + 1))) := ((FrV_of f1 g1).tr ((FrV.sA (by omega)).tr (FrV_of f2 g2))).tr ((FrV.sA (by omega)).tr (FrV.sI (by omega) (by omega)))
  rw [eW, Option.bind_some]
  by_cases o0 : okT b n a 0 23
  · obtain ⟨u1, c1, p1, q1, r1⟩ := rd_ok hn (afterU 2) 1999 (it := 2) (j := 0) (by omega) (by decide) ha hu (fun k => absurd k (by decide)) o0
    by_cases o1 : okT b n (tkE b n a) 0 6
    · obtain ⟨u2, c2, p2, q2, r2⟩ := rd_ok hn (afterU 2) 1998 (it := 2) (j := 1) (by omega) (by decide) hq.1 p1 (fun k => absurd k (by decide)) o1
      have c3 := rd_end (afterU 2) 1997 (it := 2) (u := u2) (by omega)
      have hq2 := tkE_le (b := b) hq.1
      rw [show L_X4_readItem_24 (afterU 2) (nI 2) FU 0 u = afterU 2 (nI (cnt 2)) u2 from Eq.trans c1 (Eq.trans c2 c3)]
      rcases m2 with ⟨-, -, m3, m4⟩ | ⟨m3, -⟩
      · refine semi_ok hn hp hq2.1 (by omega) p2 ((m3.sA (by decide)).sI (by omega)) m4 (r1.tr r2).fr F2 fun w w1 w2 => ?_
        have e15 : w.2.1 15 = upd (upd (u.2.1 15) 0 (tkV b n a)) 1 (tkV b n (tkE b n a)) := by rw [w2, q2, q1]
        have y0 : w.2.1 15 0 = x0 := by rw [e15, upN (by decide), upE, ← k1 ⟨trivial, o0⟩]
        have y1 : w.2.1 15 1 = x1 := by rw [e15, upE, k2 ⟨⟨trivial, o0⟩, o1⟩]
        have w5 : w.1 5 = nI np := (w1 5 (by omega)).trans (((r1.tr r2).1 5 (by omega)).trans d4)
        refine ⟨sI (sA (sA w (7 + np) (upd (w.2.1 (7 + np)) 0 x0)) (7 + np) (upd (upd (w.2.1 (7 + np)) 0 x0) 1 (x1 - 3))) 5 (nI (np + 1)), ?_, rfl, ⟨fun k hk => if_neg (by omega), fun i hi => (sA_ne (by omega)).trans (sA_ne (by omega)), rfl⟩, ?_⟩
        · unfold f_X4_tell f_X1_addOne
          rw [if_neg (show ¬ nI 2 = 0 by decide), if_neg (show ¬ nI 2 = 1 by decide), if_pos (show nI 2 = 2 from rfl), w5, oobF hp4 (by decide), fT, tc_nI (by omega), y0, y1, nI_1]; rfl
        · rw [sAA]
          have wr : ∀ (f : Nat → Int32) (z : Int32) i, i ≠ 15 → i ≠ 7 + np → (sI (sA w (7 + np) f) 5 z).2.1 i = u.2.1 i := fun f z i hi hi1 => by rw [show (sI (sA w (7 + np) f) 5 z).2.1 i = w.2.1 i from sA_ne hi1, w2, (r1.tr r2).2.1 i hi]
          have wn : ∀ (f : Nat → Int32) (z : Int32) k, 4 ≤ k → k ≠ 5 → (sI (sA w (7 + np) f) 5 z).1 k = u.1 k := fun f z k hk hk5 => (if_neg hk5).trans ((w1 k hk).trans ((r1.tr r2).1 k (by omega)))
          have vr : ∀ i, i ≠ 18 → i ≠ 19 → (sI (sA v2 19 (upd (v2.2.1 19) np (x1 - 3))) 13 (nI (np + 1))).2.1 i = v.2.1 i := fun i hi hi2 => by rw [show (sI (sA v2 19 (upd (v2.2.1 19) np (x1 - 3))) 13 (nI (np + 1))).2.1 i = v2.2.1 i from sA_ne hi2, g2, sA_ne hi, g1]
          have vn : ∀ k, 11 ≤ k → k ≠ 13 → (sI (sA v2 19 (upd (v2.2.1 19) np (x1 - 3))) 13 (nI (np + 1))).1 k = v.1 k := fun k hk hk2 => (if_neg hk2).trans ((f2 k (by omega)).trans (f1 k (by omega)))
          have v18 : (sI (sA v2 19 (upd (v2.2.1 19) np (x1 - 3))) 13 (nI (np + 1))).2.1 18 = upd (v.2.1 18) np x0 := by rw [show (sI (sA v2 19 (upd (v2.2.1 19) np (x1 - 3))) 13 (nI (np + 1))).2.1 18 = v2.2.1 18 from sA_ne (by decide), g2, sA_eq, g1]
          have v19 : (sI (sA v2 19 (upd (v2.2.1 19) np (x1 - 3))) 13 (nI (np + 1))).2.1 19 = upd (v.2.1 19) np (x1 - 3) := by rw [show (sI (sA v2 19 (upd (v2.2.1 19) np (x1 - 3))) 13 (nI (np + 1))).2.1 19 = upd (v2.2.1 19) np (x1 - 3) from sA_eq, g2, sA_ne (by decide), g1]
          refine ⟨nc, np + 1, ns, ⟨d1.1, by omega, d1.2.2⟩, ⟨(wn _ _ 4 (by omega) (by omega)).trans d2, (vn 12 (by omega) (by omega)).trans d3⟩, ⟨rfl, rfl⟩, ⟨(wn _ _ 6 (by omega) (by omega)).trans d6, (vn 14 (by omega) (by omega)).trans d7⟩, fun x hx => ?_, fun c hc => ?_, fun p hp => ?_, fun s hs => ?_⟩
          · rw [wr _ _ _ (by omega) (by omega), vr _ (by omega) (by omega)]; exact d8 x hx
          · rw [wr _ _ _ (by omega) (by omega), vr _ (by omega) (by omega), vr _ (by omega) (by omega), vr _ (by omega) (by omega), vr _ (by omega) (by omega)]; exact d9 c hc
          · rw [v18, v19]
            by_cases q : p = np
            · subst q
              rw [show ∀ (f : Nat → Int32) (z : Int32), (sI (sA w (7 + p) f) 5 z).2.1 (7 + p) = f from fun f z => sA_eq, upE, upE, upN (by decide), upE, upE]; exact ⟨rfl, rfl⟩
            · rw [wr _ _ _ (by omega) (by omega), upN q, upN q]; exact d10 p (by omega)
          · rw [wr _ _ _ (by omega) (by omega), vr _ (by omega) (by omega)]; exact d11 s hs
      · exact absurd ⟨⟨trivial, o0⟩, o1⟩ m3
    · obtain ⟨u2, c2, p2, r2⟩ := rd_no hn (afterU 2) 1998 (it := 2) (j := 1) (by omega) (by decide) hq.1 p1 (fun k => absurd k (by decide)) o1
      obtain ⟨z1, z2⟩ := n2 ⟨trivial, o0⟩ o1
      obtain ⟨v', z3, z4, z5, z6⟩ := afterV_wr (w := sI (sA v2 19 (upd (v2.2.1 19) np (x1 - 3))) 13 (nI (np + 1))) z1
      exact Or.inr ⟨u2, v', _, (tkS_le hq.1).2, Eq.trans c1 c2, z3, z4, p2, z5.trans z2, (r1.tr r2).fr, F2.tr z6⟩
  · obtain ⟨u1, c1, p1, r1⟩ := rd_no hn (afterU 2) 1999 (it := 2) (j := 0) (by omega) (by decide) ha hu (fun k => absurd k (by decide)) o0
    obtain ⟨z1, z2⟩ := n1 trivial o0
    have z7 : v2.1 7 = v1.1 7 := o2 fun k => o0 k.2
    have z10 : v2.1 10 = 1 := m2.elim (fun k => absurd k.1.2 o0) fun k => k.2
    obtain ⟨v', z3, z4, z5, z6⟩ := afterV_wr (w := sI (sA v2 19 (upd (v2.2.1 19) np (x1 - 3))) 13 (nI (np + 1))) z10
    exact Or.inr ⟨u1, v', _, (tkS_le ha).2, c1, z3, z4, p1, z5.trans (z7.trans z2), r1.fr, F2.tr z6⟩
theorem cock_b (hn : n ≤ 150) (hp : ∀ i, 0 ≤ b i) {a : Nat} {u v : St} (ha : a ≤ n) (hu : PU b n a u) (hv : PV b n a v) (h0 : v.1 10 = 0) (D : DR u v) (hr : ¬ 5 ≤ v.1 12) :
    ItemR b n a u v (L_X4_readItem_24 (afterU 1) (nI 1) FU 0 u) (Option.bind (f_X8_readCock v) afterV) := by
  have hq := tkE_le (b := b) ha
  have hq1 := tkE_le (b := b) hq.1
  have hq2 := tkE_le (b := b) hq1.1
  have hq3 := tkE_le (b := b) hq2.1
  obtain ⟨nc, np, ns, d1, ⟨d2, d3⟩, ⟨d4, d5⟩, ⟨d6, d7⟩, d8, d9, d10, d11⟩ := D
  have hp4 : nc < 5 := by
    by_cases w : nc < 5
    · exact w
    · exact absurd (by rw [d3]; exact nI_le (a := 5) (by omega) (by omega)) hr
  obtain ⟨x0, v1, e1, f1, g1, k1, l1, m1, n1, -⟩ := takes_any hn hp v 0 23 ha (B := True) (Or.inl ⟨trivial, hv, h0⟩)
  obtain ⟨x1, v2, e2, f2, g2, k2, l2, m2, n2, o2⟩ := takes_any hn hp (sA v1 14 (upd (v1.2.1 14) nc x0)) 1 5 hq.1 (B := True ∧ okT b n a 0 23) (m1.imp (fun t => ⟨⟨t.1, t.2.1⟩, t.2.2.1.sA (by decide), t.2.2.2⟩) id)
  obtain ⟨x2, v3, e3, f3, g3, k3, l3, m3, n3, o3⟩ := takes_any hn hp (sA v2 15 (upd (v2.2.1 15) nc x1)) 0 1 hq1.1 (B := (True ∧ okT b n a 0 23) ∧ okT b n (tkE b n a) 1 5) (m2.imp (fun t => ⟨⟨t.1, t.2.1⟩, t.2.2.1.sA (by decide), t.2.2.2⟩) id)
  obtain ⟨x3, v4, e4, f4, g4, k4, l4, m4, n4, o4⟩ := takes_any hn hp (sA v3 16 (upd (v3.2.1 16) nc x2)) 0 9 hq2.1 (B := ((True ∧ okT b n a 0 23) ∧ okT b n (tkE b n a) 1 5) ∧ okT b n (tkE b n (tkE b n a)) 0 1) (m3.imp (fun t => ⟨⟨t.1, t.2.1⟩, t.2.2.1.sA (by decide), t.2.2.2⟩) id)
  have v1n : v1.1 12 = nI nc := (f1 12 (by omega)).trans d3
  have v2n : v2.1 12 = nI nc := (f2 12 (by omega)).trans v1n
  have v3n : v3.1 12 = nI nc := (f3 12 (by omega)).trans v2n
  have v4n : v4.1 12 = nI nc := (f4 12 (by omega)).trans v3n
  obtain ⟨W, hW⟩ : ∃ W, W = sI (sA v4 17 (upd (v4.2.1 17) nc x3)) 12 (nI (nc + 1)) := ⟨_, rfl⟩
  have eW : f_X8_readCock v = some W := by
    unfold f_X8_readCock
    rw [e1, Option.bind_some, d3, oobF hp4 (by decide), fT, tc_nI (by omega)]
    dsimp only
    rw [e2, Option.bind_some, v1n, oobF hp4 (by decide), fT, tc_nI (by omega)]
    dsimp only
    rw [e3, Option.bind_some, v2n, oobF hp4 (by decide), fT, tc_nI (by omega)]
    dsimp only
    rw [e4, Option.bind_some, v3n, oobF hp4 (by decide), fT, tc_nI (by omega)]
    dsimp only
    rw [v4n, nI_1, hW]
  have F2 : FrV v W := by
    rw [hW]
    exact ((FrV_of f1 g1).tr ((FrV.sA (by omega)).tr ((FrV_of f2 g2).tr ((FrV.sA (by omega)).tr ((FrV_of f3 g3).tr ((FrV.sA (by omega)).tr (FrV_of f4 g4))))))).tr ((FrV.sA (by omega)).tr (FrV.sI (by omega) (by omega)))
  have W10 : W.1 10 = v4.1 10 := by rw [hW]; rfl
  have W7 : W.1 7 = v4.1 7 := by rw [hW]; rfl
  have bad : ∀ {z : Nat} {u' : St}, z ≤ n → v4.1 10 = 1 → v4.1 7 = nI (tkS b n z) → L_X4_readItem_24 (afterU 1) (nI 1) FU 0 u = some (0, u') → u'.1 2 = nI (tkS b n z) → FuR u u' → ItemR b n a u v (L_X4_readItem_24 (afterU 1) (nI 1) FU 0 u) (Option.bind (f_X8_readCock v) afterV) := by
    intro z u' hz z1 z2 z3 z4 z5
    rw [eW, Option.bind_some, z3]
    obtain ⟨v', y3, y4, y5, y6⟩ := afterV_wr (W10.trans z1)
    exact Or.inr ⟨u', v', _, (tkS_le hz).2, rfl, y3, y4, z4, y5.trans (W7.trans z2), z5.fr, F2.tr y6⟩
  by_cases o0 : okT b n a 0 23
  · obtain ⟨u1, c1, p1, q1, r1⟩ := rd_ok hn (afterU 1) 1999 (it := 1) (j := 0) (by omega) (by decide) ha hu (fun k => absurd k (by decide)) o0
    by_cases o1 : okT b n (tkE b n a) 1 5
    · obtain ⟨u2, c2, p2, q2, r2⟩ := rd_ok hn (afterU 1) 1998 (it := 1) (j := 1) (by omega) (by decide) hq.1 p1 (fun k => absurd k (by decide)) o1
      by_cases p22 : okT b n (tkE b n (tkE b n a)) 0 1
      · obtain ⟨u3, c3, p3, q3, r3⟩ := rd_ok hn (afterU 1) 1997 (it := 1) (j := 2) (by omega) (by decide) hq1.1 p2 (fun k => absurd k (by decide)) p22
        by_cases p33 : okT b n (tkE b n (tkE b n (tkE b n a))) 0 9
        · obtain ⟨u4, c4, p4, q4, r4⟩ := rd_ok hn (afterU 1) 1996 (it := 1) (j := 3) (by omega) (by decide) hq2.1 p3 (fun k => absurd k (by decide)) p33
          have c5 := rd_end (afterU 1) 1995 (it := 1) (u := u4) (by omega)
          have r := ((r1.tr r2).tr r3).tr r4
          rw [eW, Option.bind_some, show L_X4_readItem_24 (afterU 1) (nI 1) FU 0 u = afterU 1 (nI (cnt 1)) u4 from Eq.trans c1 (Eq.trans c2 (Eq.trans c3 (Eq.trans c4 c5)))]
          rcases m4 with ⟨-, -, m5, m6⟩ | ⟨m5, -⟩
          · have PW : PV b n (tkE b n (tkE b n (tkE b n (tkE b n a)))) W := by rw [hW]; exact (m5.sA (by decide)).sI (by omega)
            refine semi_ok hn hp hq3.1 (by omega) p4 PW (W10.trans m6) r.fr F2 fun w w1 w2 => ?_
            have e15 : w.2.1 15 = upd (upd (upd (upd (u.2.1 15) 0 x0) 1 x1) 2 x2) 3 x3 := by rw [w2, q4, q3, q2, q1, k1 ⟨trivial, o0⟩, k2 ⟨⟨trivial, o0⟩, o1⟩, k3 ⟨⟨⟨trivial, o0⟩, o1⟩, p22⟩, k4 ⟨⟨⟨⟨trivial, o0⟩, o1⟩, p22⟩, p33⟩]
            have w5 : w.1 4 = nI nc := (w1 4 (by omega)).trans ((r.1 4 (by omega)).trans d2)
            obtain ⟨X, hX⟩ : ∃ X, X = sI (sA w (2 + nc) (va_cpy (w.2.1 15) (w.2.1 (2 + nc)) 0 0 4)) 4 (nI (nc + 1)) := ⟨_, rfl⟩
            have X1 : ∀ k, k ≠ 4 → X.1 k = w.1 k := fun k hk => by rw [hX]; exact if_neg hk
            have X2 : ∀ i, i ≠ 2 + nc → X.2.1 i = w.2.1 i := fun i hi => by rw [hX]; exact sA_ne hi
            have X3 : ∀ j, j < 4 → X.2.1 (2 + nc) j = w.2.1 15 j := fun j hj => by rw [hX, show (sI (sA w (2 + nc) (va_cpy (w.2.1 15) (w.2.1 (2 + nc)) 0 0 4)) 4 (nI (nc + 1))).2.1 (2 + nc) = va_cpy (w.2.1 15) (w.2.1 (2 + nc)) 0 0 4 from sA_eq]; exact cpy0 hj
            have X4 : X.1 4 = nI (nc + 1) := by rw [hX]; rfl
            refine ⟨X, ?_, X1 1 (by decide), ⟨fun k hk => X1 k (by omega), fun i hi => X2 i (by omega), by rw [hX]; rfl⟩, ?_⟩
            · unfold f_X4_tell f_X1_addCock
              rw [if_neg (show ¬ nI 1 = 0 by decide), if_pos (show nI 1 = 1 from rfl), w5, oobF hp4 (by decide), fT, tc_nI (by omega), nI_1, hX]; rfl
            · have wr : ∀ i, i ≠ 15 → i ≠ 2 + nc → X.2.1 i = u.2.1 i := fun i hi hi1 => by rw [X2 i hi1, w2, r.2.1 i hi]
              have wn : ∀ k, 4 ≤ k → k ≠ 4 → X.1 k = u.1 k := fun k hk hk5 => (X1 k hk5).trans ((w1 k hk).trans (r.1 k (by omega)))
              have vr : ∀ i, i < 14 ∨ 17 < i → W.2.1 i = v.2.1 i := fun i hi => by rw [hW, show (sI (sA v4 17 (upd (v4.2.1 17) nc x3)) 12 (nI (nc + 1))).2.1 i = v4.2.1 i from sA_ne (by omega), g4, sA_ne (by omega), g3, sA_ne (by omega), g2, sA_ne (by omega), g1]
              have vn : ∀ k, 11 ≤ k → k ≠ 12 → W.1 k = v.1 k := fun k hk hk2 => by
                rw [hW]; exact (if_neg hk2).trans ((f4 k (by omega)).trans ((f3 k (by omega)).trans ((f2 k (by omega)).trans (f1 k (by omega)))))
              have e17 : ∀ i, (sI (sA v4 17 (upd (v4.2.1 17) nc x3)) 12 (nI (nc + 1))).2.1 i = (sA v4 17 (upd (v4.2.1 17) nc x3)).2.1 i := fun i => rfl
              have v14 : W.2.1 14 = upd (v.2.1 14) nc x0 := by rw [hW, e17, sA_ne (by decide), g4, sA_ne (by decide), g3, sA_ne (by decide), g2, sA_eq, g1]
              have v15 : W.2.1 15 = upd (v.2.1 15) nc x1 := by rw [hW, e17, sA_ne (by decide), g4, sA_ne (by decide), g3, sA_eq, g2, sA_ne (by decide), g1]
              have v16 : W.2.1 16 = upd (v.2.1 16) nc x2 := by rw [hW, e17, sA_ne (by decide), g4, sA_eq, g3, sA_ne (by decide), g2, sA_ne (by decide), g1]
              have v17 : W.2.1 17 = upd (v.2.1 17) nc x3 := by rw [hW, e17, sA_eq, g4, sA_ne (by decide), g3, sA_ne (by decide), g2, sA_ne (by decide), g1]
              refine ⟨nc + 1, np, ns, ⟨by omega, d1.2.1, d1.2.2⟩, ⟨X4, by rw [hW]; rfl⟩, ⟨(wn 5 (by omega) (by omega)).trans d4, (vn 13 (by omega) (by omega)).trans d5⟩, ⟨(wn 6 (by omega) (by omega)).trans d6, (vn 14 (by omega) (by omega)).trans d7⟩, fun x hx => ?_, fun c hc => ?_, fun p hp => ?_, fun s hs => ?_⟩
              · rw [wr _ (by omega) (by omega), vr _ (by omega)]; exact d8 x hx
              · rw [v14, v15, v16, v17]
                by_cases q : c = nc
                · subst q
                  rw [X3 0 (by omega), X3 1 (by omega), X3 2 (by omega), X3 3 (by omega), e15]
                  rw [show upd (v.2.1 14) c x0 c = x0 from upE, show upd (v.2.1 15) c x1 c = x1 from upE, show upd (v.2.1 16) c x2 c = x2 from upE, show upd (v.2.1 17) c x3 c = x3 from upE]
                  refine ⟨rfl, rfl, rfl, rfl, ?_, ?_⟩
                  · obtain ⟨j, hj, e⟩ := ok_nat (m := 23) (by decide) o0
                    exact ⟨j, by omega, (k1 ⟨trivial, o0⟩).trans e⟩
                  · obtain ⟨j, hj, e⟩ := ok_nat (m := 1) (by decide) p22
                    rw [k3 ⟨⟨⟨trivial, o0⟩, o1⟩, p22⟩, e]
                    rcases (show j = 0 ∨ j = 1 by omega) with rfl | rfl
                    · exact Or.inl rfl
                    · exact Or.inr rfl
                · rw [wr _ (by omega) (by omega), upN q, upN q, upN q, upN q]; exact d9 c (by omega)
              · rw [wr _ (by omega) (by omega), vr _ (by omega), vr _ (by omega)]; exact d10 p hp
              · rw [wr _ (by omega) (by omega), vr _ (by omega)]; exact d11 s hs
          · exact absurd ⟨⟨⟨⟨trivial, o0⟩, o1⟩, p22⟩, p33⟩ m5
        · obtain ⟨u4, c4, p4, r4⟩ := rd_no hn (afterU 1) 1996 (it := 1) (j := 3) (by omega) (by decide) hq2.1 p3 (fun k => absurd k (by decide)) p33
          obtain ⟨z1, z2⟩ := n4 ⟨⟨⟨trivial, o0⟩, o1⟩, p22⟩ p33
          exact bad hq2.1 z1 z2 (Eq.trans c1 (Eq.trans c2 (Eq.trans c3 c4))) p4 (((r1.tr r2).tr r3).tr r4)
      · obtain ⟨u3, c3, p3, r3⟩ := rd_no hn (afterU 1) 1997 (it := 1) (j := 2) (by omega) (by decide) hq1.1 p2 (fun k => absurd k (by decide)) p22
        obtain ⟨z1, z2⟩ := n3 ⟨⟨trivial, o0⟩, o1⟩ p22
        exact bad hq1.1 (m4.elim (fun k => absurd k.1.2 p22) fun k => k.2) ((o4 fun k => p22 k.2).trans z2) (Eq.trans c1 (Eq.trans c2 c3)) p3 ((r1.tr r2).tr r3)
    · obtain ⟨u2, c2, p2, r2⟩ := rd_no hn (afterU 1) 1998 (it := 1) (j := 1) (by omega) (by decide) hq.1 p1 (fun k => absurd k (by decide)) o1
      obtain ⟨z1, z2⟩ := n2 ⟨trivial, o0⟩ o1
      exact bad hq.1 (m4.elim (fun k => absurd k.1.1.2 o1) fun k => k.2) ((o4 fun k => o1 k.1.2).trans ((o3 fun k => o1 k.2).trans z2)) (Eq.trans c1 c2) p2 (r1.tr r2)
  · obtain ⟨u1, c1, p1, r1⟩ := rd_no hn (afterU 1) 1999 (it := 1) (j := 0) (by omega) (by decide) ha hu (fun k => absurd k (by decide)) o0
    obtain ⟨z1, z2⟩ := n1 trivial o0
    exact bad ha (m4.elim (fun k => absurd k.1.1.1.2 o0) fun k => k.2) ((o4 fun k => o0 k.1.1.2).trans ((o3 fun k => o0 k.1.2).trans ((o2 fun k => o0 k.2).trans z2))) c1 p1 r1
theorem smoke_b (hn : n ≤ 150) (hp : ∀ i, 0 ≤ b i) {a : Nat} {u v : St} (ha : a ≤ n) (hu : PU b n a u) (hv : PV b n a v) (h0 : v.1 10 = 0) (D : DR u v) (hr : ¬ 4 ≤ v.1 14) :
    ItemR b n a u v (L_X4_readItem_24 (afterU 3) (nI 3) FU 0 u) (Option.bind (f_X8_readSmoke v) afterV) := by
  have hq := tkE_le (b := b) ha
  have hq1 := tkE_le (b := b) hq.1
  have hq2 := tkE_le (b := b) hq1.1
  obtain ⟨nc, np, ns, d1, ⟨d2, d3⟩, ⟨d4, d5⟩, ⟨d6, d7⟩, d8, d9, d10, d11⟩ := D
  have hp4 : ns < 4 := by
    by_cases w : ns < 4
    · exact w
    · exact absurd (by rw [d7]; exact nI_le (a := 4) (by omega) (by omega)) hr
  obtain ⟨x0, v1, e1, f1, g1, k1, l1, m1, n1, -⟩ := takes_any hn hp v 0 23 ha (B := True) (Or.inl ⟨trivial, hv, h0⟩)
  obtain ⟨x1, v2, e2, f2, g2, k2, l2, m2, n2, o2⟩ := takes_any hn hp (sA v1 20 (upd (v1.2.1 20) (3 * ns) x0)) 0 29 hq.1 (B := True ∧ okT b n a 0 23) (m1.imp (fun t => ⟨⟨t.1, t.2.1⟩, t.2.2.1.sA (by decide), t.2.2.2⟩) id)
  obtain ⟨x2, v3, e3, f3, g3, k3, l3, m3, n3, o3⟩ := takes_any hn hp (sA v2 20 (upd (v2.2.1 20) (3 * ns + 1) x1)) x1 29 hq1.1 (B := (True ∧ okT b n a 0 23) ∧ okT b n (tkE b n a) 0 29) (m2.imp (fun t => ⟨⟨t.1, t.2.1⟩, t.2.2.1.sA (by decide), t.2.2.2⟩) id)
  have v1n : v1.1 14 = nI ns := (f1 14 (by omega)).trans d7
  have v2n : v2.1 14 = nI ns := (f2 14 (by omega)).trans v1n
  have v3n : v3.1 14 = nI ns := (f3 14 (by omega)).trans v2n
  obtain ⟨W, hW⟩ : ∃ W, W = sI (sA v3 20 (upd (v3.2.1 20) (3 * ns + 2) x2)) 14 (nI (ns + 1)) := ⟨_, rfl⟩
  have eW : f_X8_readSmoke v = some W := by
    unfold f_X8_readSmoke
    rw [e1, Option.bind_some, d7, show (3 : Int32) * nI ns = nI (3 * ns) from pk_mul 3 ns, show nI (3 * ns) + 1 = nI (3 * ns + 1) from nI_1 _, show nI (3 * ns) + 2 = nI (3 * ns + 2) from nI_add _ 2, oobF (show 3 * ns < 12 by omega) (by decide), oobF (show 3 * ns + 1 < 12 by omega) (by decide), oobF (show 3 * ns + 2 < 12 by omega) (by decide), fT, tc_nI (by omega), tc_nI (by omega), tc_nI (by omega)]
    dsimp only
    rw [e2, Option.bind_some, fT]
    dsimp only
    rw [upE, e3, Option.bind_some, fT]
    dsimp only
    rw [v3n, nI_1, hW]
  have F2 : FrV v W := by
    rw [hW]
    exact ((FrV_of f1 g1).tr ((FrV.sA (by omega)).tr ((FrV_of f2 g2).tr ((FrV.sA (by omega)).tr (FrV_of f3 g3))))).tr ((FrV.sA (by omega)).tr (FrV.sI (by omega) (by omega)))
  have W10 : W.1 10 = v3.1 10 := by rw [hW]; rfl
  have W7 : W.1 7 = v3.1 7 := by rw [hW]; rfl
  have bad : ∀ {z : Nat} {u' : St}, z ≤ n → v3.1 10 = 1 → v3.1 7 = nI (tkS b n z) → L_X4_readItem_24 (afterU 3) (nI 3) FU 0 u = some (0, u') → u'.1 2 = nI (tkS b n z) → FuR u u' → ItemR b n a u v (L_X4_readItem_24 (afterU 3) (nI 3) FU 0 u) (Option.bind (f_X8_readSmoke v) afterV) := by
    intro z u' hz z1 z2 z3 z4 z5
    rw [eW, Option.bind_some, z3]
    obtain ⟨v', y3, y4, y5, y6⟩ := afterV_wr (W10.trans z1)
    exact Or.inr ⟨u', v', _, (tkS_le hz).2, rfl, y3, y4, z4, y5.trans (W7.trans z2), z5.fr, F2.tr y6⟩
  by_cases o0 : okT b n a 0 23
  · obtain ⟨u1, c1, p1, q1, r1⟩ := rd_ok hn (afterU 3) 1999 (it := 3) (j := 0) (by omega) (by decide) ha hu (fun _ k => absurd k (by decide)) o0
    by_cases o1 : okT b n (tkE b n a) 0 29
    · obtain ⟨u2, c2, p2, q2, r2⟩ := rd_ok hn (afterU 3) 1998 (it := 3) (j := 1) (by omega) (by decide) hq.1 p1 (fun _ k => absurd k (by decide)) o1
      have hx1 : u2.2.1 15 1 = x1 := by rw [q2, upE, k2 ⟨⟨trivial, o0⟩, o1⟩]
      have hx1p : 0 ≤ u2.2.1 15 1 := by
        obtain ⟨j, hj, e⟩ := ok_nat (m := 29) (by decide) o1
        rw [hx1, k2 ⟨⟨trivial, o0⟩, o1⟩, e]; exact nI_pos' (by omega)
      have lo2 : okT b n (tkE b n (tkE b n a)) (loB u2 3 2) (kHIG (4 * 3 + 2)) ↔ okT b n (tkE b n (tkE b n a)) x1 29 := by
        rw [show loB u2 3 2 = x1 from hx1]; exact Iff.rfl
      by_cases p22 : okT b n (tkE b n (tkE b n a)) x1 29
      · obtain ⟨u3, c3, p3, q3, r3⟩ := rd_ok hn (afterU 3) 1997 (it := 3) (j := 2) (by omega) (by decide) hq1.1 p2 (fun _ _ => hx1p) (lo2.mpr p22)
        have c5 := rd_end (afterU 3) 1996 (it := 3) (u := u3) (by omega)
        have r := (r1.tr r2).tr r3
        rw [eW, Option.bind_some, show L_X4_readItem_24 (afterU 3) (nI 3) FU 0 u = afterU 3 (nI (cnt 3)) u3 from Eq.trans c1 (Eq.trans c2 (Eq.trans c3 c5))]
        rcases m3 with ⟨-, -, m5, m6⟩ | ⟨m5, -⟩
        · have PW : PV b n (tkE b n (tkE b n (tkE b n a))) W := by rw [hW]; exact (m5.sA (by decide)).sI (by omega)
          refine semi_ok hn hp hq2.1 (by omega) p3 PW (W10.trans m6) r.fr F2 fun w w1 w2 => ?_
          have e15 : w.2.1 15 = upd (upd (upd (u.2.1 15) 0 x0) 1 x1) 2 x2 := by rw [w2, q3, q2, q1, k1 ⟨trivial, o0⟩, k2 ⟨⟨trivial, o0⟩, o1⟩, k3 ⟨⟨⟨trivial, o0⟩, o1⟩, p22⟩]
          have w5 : w.1 6 = nI ns := (w1 6 (by omega)).trans ((r.1 6 (by omega)).trans d6)
          obtain ⟨X, hX⟩ : ∃ X, X = sI (sA w (11 + ns) (va_cpy (w.2.1 15) (w.2.1 (11 + ns)) 0 0 3)) 6 (nI (ns + 1)) := ⟨_, rfl⟩
          have X1 : ∀ k, k ≠ 6 → X.1 k = w.1 k := fun k hk => by rw [hX]; exact if_neg hk
          have X2 : ∀ i, i ≠ 11 + ns → X.2.1 i = w.2.1 i := fun i hi => by rw [hX]; exact sA_ne hi
          have X3 : ∀ j, j < 3 → X.2.1 (11 + ns) j = w.2.1 15 j := fun j hj => by rw [hX, show (sI (sA w (11 + ns) (va_cpy (w.2.1 15) (w.2.1 (11 + ns)) 0 0 3)) 6 (nI (ns + 1))).2.1 (11 + ns) = va_cpy (w.2.1 15) (w.2.1 (11 + ns)) 0 0 3 from sA_eq]; exact cpy0 hj
          have X4 : X.1 6 = nI (ns + 1) := by rw [hX]; rfl
          refine ⟨X, ?_, X1 1 (by decide), ⟨fun k hk => X1 k (by omega), fun i hi => X2 i (by omega), by rw [hX]; rfl⟩, ?_⟩
          · unfold f_X4_tell f_X1_addSmoke
            rw [if_neg (show ¬ nI 3 = 0 by decide), if_neg (show ¬ nI 3 = 1 by decide), if_neg (show ¬ nI 3 = 2 by decide), w5, oobF hp4 (by decide), fT, tc_nI (by omega), nI_1, hX]; rfl
          · have wr : ∀ i, i ≠ 15 → i ≠ 11 + ns → X.2.1 i = u.2.1 i := fun i hi hi1 => by rw [X2 i hi1, w2, r.2.1 i hi]
            have wn : ∀ k, 4 ≤ k → k ≠ 6 → X.1 k = u.1 k := fun k hk hk5 => (X1 k hk5).trans ((w1 k hk).trans (r.1 k (by omega)))
            have e17 : ∀ i, (sI (sA v3 20 (upd (v3.2.1 20) (3 * ns + 2) x2)) 14 (nI (ns + 1))).2.1 i = (sA v3 20 (upd (v3.2.1 20) (3 * ns + 2) x2)).2.1 i := fun i => rfl
            have vr : ∀ i, i ≠ 20 → W.2.1 i = v.2.1 i := fun i hi => by rw [hW, e17, sA_ne hi, g3, sA_ne hi, g2, sA_ne hi, g1]
            have vn : ∀ k, 11 ≤ k → k ≠ 14 → W.1 k = v.1 k := fun k hk hk2 => by
              rw [hW]; exact (if_neg hk2).trans ((f3 k (by omega)).trans ((f2 k (by omega)).trans (f1 k (by omega))))
            have v20 : W.2.1 20 = upd (upd (upd (v.2.1 20) (3 * ns) x0) (3 * ns + 1) x1) (3 * ns + 2) x2 := by rw [hW, e17, sA_eq, g3, sA_eq, g2, sA_eq, g1]
            refine ⟨nc, np, ns + 1, ⟨d1.1, d1.2.1, by omega⟩, ⟨(wn 4 (by omega) (by omega)).trans d2, (vn 12 (by omega) (by omega)).trans d3⟩, ⟨(wn 5 (by omega) (by omega)).trans d4, (vn 13 (by omega) (by omega)).trans d5⟩, ⟨X4, by rw [hW]; rfl⟩, fun x hx => ?_, fun c hc => ?_, fun p hp => ?_, fun s hs => ?_⟩
            · rw [wr _ (by omega) (by omega), vr _ (by omega)]; exact d8 x hx
            · rw [wr _ (by omega) (by omega), vr _ (by omega), vr _ (by omega), vr _ (by omega), vr _ (by omega)]; exact d9 c hc
            · rw [wr _ (by omega) (by omega), vr _ (by omega), vr _ (by omega)]; exact d10 p hp
            · rw [v20]
              by_cases q : s = ns
              · subst q
                rw [X3 0 (by omega), X3 1 (by omega), X3 2 (by omega), e15]
                refine ⟨?_, ?_, ?_⟩
                · show x0 = _
                  rw [upN (show 3 * s ≠ 3 * s + 2 by omega), upN (show 3 * s ≠ 3 * s + 1 by omega), upE]
                · show x1 = _
                  rw [upN (show 3 * s + 1 ≠ 3 * s + 2 by omega), upE]
                · show x2 = _
                  rw [upE]
              · rw [wr _ (by omega) (by omega), upN (by omega), upN (by omega), upN (by omega), upN (by omega), upN (by omega), upN (by omega), upN (by omega), upN (by omega), upN (by omega)]; exact d11 s (by omega)
        · exact absurd ⟨⟨⟨trivial, o0⟩, o1⟩, p22⟩ m5
      · obtain ⟨u3, c3, p3, r3⟩ := rd_no hn (afterU 3) 1997 (it := 3) (j := 2) (by omega) (by decide) hq1.1 p2 (fun _ _ => hx1p) (fun k => p22 (lo2.mp k))
        obtain ⟨z1, z2⟩ := n3 ⟨⟨trivial, o0⟩, o1⟩ p22
        exact bad hq1.1 z1 z2 (Eq.trans c1 (Eq.trans c2 c3)) p3 ((r1.tr r2).tr r3)
    · obtain ⟨u2, c2, p2, r2⟩ := rd_no hn (afterU 3) 1998 (it := 3) (j := 1) (by omega) (by decide) hq.1 p1 (fun _ k => absurd k (by decide)) o1
      obtain ⟨z1, z2⟩ := n2 ⟨trivial, o0⟩ o1
      exact bad hq.1 (m3.elim (fun k => absurd k.1.2 o1) fun k => k.2) ((o3 fun k => o1 k.2).trans z2) (Eq.trans c1 c2) p2 (r1.tr r2)
  · obtain ⟨u1, c1, p1, r1⟩ := rd_no hn (afterU 3) 1999 (it := 3) (j := 0) (by omega) (by decide) ha hu (fun _ k => absurd k (by decide)) o0
    obtain ⟨z1, z2⟩ := n1 trivial o0
    exact bad ha (m3.elim (fun k => absurd k.1.1.2 o0) fun k => k.2) ((o3 fun k => o0 k.1.2).trans ((o2 fun k => o0 k.2).trans z2)) c1 p1 r1
end BO
