-- ===== the four kinds of items =====
theorem FrV.sA {v : St} {r : Nat} {f : Nat → Int32} (h : 13 ≤ r) : FrV v (sA v r f) := ⟨fun k hk => rfl, fun j hj => sA_ne (by omega), rfl⟩
theorem FrV.sI {v : St} {r : Nat} {x : Int32} (h : 6 ≤ r) (h2 : r ≠ 11) : FrV v (sI v r x) := ⟨fun k hk => if_neg (by omega), fun j hj => rfl, rfl⟩
section BO
variable {n : Nat} {b : Nat → Int32}
def badT (b : Nat → Int32) (n a : Nat) (w : St) : Prop := w.1 10 = 1 ∧ w.1 7 = nI (tkS b n a)
theorem takes_any (hn : n ≤ 150) (hp : ∀ i, 0 ≤ b i) (w : St) (lo hi : Int32) {a : Nat} {B : Prop} (ha : a ≤ n) (hw : (B ∧ PV b n a w ∧ w.1 10 = 0) ∨ (¬ B ∧ w.1 10 = 1)) :
    ∃ x v', f_X8_takesNumber w lo hi = some (x, v') ∧ (∀ k : Nat, k < 6 ∨ 11 ≤ k → v'.1 k = w.1 k) ∧ v'.2 = w.2 ∧ (B ∧ okT b n a lo hi → x = tkV b n a) ∧ (¬ (B ∧ okT b n a lo hi) → x = 0) ∧
      ((B ∧ okT b n a lo hi ∧ PV b n (tkE b n a) v' ∧ v'.1 10 = 0) ∨ (¬ (B ∧ okT b n a lo hi) ∧ v'.1 10 = 1)) ∧ (B → ¬ okT b n a lo hi → badT b n a v') ∧ (¬ B → v'.1 7 = w.1 7) := by
  rcases hw with ⟨hB, hw, h0⟩ | ⟨hB, h1⟩
  · by_cases q : okT b n a lo hi
    · obtain ⟨v', e, f1, f2, f3, f4⟩ := takes_ok hn hp ha hw h0 q
      exact ⟨_, v', e, f3, f4, fun _ => rfl, fun k => absurd ⟨hB, q⟩ k, Or.inl ⟨hB, q, f1, f2⟩, fun _ k => absurd q k, fun k => absurd hB k⟩
    · refine ⟨_, _, takes_bad hw q, fun k hk => if_neg (by omega), rfl, fun k => absurd k.2 q, fun _ => rfl, Or.inr ⟨fun k => q k.2, rfl⟩, fun _ _ => ⟨rfl, hw.2.2.2.1⟩, fun k => absurd hB k⟩
  · refine ⟨_, _, takes_wr h1, fun k hk => if_neg (by omega), rfl, fun k => absurd k.1 hB, fun _ => rfl, Or.inr ⟨fun k => hB k.1, rfl⟩, fun k => absurd k hB, fun _ => rfl⟩
theorem PV.sA {a r : Nat} {v : St} {f : Nat → Int32} (h : PV b n a v) (hr : r ≠ 12) : PV b n a (sA v r f) := ⟨h.1, by rw [sA_ne (Ne.symm hr)]; exact h.2.1, h.2.2⟩
theorem PV.sI {a r : Nat} {v : St} {x : Int32} (h : PV b n a v) (hr : 10 ≤ r) : PV b n a (sI v r x) := by
  obtain ⟨h1, h2, h3, h4, h5, h6⟩ := h
  exact ⟨(if_neg (by omega)).trans h1, h2, (if_neg (by omega)).trans h3, (if_neg (by omega)).trans h4, (if_neg (by omega)).trans h5, (if_neg (by omega)).trans h6⟩
theorem ok_nat {a m : Nat} (hm : m < 2 ^ 31) (h : okT b n a 0 (nI m)) : ∃ j, j ≤ m ∧ tkV b n a = nI j := by
  rcases in_cases (tkV b n a) 0 (nI m) with ⟨-, h1, h2⟩ | e
  · exact rng hm h1 h2
  · rw [h.2] at e; exact absurd e (by decide)
theorem FrV_of {v w : St} (h1 : ∀ k : Nat, k < 6 ∨ 11 ≤ k → w.1 k = v.1 k) (h2 : w.2 = v.2) : FrV v w := ⟨fun k hk => h1 k (by omega), fun j hj => by rw [h2], by rw [h2]⟩
theorem roof_b (hn : n ≤ 150) (hp : ∀ i, 0 ≤ b i) {a : Nat} {u v : St} (ha : a ≤ n) (hu : PU b n a u) (hv : PV b n a v) (h0 : v.1 10 = 0) (D : DR u v) :
    ItemR b n a u v (L_X4_readItem_24 (afterU 0) (nI 0) FU 0 u) (Option.bind (f_X8_readRoof v) afterV) := by
  have hq := tkE_le (b := b) ha
  obtain ⟨x0, v1, e1, f1, g1, k1, l1, m1, n1, -⟩ := takes_any hn hp v 0 23 ha (B := True) (Or.inl ⟨trivial, hv, h0⟩)
  have hx0 : ∃ j, j < 24 ∧ x0 = nI j := by
    by_cases q : okT b n a 0 23
    · obtain ⟨j, hj, e⟩ := ok_nat (m := 23) (by decide) q
      exact ⟨j, by omega, (k1 ⟨trivial, q⟩).trans e⟩
    · exact ⟨0, by omega, l1 fun k => q k.2⟩
  obtain ⟨j, hj, hx0⟩ := hx0
  obtain ⟨x1, v2, e2, f2, g2, k2, l2, m2, n2, o2⟩ := takes_any hn hp v1 0 9 hq.1 (B := True ∧ okT b n a 0 23) (m1.imp (fun t => ⟨⟨t.1, t.2.1⟩, t.2.2⟩) id)
  have eW : f_X8_readRoof v = some (sA v2 13 (upd (v2.2.1 13) j x1)) := by
    unfold f_X8_readRoof
    rw [e1, Option.bind_some]
    dsimp only
    rw [e2, Option.bind_some]
    dsimp only
    rw [hx0, oobF hj (by decide), fT, tc_nI (by omega)]
  have F2 : FrV v (sA v2 13 (upd (v2.2.1 13) j x1)) := (FrV_of (fun k hk => (f2 k hk).trans (f1 k hk)) (g2.trans g1)).tr (FrV.sA (by omega))
  rw [eW, Option.bind_some]
  by_cases o0 : okT b n a 0 23
  · obtain ⟨u1, c1, p1, q1, r1⟩ := rd_ok hn (afterU 0) 1999 (it := 0) (j := 0) (by omega) (by decide) ha hu (fun k => absurd k (by decide)) o0
    by_cases o1 : okT b n (tkE b n a) 0 9
    · obtain ⟨u2, c2, p2, q2, r2⟩ := rd_ok hn (afterU 0) 1998 (it := 0) (j := 1) (by omega) (by decide) hq.1 p1 (fun k => absurd k (by decide)) o1
      have c3 := rd_end (afterU 0) 1997 (it := 0) (u := u2) (by omega)
      have hq2 := tkE_le (b := b) hq.1
      rw [show L_X4_readItem_24 (afterU 0) (nI 0) FU 0 u = afterU 0 (nI (cnt 0)) u2 from Eq.trans c1 (Eq.trans c2 c3)]
      rcases m2 with ⟨-, -, m3, m4⟩ | ⟨m3, -⟩
      · refine semi_ok hn hp hq2.1 (by omega) p2 (m3.sA (by decide)) m4 (r1.tr r2).fr F2 fun w w1 w2 => ?_
        have e15 : w.2.1 15 = upd (upd (u.2.1 15) 0 (tkV b n a)) 1 (tkV b n (tkE b n a)) := by rw [w2, q2, q1]
        have y0 : w.2.1 15 0 = nI j := by rw [e15, upN (by decide), upE, ← k1 ⟨trivial, o0⟩, hx0]
        have y1 : w.2.1 15 1 = x1 := by rw [e15, upE, k2 ⟨⟨trivial, o0⟩, o1⟩]
        refine ⟨sA w 1 (upd (w.2.1 1) j x1), ?_, rfl, ⟨fun k hk => rfl, fun i hi => sA_ne (by omega), rfl⟩, ?_⟩
        · unfold f_X4_tell
          rw [if_pos (show nI 0 = 0 from rfl), y0, oobF hj (by decide), fT, tc_nI (by omega), y1]
        · obtain ⟨nc, np, ns, d1, ⟨d2, d3⟩, ⟨d4, d5⟩, ⟨d6, d7⟩, d8, d9, d10, d11⟩ := D
          have wr : ∀ i, i ≠ 15 → i ≠ 1 → (sA w 1 (upd (w.2.1 1) j x1)).2.1 i = u.2.1 i := fun i hi hi1 => by rw [sA_ne hi1, w2, (r1.tr r2).2.1 i hi]
          have wn : ∀ k, 4 ≤ k → (sA w 1 (upd (w.2.1 1) j x1)).1 k = u.1 k := fun k hk => (w1 k hk).trans ((r1.tr r2).1 k (by omega))
          have vr : ∀ i, i ≠ 13 → (sA v2 13 (upd (v2.2.1 13) j x1)).2.1 i = v.2.1 i := fun i hi => by rw [sA_ne hi, g2, g1]
          have vn : ∀ k, 11 ≤ k → (sA v2 13 (upd (v2.2.1 13) j x1)).1 k = v.1 k := fun k hk => (f2 k (by omega)).trans (f1 k (by omega))
          refine ⟨nc, np, ns, d1, ⟨(wn 4 (by omega)).trans d2, (vn 12 (by omega)).trans d3⟩, ⟨(wn 5 (by omega)).trans d4, (vn 13 (by omega)).trans d5⟩, ⟨(wn 6 (by omega)).trans d6, (vn 14 (by omega)).trans d7⟩, fun x hx => ?_, fun c hc => ?_, fun p hp => ?_, fun s hs => ?_⟩
          · rw [sA_eq, sA_eq, g2, g1, w2, (r1.tr r2).2.1 1 (by decide)]
            show (if x = j then x1 else u.2.1 1 x) = (if x = j then x1 else v.2.1 13 x)
            rw [d8 x hx]
          · rw [wr _ (by omega) (by omega), vr _ (by omega), vr _ (by omega), vr _ (by omega), vr _ (by omega)]; exact d9 c hc
          · rw [wr _ (by omega) (by omega), vr _ (by omega), vr _ (by omega)]; exact d10 p hp
          · rw [wr _ (by omega) (by omega), vr _ (by omega)]; exact d11 s hs
      · exact absurd ⟨⟨trivial, o0⟩, o1⟩ m3
    · obtain ⟨u2, c2, p2, r2⟩ := rd_no hn (afterU 0) 1998 (it := 0) (j := 1) (by omega) (by decide) hq.1 p1 (fun k => absurd k (by decide)) o1
      obtain ⟨z1, z2⟩ := n2 ⟨trivial, o0⟩ o1
      obtain ⟨v', z3, z4, z5, z6⟩ := afterV_wr (w := sA v2 13 (upd (v2.2.1 13) j x1)) z1
      exact Or.inr ⟨u2, v', Eq.trans c1 c2, z3, z4, p2.trans (z2.symm.trans z5.symm), (r1.tr r2).fr, F2.tr z6⟩
  · obtain ⟨u1, c1, p1, r1⟩ := rd_no hn (afterU 0) 1999 (it := 0) (j := 0) (by omega) (by decide) ha hu (fun k => absurd k (by decide)) o0
    obtain ⟨z1, z2⟩ := n1 trivial o0
    have z7 : v2.1 7 = v1.1 7 := o2 fun k => o0 k.2
    have z10 : v2.1 10 = 1 := m2.elim (fun k => absurd k.1.2 o0) fun k => k.2
    obtain ⟨v', z3, z4, z5, z6⟩ := afterV_wr (w := sA v2 13 (upd (v2.2.1 13) j x1)) z10
    exact Or.inr ⟨u1, v', c1, z3, z4, p1.trans ((z7.trans z2).symm.trans z5.symm), r1.fr, F2.tr z6⟩
end BO
