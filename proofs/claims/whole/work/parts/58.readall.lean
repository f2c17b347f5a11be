-- ===== reading all =====
section RA
variable {n : Nat} {b : Nat → Int32}
theorem itemOf_ok (u : St) (x : Int32) : f_X4_itemOf u x = if x = 114 then some (nI 0) else if x = 99 then some (nI 1) else if x = 112 then some (nI 2) else if x = 115 then some (nI 3) else some (-1) := by
  have h := fo_loop (fun F j => L_X4_itemOf_2 (fun x1 => some (-1)) x F (nI j)) (fun j => decide (kLET j = x)) (fun j => some (nI j)) 4 (some (-1)) ?_ ?_ FU (FU_gt (by omega))
  · refine Eq.trans h ?_
    have l0 : kLET 0 = 114 := rfl
    have l1 : kLET 1 = 99 := rfl
    have l2 : kLET 2 = 112 := rfl
    have l3 : kLET 3 = 115 := rfl
    show (if decide (kLET 0 = x) = true then some (nI 0) else if decide (kLET 1 = x) = true then some (nI 1) else if decide (kLET 2 = x) = true then some (nI 2) else if decide (kLET 3 = x) = true then some (nI 3) else some (-1)) = _
    rw [l0, l1, l2, l3]
    by_cases q0 : x = 114
    · rw [if_pos q0, if_pos (decide_eq_true q0.symm)]
    rw [if_neg q0, if_neg (fun k => q0 (of_decide_eq_true k).symm)]
    by_cases q1 : x = 99
    · rw [if_pos q1, if_pos (decide_eq_true q1.symm)]
    rw [if_neg q1, if_neg (fun k => q1 (of_decide_eq_true k).symm)]
    by_cases q2 : x = 112
    · rw [if_pos q2, if_pos (decide_eq_true q2.symm)]
    rw [if_neg q2, if_neg (fun k => q2 (of_decide_eq_true k).symm)]
    by_cases q3 : x = 115
    · rw [if_pos q3, if_pos (decide_eq_true q3.symm)]
    rw [if_neg q3, if_neg (fun k => q3 (of_decide_eq_true k).symm)]
  · intro F j hj
    show L_X4_itemOf_2 _ x (F + 1) (nI j) = _
    rw [L_X4_itemOf_2, if_neg (show ¬ (4 : Int32) ≤ nI j from nI_ge (b := 4) hj (by omega)), oobF hj (by decide), fT, tc_nI (by omega), nI_1]
    by_cases q : kLET j = x
    · rw [if_pos q, if_pos (decide_eq_true q)]
    · rw [if_neg q, if_neg (fun k => q (of_decide_eq_true k))]
  · intro F
    show L_X4_itemOf_2 _ x (F + 1) (nI 4) = _
    rw [L_X4_itemOf_2, if_pos (show (4 : Int32) ≤ nI 4 by decide)]
theorem item_ok (hn : n ≤ 150) (hp : ∀ i, 0 ≤ b i) {a : Nat} {u v : St} (ha : a ≤ n) (hu : PU b n (tkE b n a) u) (u2 : u.1 2 = nI (tkS b n a)) (u3 : u.1 3 = tkV b n a) (hv : PV b n a v) (hk : tkK b n a = 1) (h0 : v.1 10 = 0) (D : DR u v) :
    ItemR b n (tkE b n a) u v (f_X4_readItem u) (f_X8_readItem v) := by
  have hq := tkE_le (b := b) ha
  obtain ⟨h1, h2, h3, h4, h5, h6⟩ := hv
  obtain ⟨v1, e1, s1, s2, s3⟩ := tokV hn hq.1 v h1 h2 hp h3
  have PV1 : PV b n (tkE b n a) v1 := ⟨(s2 5 (by omega)).trans h1, by rw [s3]; exact h2, s1⟩
  have v10 : v1.1 10 = 0 := (s2 10 (by omega)).trans h0
  have D1 : DR u v1 := D.fr (fun _ _ _ => rfl) (fun _ _ _ => rfl) (fun k k1 k2 => s2 k (by omega)) (fun j _ _ => by rw [s3])
  have F1 : FrV v v1 := FrV_of (fun k hk => s2 k (by omega)) s3
  have up : ∀ {A : Option (Int32 × St)} {B : Option St}, ItemR b n (tkE b n a) u v1 A B → ItemR b n (tkE b n a) u v A B := by
    rintro A B (⟨x1, x2, x3, y1, y2, y3, y4, y5, y6, y7, y8, y9⟩ | ⟨x1, x2, s, y0, y1, y2, y3, y4, y4', y5, y6⟩)
    · exact Or.inl ⟨x1, x2, x3, y1, y2, y3, y4, y5, y6, y7, y8, F1.tr y9⟩
    · exact Or.inr ⟨x1, x2, s, y0, y1, y2, y3, y4, y4', y5, F1.tr y6⟩
  have no : ∀ {A : Option (Int32 × St)} {B : Option St}, A = some (0, u) → B = some (sI v 10 1) → ItemR b n (tkE b n a) u v A B := fun hA hB =>
    Or.inr ⟨u, _, tkS b n a, (tkS_le ha).2, hA, hB, rfl, u2, h4, FrU.rf, FrV.sI (by omega) (by omega)⟩
  have hb : f_X8_readItem v = Option.bind (f_X8_mayBegin v (tkV b n a)) fun r15 => if r15 = 0 then some (sI v 10 1) else Option.bind (f_X8_readBody v1 (tkV b n a)) afterV := by
    unfold f_X8_readItem
    rw [h5, hk, if_pos rfl, h6, e1]
    rfl
  obtain ⟨nc, np, ns, d1, ⟨d2, d3⟩, ⟨d4, d5⟩, ⟨d6, d7⟩, -⟩ := D
  rw [hb]
  unfold f_X4_readItem
  rw [u3, itemOf_ok]
  generalize hx : tkV b n a = x
  by_cases q0 : x = 114
  · have em : f_X8_mayBegin v x = some 1 := by subst q0; rfl
    have er : f_X4_hasRoomFor u (nI 0) = some 1 := rfl
    have eb : f_X8_readBody v1 x = f_X8_readRoof v1 := by
      subst q0
      show Option.bind (f_X8_readRoof v1) (fun r => some r) = _
      cases f_X8_readRoof v1 <;> rfl
    rw [if_pos q0, Option.bind_some, if_neg (show ¬ nI 0 < 0 by decide), er, Option.bind_some, i1, em, Option.bind_some, i1, eb]
    exact up (roof_b hn hp hq.1 hu PV1 v10 D1)
  rw [if_neg q0]
  by_cases q1 : x = 99
  · have em : f_X8_mayBegin v x = if 5 ≤ v.1 12 then some 0 else some 1 := by subst q1; rfl
    have er : f_X4_hasRoomFor u (nI 1) = if 5 ≤ u.1 4 then some 0 else some 1 := rfl
    have eb : f_X8_readBody v1 x = f_X8_readCock v1 := by
      subst q1
      show Option.bind (f_X8_readCock v1) (fun r => some r) = _
      cases f_X8_readCock v1 <;> rfl
    rw [if_pos q1, Option.bind_some, if_neg (show ¬ nI 1 < 0 by decide), er, em, eb, d2, d3]
    by_cases w : (5 : Int32) ≤ nI nc
    · rw [if_pos w, Option.bind_some, Option.bind_some, i0, i0]; exact no rfl rfl
    · rw [if_neg w, Option.bind_some, Option.bind_some, i1, i1]
      exact up (cock_b hn hp hq.1 hu PV1 v10 D1 (by rw [s2 12 (by omega), d3]; exact w))
  rw [if_neg q1]
  by_cases q2 : x = 112
  · have em : f_X8_mayBegin v x = if 4 ≤ v.1 13 then some 0 else some 1 := by subst q2; rfl
    have er : f_X4_hasRoomFor u (nI 2) = if 4 ≤ u.1 5 then some 0 else some 1 := rfl
    have eb : f_X8_readBody v1 x = f_X8_readOne v1 := by
      subst q2
      show Option.bind (f_X8_readOne v1) (fun r => some r) = _
      cases f_X8_readOne v1 <;> rfl
    rw [if_pos q2, Option.bind_some, if_neg (show ¬ nI 2 < 0 by decide), er, em, eb, d4, d5]
    by_cases w : (4 : Int32) ≤ nI np
    · rw [if_pos w, Option.bind_some, Option.bind_some, i0, i0]; exact no rfl rfl
    · rw [if_neg w, Option.bind_some, Option.bind_some, i1, i1]
      exact up (one_b hn hp hq.1 hu PV1 v10 D1 (by rw [s2 13 (by omega), d5]; exact w))
  rw [if_neg q2]
  by_cases q3 : x = 115
  · have em : f_X8_mayBegin v x = if 4 ≤ v.1 14 then some 0 else some 1 := by subst q3; rfl
    have er : f_X4_hasRoomFor u (nI 3) = if 4 ≤ u.1 6 then some 0 else some 1 := rfl
    have eb : f_X8_readBody v1 x = f_X8_readSmoke v1 := by
      subst q3
      show Option.bind (f_X8_readSmoke v1) (fun r => some r) = _
      cases f_X8_readSmoke v1 <;> rfl
    rw [if_pos q3, Option.bind_some, if_neg (show ¬ nI 3 < 0 by decide), er, em, eb, d6, d7]
    by_cases w : (4 : Int32) ≤ nI ns
    · rw [if_pos w, Option.bind_some, Option.bind_some, i0, i0]; exact no rfl rfl
    · rw [if_neg w, Option.bind_some, Option.bind_some, i1, i1]
      exact up (smoke_b hn hp hq.1 hu PV1 v10 D1 (by rw [s2 14 (by omega), d7]; exact w))
  rw [if_neg q3]
  have em : f_X8_mayBegin v x = some 0 := by
    unfold f_X8_mayBegin
    rw [if_neg q1, if_neg q2, if_neg q0, if_neg q3]
  rw [Option.bind_some, if_pos (show (-1 : Int32) < 0 by decide), em, Option.bind_some, i0]
  exact no rfl rfl
def FrW (v v' : St) : Prop := (∀ k : Nat, k < 6 → v'.1 k = v.1 k) ∧ (∀ j : Nat, j < 13 → v'.2.1 j = v.2.1 j) ∧ v'.2.2 = v.2.2
theorem FrV.w {v v' : St} (h : FrV v v') : FrW v v' := ⟨fun k hk => h.1 k (Or.inl hk), h.2.1, h.2.2⟩
theorem FrW.tr {u v w : St} (h : FrW u v) (g : FrW v w) : FrW u w := ⟨fun k hk => (g.1 k hk).trans (h.1 k hk), fun k hk => (g.2.1 k hk).trans (h.2.1 k hk), g.2.2.trans h.2.2⟩
theorem FrW.i {v : St} {x : Int32} : FrW v (sI v 11 x) := ⟨fun k hk => if_neg (by omega), fun j hj => rfl, rfl⟩
def AllR (u v : St) (A : Option (Int32 × St)) (B : Option (Int32 × St)) (K : St → Option (Int32 × St)) : Prop :=
  (∃ (x : Nat) (u' v' : St), x ≤ 150 ∧ A = some (nI x, u') ∧ B = K v' ∧ v'.1 10 = 0 ∧ v'.1 11 = nI x ∧ DR u' v' ∧ FrU u u' ∧ FrW v v') ∨
  ∃ (s : Nat) (u' v' : St), s ≤ 150 ∧ A = some (-10 - nI s, u') ∧ B = K v' ∧ v'.1 10 = 1 ∧ v'.1 7 = nI s ∧ FrU u u' ∧ FrW v v'
theorem all_r (hn : n ≤ 150) (hp : ∀ i, 0 ≤ b i) (K : St → Option (Int32 × St)) : ∀ (m a x F F' : Nat) (u v : St), n - a ≤ m → m < F → m + 1 < F' → a ≤ n → x ≤ a → PU b n a u → PV b n a v → v.1 10 = 0 → v.1 11 = nI x → DR u v →
    AllR u v (L_X4_readAll_13 (fun x2 u13 => some (x2, u13)) F (nI x) u) (L_X8_diocese_55 K F' v) K
  | m, a, x, 0, _, _, _, _, h, _, _, _, _, _, _, _, _ => absurd h (Nat.not_lt_zero _)
  | m, a, x, _, 0, _, _, _, _, h, _, _, _, _, _, _, _ => absurd h (Nat.not_lt_zero _)
  | m, a, x, F + 1, F' + 1, u, v, hm, hF, hF', ha, hx, hu, hv, h0, h11, D => by
    have hq := tkE_le (b := b) ha
    obtain ⟨u1, e1, t1, t2, t3, t4, t5⟩ := tokU hn ha u hu.1 hu.2.1 hu.2.2
    have FU1 : FrU u u1 := TkU.fr ⟨t1, t2, t3, t4, t5⟩
    have D1 : DR u1 v := D.fr (fun k _ _ => t4 k (by omega)) (fun j _ _ => by rw [t5]) (fun _ _ _ => rfl) (fun _ _ _ => rfl)
    have PU1 : PU b n (tkE b n a) u1 := ⟨(t4 0 (by omega)).trans hu.1, by rw [t5]; exact hu.2.1, t1⟩
    have hs := tkS_le (b := b) ha
    rw [L_X4_readAll_13, if_neg (show ¬ (150 : Int32) < nI x from nI_nlt (a := 150) (by omega) (by omega)), e1, Option.bind_some, L_X8_diocese_55, hv.2.2.2.2.1]
    dsimp only
    by_cases k0 : tkK b n a = 0
    · rw [if_pos k0, if_pos k0]
      exact Or.inl ⟨x, u1, v, by omega, rfl, rfl, h0, h11, D1, FU1, ⟨fun _ _ => rfl, fun _ _ => rfl, rfl⟩⟩
    · rw [if_neg k0, if_neg k0, if_pos h0]
      have hlt := hq.2.2 k0
      have stop : ∀ (w : St), w.1 10 = 1 → ∃ G, F' = G + 1 ∧ L_X8_diocese_55 K F' w = K w := by
        intro w hw
        obtain ⟨G, rfl⟩ : ∃ G, F' = G + 1 := ⟨F' - 1, by omega⟩
        refine ⟨G, rfl, ?_⟩
        rw [L_X8_diocese_55, hw, i1]
        split <;> rfl
      by_cases k1 : tkK b n a = 1
      · rw [if_pos k1]
        rcases item_ok hn hp ha PU1 t2 t3 hv k1 h0 D1 with ⟨u', v', a', y1, y2, y3, y4, y5, y6, y7, y8, y9⟩ | ⟨u', v', s, y0, y1, y2, y3, y4, y4', y5, y6⟩
        · rw [y1, y2, Option.bind_some, Option.bind_some]
          dsimp only
          rw [i1, nI_1, y9.1 11 (Or.inr rfl), h11, nI_1]
          have PV' : PV b n a' (sI v' 11 (nI (x + 1))) := y5.sI (by omega)
          have := all_r hn hp K (m - 1) a' (x + 1) F F' u' (sI v' 11 (nI (x + 1))) (by omega) (by omega) (by omega) y3.2 (by omega) y4 PV' y6 rfl (y7.fr (fun _ _ _ => rfl) (fun _ _ _ => rfl) (fun k _ _ => if_neg (by omega)) (fun _ _ _ => rfl))
          rcases this with ⟨z, u'', v'', w1, w2, w3, w4, w5, w6, w7, w8⟩ | ⟨z, u'', v'', w1, w2, w3, w4, w5, w6, w7⟩
          · exact Or.inl ⟨z, u'', v'', w1, w2, w3, w4, w5, w6, FU1.tr (y8.tr w7), (y9.w.tr FrW.i).tr w8⟩
          · exact Or.inr ⟨z, u'', v'', w1, w2, w3, w4, w5, FU1.tr (y8.tr w6), (y9.w.tr FrW.i).tr w7⟩
        · rw [y1, y2, Option.bind_some, Option.bind_some]
          dsimp only
          rw [i0]
          obtain ⟨G, -, eG⟩ := stop (sI v' 11 (v'.1 11 + 1)) y3
          rw [eG]
          exact Or.inr ⟨s, u', _, by omega, by rw [y4], rfl, y3, y4', FU1.tr y5, y6.w.tr FrW.i⟩
      · rw [if_neg k1]
        have eI : f_X8_readItem v = some (sI v 10 1) := by
          unfold f_X8_readItem
          rw [hv.2.2.2.2.1, if_neg k1]
        rw [eI, Option.bind_some]
        obtain ⟨G, -, eG⟩ := stop (sI (sI v 10 1) 11 ((sI v 10 1).1 11 + 1)) rfl
        rw [eG]
        exact Or.inr ⟨tkS b n a, u1, _, by omega, by rw [t2], rfl, rfl, hv.2.2.2.1, FU1, (FrV.sI (by omega) (by omega)).w.tr FrW.i⟩
end RA
