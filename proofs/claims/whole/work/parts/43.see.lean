-- ===== who sees what =====
def dst (a b : Nat) : Nat := if b ≤ a then a - b else b - a
def clP (ro : Nat → Int32) (eye : Int32) (a b i : Nat) : Bool := decide (ro (if b ≤ a then a - (i + 1) else a + (i + 1)) * nI (dst a b) ≤ eye * nI (dst a b) + (ro b - eye) * nI (i + 1))
def clB (ro : Nat → Int32) (eye : Int32) (a b : Nat) : Bool := alN (clP ro eye a b) (dst a b - 1)
def seeB (pl : Nat → Nat) (ri si tu ro : Nat → Int32) (c x : Nat) (h : Int32) : Bool :=
  !decide (x = pl c) && (decide (f_X8_sideBy (si c) (tu c) h = some (if x ≤ pl c then 0 else 1)) && clB ro (ro (pl c) + ri c) (pl c) x)
theorem fu_and {p : Nat → Bool} : ∀ n : Nat, fu (fun i b => b && p i) n true = alN p n
  | 0 => rfl
  | n + 1 => by show (fu _ n true && p n) = _; rw [fu_and n]; rfl
theorem line_ok (u : St) (ro : Nat → Int32) (hro : ∀ x, x < 24 → u.2.1 30 x = ro x) {a b : Nat} (ha : a < 24) (hb : b < 24) (hab : b ≠ a) (eye : Int32) :
    f_X6_isLineFree u (nI a) eye (nI b) = some (bI (clB ro eye a b)) := by
  have key : ∀ (x4 : Int32), (∀ i, i < dst a b - 1 → nI a + nI (i + 1) * x4 = nI (if b ≤ a then a - (i + 1) else a + (i + 1))) → L_X6_isLineFree_36 (fun x7 => some 1) u (nI a) eye x4 (nI (dst a b)) (ro b - eye) FU 1 = some (bI (clB ro eye a b)) := by
    intro x4 hx
    have hd : 0 < dst a b ∧ dst a b < 24 := by unfold dst; split <;> omega
    have := ex_loop (fun F i => L_X6_isLineFree_36 (fun x7 => some 1) u (nI a) eye x4 (nI (dst a b)) (ro b - eye) F (nI (i + 1))) (clP ro eye a b) (dst a b - 1) (some 1) (some 0) ?_ ?_ FU (FU_gt (by omega))
    · refine Eq.trans this ?_
      show _ = some (bI (alN _ _))
      cases alN (clP ro eye a b) (dst a b - 1) <;> rfl
    · intro F i hi
      show L_X6_isLineFree_36 _ u (nI a) eye x4 (nI (dst a b)) (ro b - eye) (F + 1) (nI (i + 1)) = _
      have hq : (if b ≤ a then a - (i + 1) else a + (i + 1)) < 24 := by unfold dst at hi; split <;> split at hi <;> omega
      rw [L_X6_isLineFree_36, if_neg (nI_ge (show i + 1 < dst a b by omega) (by omega)), hx i hi, oobF hq (by decide), fT, tc_nI (by omega), hro _ hq, nI_1]
      unfold clP
      by_cases q : ro (if b ≤ a then a - (i + 1) else a + (i + 1)) * nI (dst a b) ≤ eye * nI (dst a b) + (ro b - eye) * nI (i + 1)
      · rw [if_pos q, if_pos (decide_eq_true q)]
      · rw [if_neg q, if_neg (by rw [decide_eq_false q]; decide)]
    · intro F
      show L_X6_isLineFree_36 _ u (nI a) eye x4 (nI (dst a b)) (ro b - eye) (F + 1) (nI (dst a b - 1 + 1)) = _
      rw [L_X6_isLineFree_36, show dst a b - 1 + 1 = dst a b by omega, if_pos (Int32.le_refl _)]
  unfold f_X6_isLineFree
  rw [oobF hb (by decide), tc_nI (by omega), hro b hb]
  simp only [fT]
  by_cases q : b ≤ a
  · rw [if_pos ((nI_leI (by omega) (by omega)).mpr q), if_neg (Int32.not_le.mpr (pk_sneg (a := b) (b := a) (by omega) (by omega)))]
    rw [show (0 : Int32) - (nI b - nI a) = nI (dst a b) by rw [show (0 : Int32) - (nI b - nI a) = nI a - nI b by grind, pk_sub q]; unfold dst; rw [if_pos q]]
    apply key
    intro i hi
    unfold dst at hi
    rw [if_pos q] at hi ⊢
    rw [show nI a + nI (i + 1) * (-1) = nI a - nI (i + 1) by grind, pk_sub (by omega)]
  · rw [if_neg (fun k => q ((nI_leI (by omega) (by omega)).mp k)), pk_sub (show a ≤ b by omega), if_pos (nI_pos' (by omega))]
    rw [show nI (b - a) = nI (dst a b) by unfold dst; rw [if_neg q]]
    apply key
    intro i hi
    rw [if_neg q, show nI a + nI (i + 1) * 1 = nI a + nI (i + 1) by grind, nI_add]
theorem clear_ok (v : St) (ro : Nat → Int32) {c a b : Nat} {ri : Int32} (hc : c < 5) (hpl : v.2.1 0 c = nI a) (hri : v.2.1 1 c = ri) (hro : ∀ x, x < 24 → v.2.1 7 (1 + x) = ro x) (ha : a < 24) (hb : b < 24) (hab : b ≠ a) :
    f_X8_isClear v (nI c) (nI b) = some (bI (clB ro (ro a + ri) a b)) := by
  have hey : f_X8_eye v (nI c) = some (ro a + ri) := by
    unfold f_X8_eye
    rw [oobF hc (by decide), tc_nI (by omega), hpl, hri, show (1 : Int32) + nI a = nI (1 + a) from nI_add 1 a, oobF (show 1 + a < 507 by omega) (by decide), tc_nI (by omega), hro a ha]; rfl
  have key : ∀ (x3 : Int32), (∀ i, i < dst a b - 1 → (1 + nI a) + x3 * nI (i + 1) = nI (1 + (if b ≤ a then a - (i + 1) else a + (i + 1)))) → L_X8_isClear_34 (fun x5 x6 => if nb x5 then some x5 else none) v (nI c) (nI b) x3 (nI (dst a b)) FU 1 1 = some (bI (clB ro (ro a + ri) a b)) := by
    intro x3 hx
    have hd : 0 < dst a b ∧ dst a b < 24 := by unfold dst; split <;> omega
    have := up_loop' (fun F i (t : Bool) => L_X8_isClear_34 (fun x5 x6 => if nb x5 then some x5 else none) v (nI c) (nI b) x3 (nI (dst a b)) F (bI t) (nI (i + 1))) (fun i t => t && clP ro (ro a + ri) a b i) (dst a b - 1) (fun t => some (bI t)) ?_ ?_ true FU (FU_gt (by omega))
    · rw [fu_and] at this
      exact this
    · intro F i t hi
      show L_X8_isClear_34 _ v (nI c) (nI b) x3 (nI (dst a b)) (F + 1) (bI t) (nI (i + 1)) = _
      have hq : (if b ≤ a then a - (i + 1) else a + (i + 1)) < 24 := by unfold dst at hi; split <;> split at hi <;> omega
      rw [L_X8_isClear_34, if_neg (nI_ge (show i + 1 < dst a b by omega) (by omega)), oobF hc (by decide), fT, tc_nI (show c < 2 ^ 31 by omega), hpl, hx i hi, oobF (show 1 + (if b ≤ a then a - (i + 1) else a + (i + 1)) < 507 by omega) (by decide), fT, tc_nI (by omega), hro _ hq, nI_1]
      cases t
      · rw [if_pos (show bI false = 0 from rfl)]; rfl
      · rw [if_neg (show ¬ bI true = 0 by decide), hey, Option.bind_some, show (1 : Int32) + nI b = nI (1 + b) from nI_add 1 b, oobF (show 1 + b < 507 by omega) (by decide), fT, tc_nI (by omega), hro b hb]
        have e : (ro a + ri) * (nI (dst a b) - nI (i + 1)) + ro b * nI (i + 1) = (ro a + ri) * nI (dst a b) + (ro b - (ro a + ri)) * nI (i + 1) := by grind
        rw [e]
        show _ = L_X8_isClear_34 _ v (nI c) (nI b) x3 (nI (dst a b)) F (bI (true && clP ro (ro a + ri) a b i)) (nI (i + 1 + 1))
        unfold clP
        by_cases q : ro (if b ≤ a then a - (i + 1) else a + (i + 1)) * nI (dst a b) ≤ (ro a + ri) * nI (dst a b) + (ro b - (ro a + ri)) * nI (i + 1)
        · rw [if_neg (Int32.not_lt.mpr q), decide_eq_true q]; rfl
        · rw [if_pos (Int32.not_le.mp q), decide_eq_false q]; rfl
    · intro F t
      show L_X8_isClear_34 _ v (nI c) (nI b) x3 (nI (dst a b)) (F + 1) (bI t) (nI (dst a b - 1 + 1)) = _
      rw [L_X8_isClear_34, show dst a b - 1 + 1 = dst a b by omega, if_pos (Int32.le_refl _), nbb]
  unfold f_X8_isClear
  rw [oobF hc (by decide), tc_nI (by omega), hpl]
  simp only [fT]
  by_cases q : b ≤ a
  · rw [if_pos ((nI_leI (by omega) (by omega)).mpr q)]
    rw [show (nI b - nI a) * (-1) = nI (dst a b) by rw [show (nI b - nI a) * (-1) = nI a - nI b by grind, pk_sub q]; unfold dst; rw [if_pos q]]
    apply key
    intro i hi
    unfold dst at hi
    rw [if_pos q] at hi ⊢
    rw [show 1 + nI a + (-1) * nI (i + 1) = (1 + nI a) - nI (i + 1) by grind, show (1 : Int32) + nI a = nI (1 + a) from nI_add 1 a, pk_sub (by omega), show 1 + a - (i + 1) = 1 + (a - (i + 1)) by omega]
  · rw [if_neg (fun k => q ((nI_leI (by omega) (by omega)).mp k)), pk_sub (show a ≤ b by omega), show nI (b - a) * 1 = nI (b - a) by grind]
    rw [show nI (b - a) = nI (dst a b) by unfold dst; rw [if_neg q]]
    apply key
    intro i hi
    rw [if_neg q, show 1 + nI a + 1 * nI (i + 1) = (1 + nI a) + nI (i + 1) by grind, show (1 : Int32) + nI a = nI (1 + a) from nI_add 1 a, nI_add, Nat.add_assoc]
/-- the standing data as the one side has them, and as the other -/
def Su (nC : Nat) (pl : Nat → Nat) (ri si tu ro : Nat → Int32) (u : St) : Prop :=
  (∀ c : Nat, c < nC → u.2.1 (17 + c) 0 = nI (pl c) ∧ u.2.1 (17 + c) 1 = ri c ∧ u.2.1 (17 + c) 2 = si c ∧ u.2.1 (17 + c) 3 = tu c) ∧ ∀ x : Nat, x < 24 → u.2.1 30 x = ro x
def Sv (nC : Nat) (pl : Nat → Nat) (ri si tu ro : Nat → Int32) (v : St) : Prop :=
  (∀ c : Nat, c < nC → v.2.1 0 c = nI (pl c) ∧ v.2.1 1 c = ri c ∧ v.2.1 2 c = si c ∧ v.2.1 3 c = tu c) ∧ ∀ x : Nat, x < 24 → v.2.1 7 (1 + x) = ro x
def Sd (nC : Nat) (pl : Nat → Nat) (si : Nat → Int32) : Prop := nC ≤ 5 ∧ ∀ c : Nat, c < nC → pl c < 24 ∧ (si c = 0 ∨ si c = 1)
section SEE
variable {nC nP nS : Nat} {pl : Nat → Nat} {ri si tu ro : Nat → Int32} {u v : St}
theorem canSee_ok (D : Sd nC pl si) (S : Su nC pl ri si tu ro u) {c x : Nat} (hc : c < nC) (hx : x < 24) (h : Int32) : f_X6_canSee u (nI c) (nI x) h = some (bI (seeB pl ri si tu ro c x h)) := by
  obtain ⟨e0, e1, e2, e3⟩ := S.1 c hc
  have hc5 : c < 5 := by have := D.1; omega
  obtain ⟨hp, hs⟩ := D.2 c hc
  have heye : f_X6_eyeOf u (nI c) = some (ro (pl c) + ri c) := by
    unfold f_X6_eyeOf
    rw [oobF hc5 (by decide), tc_nI (by omega), e0, e1, oobF hp (by decide), tc_nI (by omega), S.2 _ hp]; rfl
  have hside : f_X1_sideOf u (nI c) h = f_X8_sideBy (si c) (tu c) h := by
    unfold f_X1_sideOf
    rw [oobF hc5 (by decide), tc_nI (by omega), e2, e3, sideBy_eq]
    rcases sideBy_some (si c) (tu c) h hs with q | q <;> rw [q] <;> rfl
  unfold f_X6_canSee
  rw [oobF hc5 (by decide), fT, tc_nI (by omega), e0, hside, heye]
  simp only [Option.bind_some]
  unfold seeB
  by_cases q : x = pl c
  · rw [if_pos (by rw [q]), decide_eq_true q]; rfl
  · rw [if_neg (fun k => q ((nI_eq (by omega) (by omega)).mp k)), decide_eq_false q, line_ok u ro S.2 hp hx q]
    by_cases q2 : x ≤ pl c
    · rw [if_pos ((nI_leI (by omega) (by omega)).mpr q2), if_pos q2]
      rcases sideBy_some (si c) (tu c) h hs with w | w <;> rw [w] <;> simp only [Option.bind_some]
      · cases clB ro (ro (pl c) + ri c) (pl c) x <;> rfl
      · rw [if_neg (by decide)]; cases clB ro (ro (pl c) + ri c) (pl c) x <;> rfl
    · rw [if_neg (fun k => q2 ((nI_leI (by omega) (by omega)).mp k)), if_neg q2]
      rcases sideBy_some (si c) (tu c) h hs with w | w <;> rw [w] <;> simp only [Option.bind_some]
      · rw [if_neg (by decide)]; cases clB ro (ro (pl c) + ri c) (pl c) x <;> rfl
      · cases clB ro (ro (pl c) + ri c) (pl c) x <;> rfl
theorem sees_ok (D : Sd nC pl si) (S : Sv nC pl ri si tu ro v) {c x : Nat} (hc : c < nC) (hx : x < 24) (h : Int32) : f_X8_sees v (nI c) (nI x) h = some (bI (seeB pl ri si tu ro c x h)) := by
  obtain ⟨e0, e1, e2, e3⟩ := S.1 c hc
  have hc5 : c < 5 := by have := D.1; omega
  obtain ⟨hp, hs⟩ := D.2 c hc
  unfold f_X8_sees
  rw [oobF hc5 (by decide), fT, tc_nI (by omega), e0, e2, e3]
  unfold seeB
  by_cases q : x = pl c
  · rw [decide_eq_true q]
    rcases sideBy_some (si c) (tu c) h hs with w | w <;> rw [w] <;> simp only [Option.bind_some] <;> rw [if_pos (by rw [q])] <;> rfl
  · have q' : ¬ nI x = nI (pl c) := fun k => q ((nI_eq (by omega) (by omega)).mp k)
    rw [decide_eq_false q, clear_ok v ro hc5 e0 e1 S.2 hp hx q]
    by_cases q2 : x ≤ pl c
    · rw [if_pos q2]
      have hle : nI x ≤ nI (pl c) := (nI_leI (by omega) (by omega)).mpr q2
      simp only [if_pos hle]
      rcases sideBy_some (si c) (tu c) h hs with w | w <;> rw [w] <;> simp only [Option.bind_some] <;> rw [if_neg q']
      · rw [if_neg (by decide)]; cases clB ro (ro (pl c) + ri c) (pl c) x <;> rfl
      · cases clB ro (ro (pl c) + ri c) (pl c) x <;> rfl
    · rw [if_neg q2]
      have hle : ¬ nI x ≤ nI (pl c) := fun k => q2 ((nI_leI (by omega) (by omega)).mp k)
      simp only [if_neg hle]
      rcases sideBy_some (si c) (tu c) h hs with w | w <;> rw [w] <;> simp only [Option.bind_some] <;> rw [if_neg q']
      · rw [if_neg (by decide)]; cases clB ro (ro (pl c) + ri c) (pl c) x <;> rfl
      · cases clB ro (ro (pl c) + ri c) (pl c) x <;> rfl
def dPl (v : St) (c : Nat) : Nat := (v.2.1 0 c).toNatClampNeg
def dRo (v : St) (x : Nat) : Int32 := v.2.1 7 (1 + x)
theorem S_of (T : Tr nC nP nS u v) (P : Pn nC nP u v) : Sd nC (dPl v) (v.2.1 2) ∧ Su nC (dPl v) (v.2.1 1) (v.2.1 2) (v.2.1 3) (dRo v) u ∧ Sv nC (dPl v) (v.2.1 1) (v.2.1 2) (v.2.1 3) (dRo v) v := by
  have hp : ∀ c, c < nC → dPl v c < 24 ∧ v.2.1 0 c = nI (dPl v c) := fun c hc => by
    obtain ⟨e0, e1, e2, e3, ⟨x, hx, e4⟩, e5⟩ := T.2.2.2.2.1 c hc
    unfold dPl; rw [e4, tc_nI (by omega)]; exact ⟨hx, rfl⟩
  refine ⟨⟨T.1.1, fun c hc => ⟨(hp c hc).1, ?_⟩⟩, ⟨fun c hc => ?_, fun x hx => P.b.2.2.1 x hx⟩, fun c hc => ⟨(hp c hc).2, rfl, rfl, rfl⟩, fun x hx => rfl⟩
  · obtain ⟨e0, e1, e2, e3, e4, e5⟩ := T.2.2.2.2.1 c hc; exact e5
  · obtain ⟨e0, e1, e2, e3, e4, e5⟩ := T.2.2.2.2.1 c hc
    rw [e0, e1, e2, e3]; exact ⟨(hp c hc).2, rfl, rfl, rfl⟩
-- views
def vwN (pl : Nat → Nat) (ri si tu ro : Nat → Int32) (c : Nat) (h : Int32) : Nat := fu (fun x m => if seeB pl ri si tu ro c x h then m ||| 2 ^ x else m) 24 0
theorem viewU_ok (D : Sd nC pl si) (S : Su nC pl ri si tu ro u) {c : Nat} (hc : c < nC) (h : Int32) : f_X6_viewOf u (nI c) h = some (nI (vwN pl ri si tu ro c h)) := by
  refine up_loop' (fun F i (m : Nat) => L_X6_viewOf_5 (fun x3 x4 => some x3) u (nI c) h F (nI m) (nI i)) (fun x m => if seeB pl ri si tu ro c x h then m ||| 2 ^ x else m) 24 (fun m => some (nI m)) ?_ ?_ 0 FU (FU_gt (by omega))
  · intro F i m hi
    show L_X6_viewOf_5 _ u (nI c) h (F + 1) (nI m) (nI i) = _
    rw [L_X6_viewOf_5, if_neg (show ¬ (24 : Int32) ≤ nI i from nI_ge (b := 24) hi (by decide)), canSee_ok D S hc hi h, Option.bind_some, nI_1, n_shl (by omega), n_or]
    cases seeB pl ri si tu ro c i h <;> rfl
  · intro F m
    show L_X6_viewOf_5 _ u (nI c) h (F + 1) (nI m) (nI 24) = _
    rw [L_X6_viewOf_5, if_pos (show (24 : Int32) ≤ nI 24 from Int32.le_refl _)]
theorem viewV_ok (D : Sd nC pl si) (S : Sv nC pl ri si tu ro v) {c : Nat} (hc : c < nC) (h : Int32) : f_X8_viewOf v (nI c) h = some (nI (vwN pl ri si tu ro c h)) := by
  refine up_loop' (fun F i (m : Nat) => L_X8_viewOf_5 (fun x3 x4 => some x3) v (nI c) h F (nI m) (nI i)) (fun x m => if seeB pl ri si tu ro c x h then m ||| 2 ^ x else m) 24 (fun m => some (nI m)) ?_ ?_ 0 FU (FU_gt (by omega))
  · intro F i m hi
    show L_X8_viewOf_5 _ v (nI c) h (F + 1) (nI m) (nI i) = _
    rw [L_X8_viewOf_5, if_neg (show ¬ (24 : Int32) ≤ nI i from nI_ge (b := 24) hi (by decide)), sees_ok D S hc hi h, Option.bind_some, nI_1, n_shl (by omega), n_or, show nI m ||| 0 = nI (m ||| 0) from n_or m 0, Nat.or_zero]
    cases seeB pl ri si tu ro c i h <;> rfl
  · intro F m
    show L_X8_viewOf_5 _ v (nI c) h (F + 1) (nI m) (nI 24) = _
    rw [L_X8_viewOf_5, if_pos (show (24 : Int32) ≤ nI 24 from Int32.le_refl _)]
theorem view_ok (T : Tr nC nP nS u v) (P : Pn nC nP u v) (x y : Int32) : Eo (f_X7_view u x y) (f_X8_view v x y) := by
  obtain ⟨D, S1, S2⟩ := S_of T P
  unfold f_X7_view f_X8_view
  rcases cock_cases T x with ⟨e1, e2, c, hc, rfl⟩ | ⟨e1, e2⟩
  · rw [e1, e2]
    simp only [Option.bind_some, i1]
    rcases hour_cases y with ⟨e3, e4, h, hh, rfl⟩ | ⟨e3, e4⟩
    · rw [e3, e4]
      simp only [Option.bind_some, i1]
      rw [viewU_ok D S1 hc, viewV_ok D S2 hc]
      exact ⟨_, rfl, rfl⟩
    · rw [e3, e4]; exact ⟨_, rfl, rfl⟩
  · rw [e1, e2]; exact ⟨_, rfl, rfl⟩
-- blind: the complement of a union, a meet of complements
theorem blind_ok (T : Tr nC nP nS u v) (P : Pn nC nP u v) (y : Int32) : Eo (f_X7_blind u y) (f_X8_blind v y) := by
  obtain ⟨D, S1, S2⟩ := S_of T P
  unfold f_X7_blind f_X8_blind
  rcases hour_cases y with ⟨e3, e4, h, hh, rfl⟩ | ⟨e3, e4⟩
  · rw [e3, e4]
    simp only [Option.bind_some, i1]
    obtain ⟨a, ha, ea, ea2, -, -⟩ := asked_ok T P (c := 0) (by omega)
    have hk : ∀ c, c < 31 → f_X3_isAsked u (nI c) = some (bI (a.testBit c)) ∧ f_X8_isAsked v (nI c) = some (bI (a.testBit c)) := fun c hc => by
      obtain ⟨a', ha', ea', -, k1, k2⟩ := asked_ok T P hc
      have : a' = a := (nI_eq (Nat.lt_of_lt_of_le ha' (Nat.pow_le_pow_right (by decide) (by have := T.1.1; omega : nC ≤ 31))) (Nat.lt_of_lt_of_le ha (Nat.pow_le_pow_right (by decide) (by have := T.1.1; omega : nC ≤ 31)))).mp (ea'.symm.trans ea)
      subst this
      exact ⟨k1, k2⟩
    have hn := T.1.1
    have U : f_X6_unseenIn u (nI h) = some ((fu (fun c (m : Int32) => if a.testBit c then m else m ||| nI (vwN (dPl v) (v.2.1 1) (v.2.1 2) (v.2.1 3) (dRo v) c (nI h))) nC 0 ^^^ (-1)) &&& 16777215) := by
      refine up_loop' (fun F i (m : Int32) => L_X6_unseenIn_4 (fun x2 x3 => some ((x2 ^^^ (-1)) &&& 16777215)) u (nI h) F m (nI i)) (fun c (m : Int32) => if a.testBit c then m else m ||| nI (vwN (dPl v) (v.2.1 1) (v.2.1 2) (v.2.1 3) (dRo v) c (nI h))) nC (fun x2 => some ((x2 ^^^ (-1)) &&& 16777215)) ?_ ?_ 0 FU (FU_gt (by omega))
      · intro F i m hi
        show L_X6_unseenIn_4 _ u (nI h) (F + 1) m (nI i) = _
        rw [L_X6_unseenIn_4, T.2.1.1, if_neg (nI_ge hi (by omega)), (hk i (by omega)).1, Option.bind_some, nI_1]
        cases q : a.testBit i
        · rw [show bI false = 0 from rfl, i0, viewU_ok D S1 hi]; rfl
        · rw [show bI true = 1 from rfl, i1]; rfl
      · intro F m
        show L_X6_unseenIn_4 _ u (nI h) (F + 1) m (nI nC) = _
        rw [L_X6_unseenIn_4, T.2.1.1, if_pos (Int32.le_refl _)]
    have V : L_X8_blind_14 (fun x2 x3 => some x2) v (nI h) FU 16777215 0 = some (fu (fun c (m : Int32) => if a.testBit c then m else m &&& (nI (vwN (dPl v) (v.2.1 1) (v.2.1 2) (v.2.1 3) (dRo v) c (nI h)) ^^^ (-1))) nC 16777215) := by
      refine up_loop' (fun F i (m : Int32) => L_X8_blind_14 (fun x2 x3 => some x2) v (nI h) F m (nI i)) (fun c (m : Int32) => if a.testBit c then m else m &&& (nI (vwN (dPl v) (v.2.1 1) (v.2.1 2) (v.2.1 3) (dRo v) c (nI h)) ^^^ (-1))) nC (fun x2 => some x2) ?_ ?_ 16777215 FU (FU_gt (by omega))
      · intro F i m hi
        show L_X8_blind_14 _ v (nI h) (F + 1) m (nI i) = _
        rw [L_X8_blind_14, T.2.1.2, if_neg (nI_ge hi (by omega)), (hk i (by omega)).2, Option.bind_some, nI_1]
        cases q : a.testBit i
        · rw [show bI false = 0 from rfl, i0, viewV_ok D S2 hi]; rfl
        · rw [show bI true = 1 from rfl, i1, Int32.and_self]; rfl
      · intro F m
        show L_X8_blind_14 _ v (nI h) (F + 1) m (nI nC) = _
        rw [L_X8_blind_14, T.2.1.2, if_pos (Int32.le_refl _)]
    rw [U, V]
    refine ⟨_, rfl, ?_⟩
    congr 1
    have G : ∀ n, fu (fun c (m : Int32) => if a.testBit c then m else m &&& (nI (vwN (dPl v) (v.2.1 1) (v.2.1 2) (v.2.1 3) (dRo v) c (nI h)) ^^^ (-1))) n 16777215 = (fu (fun c (m : Int32) => if a.testBit c then m else m ||| nI (vwN (dPl v) (v.2.1 1) (v.2.1 2) (v.2.1 3) (dRo v) c (nI h))) n 0 ^^^ (-1)) &&& 16777215 := by
      intro n
      induction n with
      | zero => show (16777215 : Int32) = ((0 : Int32) ^^^ (-1)) &&& 16777215; decide
      | succ n ih =>
        show (if a.testBit n then _ else _) = ((if a.testBit n then _ else _) ^^^ _) &&& _
        rw [ih]
        cases a.testBit n
        · rw [fT, fT]
          generalize fu (fun c (m : Int32) => if a.testBit c then m else m ||| nI (vwN (dPl v) (v.2.1 1) (v.2.1 2) (v.2.1 3) (dRo v) c (nI h))) n 0 = X
          generalize nI (vwN (dPl v) (v.2.1 1) (v.2.1 2) (v.2.1 3) (dRo v) n (nI h)) = Y
          apply Int32.toBitVec_inj.mp
          apply BitVec.eq_of_getLsbD_eq
          intro i hi
          simp only [Int32.toBitVec_and, Int32.toBitVec_or, Int32.toBitVec_xor, BitVec.getLsbD_and, BitVec.getLsbD_or, BitVec.getLsbD_xor]
          have e : ((-1 : Int32).toBitVec).getLsbD i = true := by
            rw [show (-1 : Int32).toBitVec = BitVec.allOnes 32 from rfl, BitVec.getLsbD_allOnes]; exact decide_eq_true hi
          rw [e]
          cases X.toBitVec.getLsbD i <;> cases Y.toBitVec.getLsbD i <;> cases ((16777215 : Int32).toBitVec).getLsbD i <;> rfl
        · rfl
    exact G nC
  · rw [e3, e4]; exact ⟨_, rfl, rfl⟩
end SEE
