-- ===== the relation between the two states =====
def Vb (nC nP : Nat) (b : Nat → Int32) : Prop :=
  (∃ h : Nat, h ≤ 30 ∧ b 0 = nI h ∧ ∀ c p : Nat, c < 5 → p < 4 → ∃ s : Nat, s < 2 ^ h ∧ b (25 + 4 * c + p) = nI s ∧ (nC ≤ c ∨ nP ≤ p → s = 0)) ∧ ∃ a : Nat, a < 2 ^ nC ∧ b 45 = nI a
def Bq (hr ak : Int32) (ro : Nat → Int32) (se : Nat → Nat → Int32) (b : Nat → Int32) : Prop :=
  hr = b 0 ∧ ak = b 45 ∧ (∀ x : Nat, x < 24 → ro x = b (1 + x)) ∧ ∀ c p : Nat, c < 5 → p < 4 → se c p = b (25 + 4 * c + p)
def Dd (so nu ro : Int32) (b1 b0 : Nat → Int32) : Prop :=
  (so = 0 ∧ nu = b0 0 ∧ (∃ h : Nat, h < 30 ∧ nu = nI h) ∧ (∀ x : Nat, x < 24 → b1 (1 + x) = b0 (1 + x)) ∧ b1 45 = b0 45 ∧ ∀ c p : Nat, c < 5 → p < 4 → b1 (25 + 4 * c + p) &&& ((1 <<< (nu &&& 31)) - 1) = b0 (25 + 4 * c + p)) ∨
  (so = 1 ∧ b1 0 = b0 0 ∧ b1 45 = b0 45 ∧ (∀ c p : Nat, c < 5 → p < 4 → b1 (25 + 4 * c + p) = b0 (25 + 4 * c + p)) ∧ ∃ x : Nat, x < 24 ∧ nu = nI x ∧ ro = b0 (1 + x) ∧ ∀ y : Nat, y < 24 → y ≠ x → b1 (1 + y) = b0 (1 + y)) ∨
  (so = 2 ∧ b1 0 = b0 0 ∧ (∀ x : Nat, x < 24 → b1 (1 + x) = b0 (1 + x)) ∧ (∀ c p : Nat, c < 5 → p < 4 → b1 (25 + 4 * c + p) = b0 (25 + 4 * c + p)) ∧ b1 45 &&& ((1 <<< (nu &&& 31)) ^^^ (-1)) = b0 45)
/-- the j-th of d remembered states; the d-th is the present -/
def sn (st : Nat → Int32) (d j : Nat) : Nat → Int32 := fun k => if j = d then st k else st (47 + 46 * j + k)
def PRd (nC nP d : Nat) (hr ak dn : Int32) (ro : Nat → Int32) (se : Nat → Nat → Int32) (ds dm dr : Nat → Int32) (st : Nat → Int32) : Prop :=
  Bq hr ak ro se st ∧ d ≤ 10 ∧ dn = nI d ∧ st 46 = nI d ∧ (∀ j : Nat, j ≤ d → Vb nC nP (sn st d j)) ∧ ∀ j : Nat, j < d → Dd (ds j) (dm j) (dr j) (sn st d (j + 1)) (sn st d j)
def PR (nC nP : Nat) (hr ak dn : Int32) (ro : Nat → Int32) (se : Nat → Nat → Int32) (ds dm dr : Nat → Int32) (st : Nat → Int32) : Prop :=
  ∃ d : Nat, PRd nC nP d hr ak dn ro se ds dm dr st
/-- what was told -/
def Tr (nC nP nS : Nat) (u v : St) : Prop :=
  (nC ≤ 5 ∧ nP ≤ 4 ∧ nS ≤ 4) ∧ (u.1 7 = nI nC ∧ v.1 0 = nI nC) ∧ (u.1 8 = nI nP ∧ v.1 1 = nI nP) ∧ (u.1 9 = nI nS ∧ v.1 2 = nI nS) ∧
  (∀ c : Nat, c < nC → u.2.1 (17 + c) 0 = v.2.1 0 c ∧ u.2.1 (17 + c) 1 = v.2.1 1 c ∧ u.2.1 (17 + c) 2 = v.2.1 2 c ∧ u.2.1 (17 + c) 3 = v.2.1 3 c ∧ (∃ x : Nat, x < 24 ∧ v.2.1 0 c = nI x) ∧ (v.2.1 2 c = 0 ∨ v.2.1 2 c = 1)) ∧
  (∀ p : Nat, p < nP → u.2.1 (22 + p) 0 = v.2.1 4 p ∧ u.2.1 (22 + p) 1 = v.2.1 5 p) ∧
  ∀ s : Nat, s < nS → u.2.1 (26 + s) 0 = v.2.1 6 (3 * s) ∧ u.2.1 (26 + s) 1 = v.2.1 6 (3 * s + 1) ∧ u.2.1 (26 + s) 2 = v.2.1 6 (3 * s + 2)
/-- the present -/
def Pn (nC nP : Nat) (u v : St) : Prop :=
  PR nC nP (u.1 10) (u.1 11) (u.1 12) (u.2.1 30) (fun c => u.2.1 (31 + c)) (u.2.1 36) (u.2.1 37) (u.2.1 38) (v.2.1 7)
/-- the two images -/
def Im (nC nP : Nat) (u v : St) : Prop :=
  ∃ b : Nat, b < 4 ∧ u.1 21 = nI b ∧
  (v.2.1 9 0 = bI (b.testBit 0) ∧ (b.testBit 0 = true → PR nC nP (u.1 15) (u.1 16) (u.1 17) (u.2.1 43) (fun c => u.2.1 (44 + c)) (u.2.1 49) (u.2.1 50) (u.2.1 51) (fun k => v.2.1 8 k))) ∧
  (v.2.1 9 1 = bI (b.testBit 1) ∧ (b.testBit 1 = true → PR nC nP (u.1 18) (u.1 19) (u.1 20) (u.2.1 52) (fun c => u.2.1 (53 + c)) (u.2.1 58) (u.2.1 59) (u.2.1 60) (fun k => v.2.1 8 (507 + k))))
/-- the text -/
def Tx (u v : St) : Prop := (∃ n : Nat, n ≤ 150 ∧ u.1 0 = nI n ∧ v.1 5 = nI n) ∧ u.2.1 0 = v.2.1 12 ∧ ∀ i : Nat, 0 ≤ u.2.1 0 i
/-- the two lists of a stranger's hints -/
def Cl (u v : St) : Prop :=
  (∃ f : Nat, f ≤ 6 ∧ u.1 13 = nI f ∧ v.1 3 = nI f ∧ ∀ k : Nat, k < f → u.2.1 39 k = v.2.1 10 (2 * k) ∧ u.2.1 40 k = v.2.1 10 (2 * k + 1)) ∧
  ∃ f : Nat, f ≤ 6 ∧ u.1 14 = nI f ∧ v.1 4 = nI f ∧ ∀ k : Nat, k < f → u.2.1 41 k = v.2.1 11 (2 * k) ∧ u.2.1 42 k = v.2.1 11 (2 * k + 1)
def RR (nC nP nS : Nat) (u v : St) : Prop := Tr nC nP nS u v ∧ Pn nC nP u v ∧ Im nC nP u v ∧ Tx u v ∧ Cl u v ∧ u.2.2 = v.2.2
def R (u v : St) : Prop := ∃ nC nP nS : Nat, RR nC nP nS u v
theorem Bq.congr {hr ak hr' ak' : Int32} {ro ro' : Nat → Int32} {se se' : Nat → Nat → Int32} {b b' : Nat → Int32} (h : Bq hr ak ro se b) (h1 : hr' = hr) (h2 : ak' = ak) (h3 : ∀ x, x < 24 → ro' x = ro x) (h4 : ∀ c p, c < 5 → p < 4 → se' c p = se c p) (h5 : ∀ k, k < 46 → b' k = b k) : Bq hr' ak' ro' se' b' := by
  refine ⟨?_, ?_, fun x hx => ?_, fun c p hc hp => ?_⟩
  · rw [h1, h5 0 (by omega)]; exact h.1
  · rw [h2, h5 45 (by omega)]; exact h.2.1
  · rw [h3 x hx, h5 _ (by omega)]; exact h.2.2.1 x hx
  · rw [h4 c p hc hp, h5 _ (by omega)]; exact h.2.2.2 c p hc hp
theorem Vb.congr {nC nP : Nat} {b b' : Nat → Int32} (h : Vb nC nP b) (h5 : ∀ k, k < 46 → b' k = b k) : Vb nC nP b' := by
  obtain ⟨⟨t, h1, h2, h3⟩, a, h4, h6⟩ := h
  refine ⟨⟨t, h1, by rw [h5 0 (by omega)]; exact h2, fun c p hc hp => ?_⟩, a, h4, by rw [h5 45 (by omega)]; exact h6⟩
  rw [h5 _ (by omega)]; exact h3 c p hc hp
theorem Dd.congr {so nu ro : Int32} {b1 b0 c1 c0 : Nat → Int32} (h : Dd so nu ro b1 b0) (h1 : ∀ k, k < 46 → c1 k = b1 k) (h0 : ∀ k, k < 46 → c0 k = b0 k) : Dd so nu ro c1 c0 := by
  rcases h with ⟨a1, a2, a3, a4, a5, a6⟩ | ⟨a1, a2, a3, a4, x, a5, a6, a7, a8⟩ | ⟨a1, a2, a3, a4, a5⟩
  · refine Or.inl ⟨a1, by rw [h0 0 (by omega)]; exact a2, a3, fun x hx => ?_, ?_, fun c p hc hp => ?_⟩
    · rw [h1 _ (by omega), h0 _ (by omega)]; exact a4 x hx
    · rw [h1 _ (by omega), h0 _ (by omega)]; exact a5
    · rw [h1 _ (by omega), h0 _ (by omega)]; exact a6 c p hc hp
  · refine Or.inr (Or.inl ⟨a1, ?_, ?_, fun c p hc hp => ?_, x, a5, a6, ?_, fun y hy hyx => ?_⟩)
    · rw [h1 _ (by omega), h0 _ (by omega)]; exact a2
    · rw [h1 _ (by omega), h0 _ (by omega)]; exact a3
    · rw [h1 _ (by omega), h0 _ (by omega)]; exact a4 c p hc hp
    · rw [h0 _ (by omega)]; exact a7
    · rw [h1 _ (by omega), h0 _ (by omega)]; exact a8 y hy hyx
  · refine Or.inr (Or.inr ⟨a1, ?_, fun x hx => ?_, fun c p hc hp => ?_, ?_⟩)
    · rw [h1 _ (by omega), h0 _ (by omega)]; exact a2
    · rw [h1 _ (by omega), h0 _ (by omega)]; exact a3 x hx
    · rw [h1 _ (by omega), h0 _ (by omega)]; exact a4 c p hc hp
    · rw [h1 _ (by omega), h0 _ (by omega)]; exact a5
theorem sn_lt {st : Nat → Int32} {d j : Nat} (h : j < d) : sn st d j = fun k => st (47 + 46 * j + k) := by
  funext k; exact if_neg (by omega)
theorem sn_eq {st : Nat → Int32} {d : Nat} : sn st d d = st := by
  funext k; exact if_pos rfl
theorem sn_congr {st st' : Nat → Int32} {d j : Nat} (h : ∀ k, k < 507 → st' k = st k) (hj : j ≤ d) (hd : d ≤ 10) : ∀ k, k < 46 → sn st' d j k = sn st d j k := by
  intro k hk
  unfold sn
  by_cases q : j = d
  · rw [if_pos q, if_pos q]; exact h k (by omega)
  · rw [if_neg q, if_neg q]; exact h _ (by omega)
theorem PRd.congr {nC nP d : Nat} {hr ak dn hr' ak' dn' : Int32} {ro ds dm dr ro' ds' dm' dr' : Nat → Int32} {se se' : Nat → Nat → Int32} {st st' : Nat → Int32} (h : PRd nC nP d hr ak dn ro se ds dm dr st)
    (h1 : hr' = hr) (h2 : ak' = ak) (h3 : dn' = dn) (h4 : ∀ x, x < 24 → ro' x = ro x) (h5 : ∀ c p, c < 5 → p < 4 → se' c p = se c p) (h6 : ∀ j, j < 10 → ds' j = ds j ∧ dm' j = dm j ∧ dr' j = dr j) (h7 : ∀ k, k < 507 → st' k = st k) : PRd nC nP d hr' ak' dn' ro' se' ds' dm' dr' st' := by
  obtain ⟨a1, a2, a3, a4, a5, a6⟩ := h
  refine ⟨a1.congr h1 h2 h4 h5 fun k hk => h7 k (by omega), a2, by rw [h3]; exact a3, by rw [h7 46 (by omega)]; exact a4, fun j hj => (a5 j hj).congr (sn_congr h7 hj a2), fun j hj => ?_⟩
  obtain ⟨e1, e2, e3⟩ := h6 j (by omega)
  rw [e1, e2, e3]
  exact (a6 j hj).congr (sn_congr h7 hj a2) (sn_congr h7 (by omega) a2)
theorem PR.congr {nC nP : Nat} {hr ak dn hr' ak' dn' : Int32} {ro ds dm dr ro' ds' dm' dr' : Nat → Int32} {se se' : Nat → Nat → Int32} {st st' : Nat → Int32} (h : PR nC nP hr ak dn ro se ds dm dr st)
    (h1 : hr' = hr) (h2 : ak' = ak) (h3 : dn' = dn) (h4 : ∀ x, x < 24 → ro' x = ro x) (h5 : ∀ c p, c < 5 → p < 4 → se' c p = se c p) (h6 : ∀ j, j < 10 → ds' j = ds j ∧ dm' j = dm j ∧ dr' j = dr j) (h7 : ∀ k, k < 507 → st' k = st k) : PR nC nP hr' ak' dn' ro' se' ds' dm' dr' st' :=
  h.elim fun d hd => ⟨d, hd.congr h1 h2 h3 h4 h5 h6 h7⟩
-- frames: what each piece reads
theorem Tr.fr {nC nP nS : Nat} {u v u' v' : St} (h : Tr nC nP nS u v) (h1 : ∀ k, 7 ≤ k → k ≤ 9 → u'.1 k = u.1 k) (h2 : ∀ k, 17 ≤ k → k ≤ 29 → u'.2.1 k = u.2.1 k) (h3 : ∀ k, k ≤ 2 → v'.1 k = v.1 k) (h4 : ∀ k, k ≤ 6 → v'.2.1 k = v.2.1 k) : Tr nC nP nS u' v' := by
  obtain ⟨⟨b1, b2, b3⟩, ⟨c1, c2⟩, ⟨d1, d2⟩, ⟨e1, e2⟩, f, g, i⟩ := h
  refine ⟨⟨b1, b2, b3⟩, ⟨by rw [h1 _ (by omega) (by omega)]; exact c1, by rw [h3 _ (by omega)]; exact c2⟩, ⟨by rw [h1 _ (by omega) (by omega)]; exact d1, by rw [h3 _ (by omega)]; exact d2⟩, ⟨by rw [h1 _ (by omega) (by omega)]; exact e1, by rw [h3 _ (by omega)]; exact e2⟩, fun c hc => ?_, fun p hp => ?_, fun s hs => ?_⟩
  · rw [h2 _ (by omega) (by omega), h4 0 (by omega), h4 1 (by omega), h4 2 (by omega), h4 3 (by omega)]; exact f c hc
  · rw [h2 _ (by omega) (by omega), h4 4 (by omega), h4 5 (by omega)]; exact g p hp
  · rw [h2 _ (by omega) (by omega), h4 6 (by omega)]; exact i s hs
theorem Pn.fr {nC nP : Nat} {u v u' v' : St} (h : Pn nC nP u v) (h1 : ∀ k, 10 ≤ k → k ≤ 12 → u'.1 k = u.1 k) (h2 : ∀ k, 30 ≤ k → k ≤ 38 → u'.2.1 k = u.2.1 k) (h4 : v'.2.1 7 = v.2.1 7) : Pn nC nP u' v' := by
  refine PR.congr h (h1 _ (by omega) (by omega)) (h1 _ (by omega) (by omega)) (h1 _ (by omega) (by omega)) (fun x _ => by rw [h2 30 (by omega) (by omega)]) (fun c p hc _ => by rw [h2 _ (by omega) (by omega)]) (fun j _ => by rw [h2 36 (by omega) (by omega), h2 37 (by omega) (by omega), h2 38 (by omega) (by omega)]; exact ⟨rfl, rfl, rfl⟩) fun k _ => by rw [h4]
theorem Im.fr {nC nP : Nat} {u v u' v' : St} (h : Im nC nP u v) (h1 : ∀ k, 15 ≤ k → k ≤ 21 → u'.1 k = u.1 k) (h2 : ∀ k, 43 ≤ k → k ≤ 60 → u'.2.1 k = u.2.1 k) (h4 : ∀ k, 8 ≤ k → k ≤ 9 → v'.2.1 k = v.2.1 k) : Im nC nP u' v' := by
  obtain ⟨b, b1, b2, ⟨b3, b4⟩, b5, b6⟩ := h
  refine ⟨b, b1, by rw [h1 _ (by omega) (by omega)]; exact b2, ⟨by rw [h4 9 (by omega) (by omega)]; exact b3, fun q => ?_⟩, by rw [h4 9 (by omega) (by omega)]; exact b5, fun q => ?_⟩
  · exact PR.congr (b4 q) (h1 _ (by omega) (by omega)) (h1 _ (by omega) (by omega)) (h1 _ (by omega) (by omega)) (fun x _ => by rw [h2 _ (by omega) (by omega)]) (fun c p hc _ => by rw [h2 _ (by omega) (by omega)]) (fun j _ => by rw [h2 49 (by omega) (by omega), h2 50 (by omega) (by omega), h2 51 (by omega) (by omega)]; exact ⟨rfl, rfl, rfl⟩) fun k _ => by rw [h4 8 (by omega) (by omega)]
  · exact PR.congr (b6 q) (h1 _ (by omega) (by omega)) (h1 _ (by omega) (by omega)) (h1 _ (by omega) (by omega)) (fun x _ => by rw [h2 _ (by omega) (by omega)]) (fun c p hc _ => by rw [h2 _ (by omega) (by omega)]) (fun j _ => by rw [h2 58 (by omega) (by omega), h2 59 (by omega) (by omega), h2 60 (by omega) (by omega)]; exact ⟨rfl, rfl, rfl⟩) fun k _ => by rw [h4 8 (by omega) (by omega)]
theorem Tx.fr {u v u' v' : St} (h : Tx u v) (h1 : u'.1 0 = u.1 0) (h2 : u'.2.1 0 = u.2.1 0) (h3 : v'.1 5 = v.1 5) (h4 : v'.2.1 12 = v.2.1 12) : Tx u' v' := by
  unfold Tx at h ⊢; rw [h1, h2, h3, h4]; exact h
theorem Cl.fr {u v u' v' : St} (h : Cl u v) (h1 : ∀ k, 13 ≤ k → k ≤ 14 → u'.1 k = u.1 k) (h2 : ∀ k, 39 ≤ k → k ≤ 42 → u'.2.1 k = u.2.1 k) (h3 : ∀ k, 3 ≤ k → k ≤ 4 → v'.1 k = v.1 k) (h4 : ∀ k, 10 ≤ k → k ≤ 11 → v'.2.1 k = v.2.1 k) : Cl u' v' := by
  unfold Cl at h ⊢
  rw [h1 13 (by omega) (by omega), h1 14 (by omega) (by omega), h2 39 (by omega) (by omega), h2 40 (by omega) (by omega), h2 41 (by omega) (by omega), h2 42 (by omega) (by omega), h3 3 (by omega) (by omega), h3 4 (by omega) (by omega), h4 10 (by omega) (by omega), h4 11 (by omega) (by omega)]; exact h
theorem R_0 : R st0 st0 := by
  refine ⟨0, 0, 0, ⟨⟨by omega, by omega, by omega⟩, ⟨rfl, rfl⟩, ⟨rfl, rfl⟩, ⟨rfl, rfl⟩, fun c hc => absurd hc (by omega), fun c hc => absurd hc (by omega), fun c hc => absurd hc (by omega)⟩, ⟨0, ⟨rfl, rfl, fun _ _ => rfl, fun _ _ _ _ => rfl⟩, by omega, rfl, rfl, fun j hj => ?_, fun j hj => absurd hj (by omega)⟩, ⟨0, by omega, rfl, ⟨rfl, fun q => by cases q⟩, rfl, fun q => by cases q⟩, ⟨⟨0, by omega, rfl, rfl⟩, rfl, fun _ => Int32.le_refl 0⟩, ⟨⟨0, by omega, rfl, rfl, fun k hk => absurd hk (by omega)⟩, 0, by omega, rfl, rfl, fun k hk => absurd hk (by omega)⟩, rfl⟩
  have e : sn (st0.2.1 7) 0 j = fun _ => 0 := by funext k; unfold sn; by_cases q : j = 0 <;> simp [q, st0]
  rw [e]
  exact ⟨⟨0, by omega, rfl, fun c p _ _ => ⟨0, by omega, rfl, fun _ => rfl⟩⟩, 0, by omega, rfl⟩
