def L_X7_copyRows_12_32_2 (k : Int32 → St → Option (St)) : Nat → Int32 → St → Option (St)
  | 0, _, _ => none
  | n + 1, x2, u =>
    if 4 ≤ x2 then
      k x2 u
    else
      if oob x2 4 then none else
      if oobs 0 (if 2 < 2 then 2 else 2) 2 then none else
      if oobs 0 (if 2 < 2 then 2 else 2) 2 then none else
      L_X7_copyRows_12_32_2 k n (x2 + 1) (sA u (22 + (Int32.toNatClampNeg x2)) (va_cpy (u.2.1 (7 + (Int32.toNatClampNeg x2))) (u.2.1 (22 + (Int32.toNatClampNeg x2))) 0 0 (Int32.toNatClampNeg (if 2 < 2 then 2 else 2))))
set_option maxHeartbeats 4000000 in
set_option maxRecDepth 100000 in
theorem b_X7_copyRows_12_32_2 {p : Program} {l : Launch} {e : Env} {s : State} {m : MethodId} {args : Array Value} {below : List Frame} {meth : Method} {c : Code} {g : Gx} {res : St} {k : Int32 → St → Option (St)} (C : Cx p s m meth c args cX7_copyRows RX7 3 (none) 82 g)
    (hk : ∀ (x2 : Int32) (u : St) (H : Heap) (locs : List Loc) (ls : Array Slot), Zx wC g (Aw 82 g s.heap.size) s H locs u → lv_has ls 3 [] → k x2 u = some res → W p l e (rmX 1 60) s m args below meth c H locs 0 0 (QV wC 82 g res below args s) (F0 m 42 ls [])) :
    ∀ (n : Nat) (x2 : Int32) (u : St) (H : Heap) (locs : List Loc) (ls : Array Slot), Zx wC g (Aw 82 g s.heap.size) s H locs u → lv_has ls 3 [(0, .ref (g.2.2 12)), (1, .ref (g.2.2 32)), (2, .int x2)] → L_X7_copyRows_12_32_2 k n x2 u = some res → W p l e (rmX 1 60) s m args below meth c H locs 0 0 (QV wC 82 g res below args s) (F0 m 2 ls []) := by
  have hx := C.1
  have hb := C.2.1
  intro n
  induction n with
  | zero =>
    intro x2 u H locs ls Z hl hf
    rw [L_X7_copyRows_12_32_2.eq_1] at hf
    cases hf
  | succ n ih =>
    intro x2 u H locs ls Z hl hf
    rw [L_X7_copyRows_12_32_2.eq_2] at hf
    refine lv_iload_n hx hb dX7_copyRows_2 rfl (lv_at hl 2 rfl) ?_
    refine lv_aload_n hx hb dX7_copyRows_3 rfl (lv_at hl 0 rfl) ?_
    refine r_len C Z (aC_12 g _) (t := 1) rfl (v := 4) rfl dX7_copyRows_4 ?_
    refine lv_icmp_ge (tgt := 42) hx hb dX7_copyRows_5 (by decide) (fun hc5 => ?_) (fun hc5 => ?_)
    · rw [if_pos hc5] at hf
      exact hk _ _ H locs ls Z (lv_sub hl [] rfl) hf
    · rw [if_neg hc5] at hf
      refine lv_iload_n hx hb dX7_copyRows_8 rfl (lv_at hl 2 rfl) ?_
      refine lv_aload_n hx hb dX7_copyRows_9 rfl (lv_at hl 1 rfl) ?_
      refine r_len C Z (aC_32 g _) (t := 1) rfl (v := 4) rfl dX7_copyRows_10 ?_
      refine lv_icmp_ge (tgt := 42) hx hb dX7_copyRows_11 (by decide) (fun hq => absurd hq hc5) (fun _ => ?_)
      refine lv_aload_n hx hb dX7_copyRows_14 rfl (lv_at hl 0 rfl) ?_
      refine lv_iload_n hx hb dX7_copyRows_15 rfl (lv_at hl 2 rfl) ?_
      by_cases ho16 : oob x2 4 = true
      · rw [if_pos ho16] at hf; cases hf
      rw [if_neg ho16] at hf
      refine r_aldr C Z (aC_12 g _) ho16 dX7_copyRows_16 (b := g.2.2 (13 + (Int32.toNatClampNeg x2))) rfl ?_
      refine lv_iconst (v := 0) hx hb dX7_copyRows_17 (by decide +kernel) ?_
      refine lv_aload_n hx hb dX7_copyRows_18 rfl (lv_at hl 1 rfl) ?_
      refine lv_iload_n hx hb dX7_copyRows_19 rfl (lv_at hl 2 rfl) ?_
      refine r_aldr C Z (aC_32 g _) ho16 dX7_copyRows_20 (b := g.2.2 (33 + (Int32.toNatClampNeg x2))) rfl ?_
      refine lv_iconst (v := 0) hx hb dX7_copyRows_21 (by decide +kernel) ?_
      refine lv_aload_n hx hb dX7_copyRows_22 rfl (lv_at hl 0 rfl) ?_
      refine lv_iload_n hx hb dX7_copyRows_23 rfl (lv_at hl 2 rfl) ?_
      refine r_aldr C Z (aC_12 g _) ho16 dX7_copyRows_24 (b := g.2.2 (13 + (Int32.toNatClampNeg x2))) rfl ?_
      refine r_len C Z (arC_12 g _ (oob_lt ho16) rfl) (t := 0) rfl (v := 2) rfl dX7_copyRows_25 ?_
      refine lv_aload_n hx hb dX7_copyRows_26 rfl (lv_at hl 1 rfl) ?_
      refine lv_iload_n hx hb dX7_copyRows_27 rfl (lv_at hl 2 rfl) ?_
      refine r_aldr C Z (aC_32 g _) ho16 dX7_copyRows_28 (b := g.2.2 (33 + (Int32.toNatClampNeg x2))) rfl ?_
      refine r_len C Z (arC_32 g _ (oob_lt ho16) rfl) (t := 0) rfl (v := 2) rfl dX7_copyRows_29 ?_
      refine r_min C mw_437 ⟨⟨mw_438, mw_109⟩, mw_439⟩ hl.1 (by decide) (Nat.le_of_ble_eq_true rfl) dX7_copyRows_30 ?_
      by_cases hq33a : oobs 0 (if 2 < 2 then 2 else 2) 2 = true
      · rw [if_pos hq33a] at hf; cases hf
      rw [if_neg hq33a] at hf
      by_cases hq33b : oobs 0 (if 2 < 2 then 2 else 2) 2 = true
      · rw [if_pos hq33b] at hf; cases hf
      rw [if_neg hq33b] at hf
      refine r_copy C wokC Z mw_440 ⟨⟨mw_417, mw_416⟩, mw_108⟩ hl.1 (by decide) (Nat.le_of_ble_eq_true rfl) (arC_12 g _ (oob_lt ho16) (f := (u.2.1 (7 + (Int32.toNatClampNeg x2)))) rfl) (arC_32 g _ (oob_lt ho16) (f := (u.2.1 (22 + (Int32.toNatClampNeg x2)))) rfl) hq33a hq33b (m1 := 0) (by decide) (m2 := 0) (by decide) rfl (srC_32 g _ (oob_lt ho16) _) dX7_copyRows_33 (fun H locs Z => ?_)
      refine lv_iinc (v := (x2 + 1)) (lv' := [(2, .int (x2 + 1)), (0, .ref (g.2.2 12)), (1, .ref (g.2.2 32))]) hx hb dX7_copyRows_36 hl (k := 2) rfl rfl (by decide) rfl (fun ls hl => ?_)
      refine lv_goto (tgt := 2) hx hb dX7_copyRows_39 (by decide) ?_
      exact ih _ _ _ _ _ Z (lv_sub hl [1, 2, 0] rfl) hf
def f_X7_copyRows_12_32 (u : St) : Option (St) :=
  L_X7_copyRows_12_32_2 (fun x2 u2 =>
    some u2) FU 0 u
set_option maxHeartbeats 4000000 in
set_option maxRecDepth 100000 in
theorem c_X7_copyRows_12_32 (l : Launch) {g : Gx} {u : St} {res : St} (hf : f_X7_copyRows_12_32 u = some res) : CV wC 82 l yX7_copyRows (wsY yX7_copyRows cX7_copyRows 3 (none)) (rmX 1 60) g [.ref (g.2.2 12), .ref (g.2.2 32)] u res := by
  refine CV_start (by decide +kernel) rfl (Nat.le_of_ble_eq_true rfl) (fun {p e s m args below meth c ls} C Z hl => ?_)
  have hl : lv_has ls 3 [(0, .ref (g.2.2 12)), (1, .ref (g.2.2 32))] := hl
  have hx := C.1
  have hb := C.2.1
  unfold f_X7_copyRows_12_32 at hf
  refine lv_iconst (v := 0) hx hb dX7_copyRows_0 (by decide +kernel) ?_
  refine lv_istore_n (lv' := [(2, .int 0), (0, .ref (g.2.2 12)), (1, .ref (g.2.2 32))]) hx hb dX7_copyRows_1 rfl hl (by decide) rfl (fun ls hl => ?_)
  refine b_X7_copyRows_12_32_2 C (fun x2 u2 H locs ls Z hl hf => ?_) FU _ _ _ _ _ Z (lv_sub hl [1, 2, 0] rfl) hf
  have hf := Option.some.inj hf
  subst hf
  exact ret_v C Z dX7_copyRows_42
def L_X7_copyRows_17_37_2 (k : Int32 → St → Option (St)) : Nat → Int32 → St → Option (St)
  | 0, _, _ => none
  | n + 1, x2, u =>
    if 4 ≤ x2 then
      k x2 u
    else
      if oob x2 4 then none else
      if oobs 0 (if 3 < 3 then 3 else 3) 3 then none else
      if oobs 0 (if 3 < 3 then 3 else 3) 3 then none else
      L_X7_copyRows_17_37_2 k n (x2 + 1) (sA u (26 + (Int32.toNatClampNeg x2)) (va_cpy (u.2.1 (11 + (Int32.toNatClampNeg x2))) (u.2.1 (26 + (Int32.toNatClampNeg x2))) 0 0 (Int32.toNatClampNeg (if 3 < 3 then 3 else 3))))
set_option maxHeartbeats 4000000 in
set_option maxRecDepth 100000 in
theorem b_X7_copyRows_17_37_2 {p : Program} {l : Launch} {e : Env} {s : State} {m : MethodId} {args : Array Value} {below : List Frame} {meth : Method} {c : Code} {g : Gx} {res : St} {k : Int32 → St → Option (St)} (C : Cx p s m meth c args cX7_copyRows RX7 3 (none) 82 g)
    (hk : ∀ (x2 : Int32) (u : St) (H : Heap) (locs : List Loc) (ls : Array Slot), Zx wC g (Aw 82 g s.heap.size) s H locs u → lv_has ls 3 [] → k x2 u = some res → W p l e (rmX 1 60) s m args below meth c H locs 0 0 (QV wC 82 g res below args s) (F0 m 42 ls [])) :
    ∀ (n : Nat) (x2 : Int32) (u : St) (H : Heap) (locs : List Loc) (ls : Array Slot), Zx wC g (Aw 82 g s.heap.size) s H locs u → lv_has ls 3 [(0, .ref (g.2.2 17)), (1, .ref (g.2.2 37)), (2, .int x2)] → L_X7_copyRows_17_37_2 k n x2 u = some res → W p l e (rmX 1 60) s m args below meth c H locs 0 0 (QV wC 82 g res below args s) (F0 m 2 ls []) := by
  have hx := C.1
  have hb := C.2.1
  intro n
  induction n with
  | zero =>
    intro x2 u H locs ls Z hl hf
    rw [L_X7_copyRows_17_37_2.eq_1] at hf
    cases hf
  | succ n ih =>
    intro x2 u H locs ls Z hl hf
    rw [L_X7_copyRows_17_37_2.eq_2] at hf
    refine lv_iload_n hx hb dX7_copyRows_2 rfl (lv_at hl 2 rfl) ?_
    refine lv_aload_n hx hb dX7_copyRows_3 rfl (lv_at hl 0 rfl) ?_
    refine r_len C Z (aC_17 g _) (t := 1) rfl (v := 4) rfl dX7_copyRows_4 ?_
    refine lv_icmp_ge (tgt := 42) hx hb dX7_copyRows_5 (by decide) (fun hc5 => ?_) (fun hc5 => ?_)
    · rw [if_pos hc5] at hf
      exact hk _ _ H locs ls Z (lv_sub hl [] rfl) hf
    · rw [if_neg hc5] at hf
      refine lv_iload_n hx hb dX7_copyRows_8 rfl (lv_at hl 2 rfl) ?_
      refine lv_aload_n hx hb dX7_copyRows_9 rfl (lv_at hl 1 rfl) ?_
      refine r_len C Z (aC_37 g _) (t := 1) rfl (v := 4) rfl dX7_copyRows_10 ?_
      refine lv_icmp_ge (tgt := 42) hx hb dX7_copyRows_11 (by decide) (fun hq => absurd hq hc5) (fun _ => ?_)
      refine lv_aload_n hx hb dX7_copyRows_14 rfl (lv_at hl 0 rfl) ?_
      refine lv_iload_n hx hb dX7_copyRows_15 rfl (lv_at hl 2 rfl) ?_
      by_cases ho16 : oob x2 4 = true
      · rw [if_pos ho16] at hf; cases hf
      rw [if_neg ho16] at hf
      refine r_aldr C Z (aC_17 g _) ho16 dX7_copyRows_16 (b := g.2.2 (18 + (Int32.toNatClampNeg x2))) rfl ?_
      refine lv_iconst (v := 0) hx hb dX7_copyRows_17 (by decide +kernel) ?_
      refine lv_aload_n hx hb dX7_copyRows_18 rfl (lv_at hl 1 rfl) ?_
      refine lv_iload_n hx hb dX7_copyRows_19 rfl (lv_at hl 2 rfl) ?_
      refine r_aldr C Z (aC_37 g _) ho16 dX7_copyRows_20 (b := g.2.2 (38 + (Int32.toNatClampNeg x2))) rfl ?_
      refine lv_iconst (v := 0) hx hb dX7_copyRows_21 (by decide +kernel) ?_
      refine lv_aload_n hx hb dX7_copyRows_22 rfl (lv_at hl 0 rfl) ?_
      refine lv_iload_n hx hb dX7_copyRows_23 rfl (lv_at hl 2 rfl) ?_
      refine r_aldr C Z (aC_17 g _) ho16 dX7_copyRows_24 (b := g.2.2 (18 + (Int32.toNatClampNeg x2))) rfl ?_
      refine r_len C Z (arC_17 g _ (oob_lt ho16) rfl) (t := 0) rfl (v := 3) rfl dX7_copyRows_25 ?_
      refine lv_aload_n hx hb dX7_copyRows_26 rfl (lv_at hl 1 rfl) ?_
      refine lv_iload_n hx hb dX7_copyRows_27 rfl (lv_at hl 2 rfl) ?_
      refine r_aldr C Z (aC_37 g _) ho16 dX7_copyRows_28 (b := g.2.2 (38 + (Int32.toNatClampNeg x2))) rfl ?_
      refine r_len C Z (arC_37 g _ (oob_lt ho16) rfl) (t := 0) rfl (v := 3) rfl dX7_copyRows_29 ?_
      refine r_min C mw_437 ⟨⟨mw_438, mw_109⟩, mw_439⟩ hl.1 (by decide) (Nat.le_of_ble_eq_true rfl) dX7_copyRows_30 ?_
      by_cases hq33a : oobs 0 (if 3 < 3 then 3 else 3) 3 = true
      · rw [if_pos hq33a] at hf; cases hf
      rw [if_neg hq33a] at hf
      by_cases hq33b : oobs 0 (if 3 < 3 then 3 else 3) 3 = true
      · rw [if_pos hq33b] at hf; cases hf
      rw [if_neg hq33b] at hf
      refine r_copy C wokC Z mw_440 ⟨⟨mw_417, mw_416⟩, mw_108⟩ hl.1 (by decide) (Nat.le_of_ble_eq_true rfl) (arC_17 g _ (oob_lt ho16) (f := (u.2.1 (11 + (Int32.toNatClampNeg x2)))) rfl) (arC_37 g _ (oob_lt ho16) (f := (u.2.1 (26 + (Int32.toNatClampNeg x2)))) rfl) hq33a hq33b (m1 := 0) (by decide) (m2 := 0) (by decide) rfl (srC_37 g _ (oob_lt ho16) _) dX7_copyRows_33 (fun H locs Z => ?_)
      refine lv_iinc (v := (x2 + 1)) (lv' := [(2, .int (x2 + 1)), (0, .ref (g.2.2 17)), (1, .ref (g.2.2 37))]) hx hb dX7_copyRows_36 hl (k := 2) rfl rfl (by decide) rfl (fun ls hl => ?_)
      refine lv_goto (tgt := 2) hx hb dX7_copyRows_39 (by decide) ?_
      exact ih _ _ _ _ _ Z (lv_sub hl [1, 2, 0] rfl) hf
def f_X7_copyRows_17_37 (u : St) : Option (St) :=
  L_X7_copyRows_17_37_2 (fun x2 u2 =>
    some u2) FU 0 u
set_option maxHeartbeats 4000000 in
set_option maxRecDepth 100000 in
theorem c_X7_copyRows_17_37 (l : Launch) {g : Gx} {u : St} {res : St} (hf : f_X7_copyRows_17_37 u = some res) : CV wC 82 l yX7_copyRows (wsY yX7_copyRows cX7_copyRows 3 (none)) (rmX 1 60) g [.ref (g.2.2 17), .ref (g.2.2 37)] u res := by
  refine CV_start (by decide +kernel) rfl (Nat.le_of_ble_eq_true rfl) (fun {p e s m args below meth c ls} C Z hl => ?_)
  have hl : lv_has ls 3 [(0, .ref (g.2.2 17)), (1, .ref (g.2.2 37))] := hl
  have hx := C.1
  have hb := C.2.1
  unfold f_X7_copyRows_17_37 at hf
  refine lv_iconst (v := 0) hx hb dX7_copyRows_0 (by decide +kernel) ?_
  refine lv_istore_n (lv' := [(2, .int 0), (0, .ref (g.2.2 17)), (1, .ref (g.2.2 37))]) hx hb dX7_copyRows_1 rfl hl (by decide) rfl (fun ls hl => ?_)
  refine b_X7_copyRows_17_37_2 C (fun x2 u2 H locs ls Z hl hf => ?_) FU _ _ _ _ _ Z (lv_sub hl [1, 2, 0] rfl) hf
  have hf := Option.some.inj hf
  subst hf
  exact ret_v C Z dX7_copyRows_42
def f_X1_becomeAs (u : St) : Option (St) :=
  Option.bind (f_X7_copyRows_6_26 (sA u 16 (va_cpy (u.2.1 1) (u.2.1 16) 0 0 24))) fun r23 =>
  Option.bind (f_X7_copyRows_12_32 r23) fun r34 =>
  Option.bind (f_X7_copyRows_17_37 r34) fun r45 =>
  some (sI (sI (sI r45 7 (r45.1 4)) 8 (r45.1 5)) 9 (r45.1 6))
set_option maxHeartbeats 4000000 in
set_option maxRecDepth 100000 in
theorem c_X1_becomeAs (l : Launch) {g : Gx} {u : St} {res : St} (hf : f_X1_becomeAs u = some res) : CV wC 82 l yX1_becomeAs (wsY yX1_becomeAs cX1_becomeAs 2 (none)) (rmX 2 82) g [.ref (g.2.2 24), .ref (g.2.2 4)] u res := by
  refine CV_start (by decide +kernel) rfl (Nat.le_of_ble_eq_true rfl) (fun {p e s m args below meth c ls} C Z hl => ?_)
  have hl : lv_has ls 2 [(0, .ref (g.2.2 24)), (1, .ref (g.2.2 4))] := hl
  have hx := C.1
  have hb := C.2.1
  unfold f_X1_becomeAs at hf
  refine lv_aload_n hx hb dX1_becomeAs_0 rfl (lv_at hl 1 rfl) ?_
  refine gC_4_0 C Z (fl_of C mw_159) dX1_becomeAs_1 ?_
  refine lv_iconst (v := 0) hx hb dX1_becomeAs_4 (by decide +kernel) ?_
  refine lv_aload_n hx hb dX1_becomeAs_5 rfl (lv_at hl 0 rfl) ?_
  refine gC_24_0 C Z (fl_of C mw_159) dX1_becomeAs_6 ?_
  refine lv_iconst (v := 0) hx hb dX1_becomeAs_9 (by decide +kernel) ?_
  refine lv_bipush (v := 24) hx hb dX1_becomeAs_10 (by decide +kernel) ?_
  refine r_copy C wokC Z mw_415 ⟨⟨mw_417, mw_416⟩, mw_108⟩ hl.1 (by decide) (Nat.le_of_ble_eq_true rfl) (aC_5 g _ (f := (u.2.1 1)) rfl) (aC_25 g _ (f := (u.2.1 16)) rfl) (by decide) (by decide) (m1 := 0) (by decide) (m2 := 0) (by decide) (m3 := 24) (by decide) (sC_25 g _ _) dX1_becomeAs_12 (fun H locs Z => ?_)
  refine lv_aload_n hx hb dX1_becomeAs_15 rfl (lv_at hl 1 rfl) ?_
  refine gC_4_1 C Z (fl_of C mw_162) dX1_becomeAs_16 ?_
  refine lv_aload_n hx hb dX1_becomeAs_19 rfl (lv_at hl 0 rfl) ?_
  refine gC_24_1 C Z (fl_of C mw_162) dX1_becomeAs_20 ?_
  obtain ⟨r23, hr23, hf⟩ := Option.bind_eq_some_iff.mp hf
  refine call_sv (As := [.ref (g.2.2 6), .ref (g.2.2 26)]) (rest := []) C Z (c_X7_copyRows_6_26 l hr23) mf_X7_copyRows (ml_nest C nw_21) rfl ⟨rfl, rfl, by decide, by decide⟩ rfl hl.1 (Nat.le_of_ble_eq_true rfl) dX1_becomeAs_23 (fun H locs Z => ?_)
  refine lv_aload_n hx hb dX1_becomeAs_26 rfl (lv_at hl 1 rfl) ?_
  refine gC_4_2 C Z (fl_of C mw_166) dX1_becomeAs_27 ?_
  refine lv_aload_n hx hb dX1_becomeAs_30 rfl (lv_at hl 0 rfl) ?_
  refine gC_24_2 C Z (fl_of C mw_166) dX1_becomeAs_31 ?_
  obtain ⟨r34, hr34, hf⟩ := Option.bind_eq_some_iff.mp hf
  refine call_sv (As := [.ref (g.2.2 12), .ref (g.2.2 32)]) (rest := []) C Z (c_X7_copyRows_12_32 l hr34) mf_X7_copyRows (ml_nest C nw_21) rfl ⟨rfl, rfl, by decide, by decide⟩ rfl hl.1 (Nat.le_of_ble_eq_true rfl) dX1_becomeAs_34 (fun H locs Z => ?_)
  refine lv_aload_n hx hb dX1_becomeAs_37 rfl (lv_at hl 1 rfl) ?_
  refine gC_4_3 C Z (fl_of C mw_168) dX1_becomeAs_38 ?_
  refine lv_aload_n hx hb dX1_becomeAs_41 rfl (lv_at hl 0 rfl) ?_
  refine gC_24_3 C Z (fl_of C mw_168) dX1_becomeAs_42 ?_
  obtain ⟨r45, hr45, hf⟩ := Option.bind_eq_some_iff.mp hf
  refine call_sv (As := [.ref (g.2.2 17), .ref (g.2.2 37)]) (rest := []) C Z (c_X7_copyRows_17_37 l hr45) mf_X7_copyRows (ml_nest C nw_21) rfl ⟨rfl, rfl, by decide, by decide⟩ rfl hl.1 (Nat.le_of_ble_eq_true rfl) dX1_becomeAs_45 (fun H locs Z => ?_)
  refine lv_aload_n hx hb dX1_becomeAs_48 rfl (lv_at hl 0 rfl) ?_
  refine lv_aload_n hx hb dX1_becomeAs_49 rfl (lv_at hl 1 rfl) ?_
  refine gC_4_4 C Z (fl_of C mw_169) dX1_becomeAs_50 (x := (r45.1 4)) rfl ?_
  refine pC_24_4 C Z (fl_of C mw_169) dX1_becomeAs_53 (fun H locs Z => ?_)
  refine lv_aload_n hx hb dX1_becomeAs_56 rfl (lv_at hl 0 rfl) ?_
  refine lv_aload_n hx hb dX1_becomeAs_57 rfl (lv_at hl 1 rfl) ?_
  refine gC_4_5 C Z (fl_of C mw_173) dX1_becomeAs_58 (x := (r45.1 5)) rfl ?_
  refine pC_24_5 C Z (fl_of C mw_173) dX1_becomeAs_61 (fun H locs Z => ?_)
  refine lv_aload_n hx hb dX1_becomeAs_64 rfl (lv_at hl 0 rfl) ?_
  refine lv_aload_n hx hb dX1_becomeAs_65 rfl (lv_at hl 1 rfl) ?_
  refine gC_4_6 C Z (fl_of C mw_177) dX1_becomeAs_66 (x := (r45.1 6)) rfl ?_
  refine pC_24_6 C Z (fl_of C mw_177) dX1_becomeAs_69 (fun H locs Z => ?_)
  have hf := Option.some.inj hf
  subst hf
  exact ret_v C Z dX1_becomeAs_72
def L_X3_beginOver_29 (k : Int32 → St → Option (St)) : Nat → Int32 → St → Option (St)
  | 0, _, _ => none
  | n + 1, x2, u =>
    if 5 ≤ x2 then
      k x2 u
    else
      if oob x2 5 then none else
      L_X3_beginOver_29 k n (x2 + 1) (sA u (31 + (Int32.toNatClampNeg x2)) (fun _ => 0))
set_option maxHeartbeats 4000000 in
set_option maxRecDepth 100000 in
theorem b_X3_beginOver_29 {p : Program} {l : Launch} {e : Env} {s : State} {m : MethodId} {args : Array Value} {below : List Frame} {meth : Method} {c : Code} {g : Gx} {res : St} {k : Int32 → St → Option (St)} (C : Cx p s m meth c args cX3_beginOver RX3 3 (none) 82 g)
    (hk : ∀ (x2 : Int32) (u : St) (H : Heap) (locs : List Loc) (ls : Array Slot), Zx wC g (Aw 82 g s.heap.size) s H locs u → lv_has ls 3 [] → k x2 u = some res → W p l e (rmX 1 60) s m args below meth c H locs 0 0 (QV wC 82 g res below args s) (F0 m 50 ls [])) :
    ∀ (n : Nat) (x2 : Int32) (u : St) (H : Heap) (locs : List Loc) (ls : Array Slot), Zx wC g (Aw 82 g s.heap.size) s H locs u → lv_has ls 3 [(0, .ref (g.2.2 42)), (2, .int x2)] → L_X3_beginOver_29 k n x2 u = some res → W p l e (rmX 1 60) s m args below meth c H locs 0 0 (QV wC 82 g res below args s) (F0 m 29 ls []) := by
  have hx := C.1
  have hb := C.2.1
  intro n
  induction n with
  | zero =>
    intro x2 u H locs ls Z hl hf
    rw [L_X3_beginOver_29.eq_1] at hf
    cases hf
  | succ n ih =>
    intro x2 u H locs ls Z hl hf
    rw [L_X3_beginOver_29.eq_2] at hf
    refine lv_iload_n hx hb dX3_beginOver_29 rfl (lv_at hl 1 rfl) ?_
    refine lv_iconst (v := 5) hx hb dX3_beginOver_30 (by decide +kernel) ?_
    refine lv_icmp_ge (tgt := 50) hx hb dX3_beginOver_31 (by decide) (fun hc31 => ?_) (fun hc31 => ?_)
    · rw [if_pos hc31] at hf
      exact hk _ _ H locs ls Z (lv_sub hl [] rfl) hf
    · rw [if_neg hc31] at hf
      refine lv_aload_n hx hb dX3_beginOver_34 rfl (lv_at hl 0 rfl) ?_
      refine gC_42_3 C Z (fl_of C mw_228) dX3_beginOver_35 ?_
      refine lv_iload_n hx hb dX3_beginOver_38 rfl (lv_at hl 1 rfl) ?_
      by_cases ho39 : oob x2 5 = true
      · rw [if_pos ho39] at hf; cases hf
      rw [if_neg ho39] at hf
      refine r_aldr C Z (aC_44 g _) ho39 dX3_beginOver_39 (b := g.2.2 (45 + (Int32.toNatClampNeg x2))) rfl ?_
      refine lv_iconst (v := 0) hx hb dX3_beginOver_40 (by decide +kernel) ?_
      refine call_sv (As := [.ref (g.2.2 (45 + (Int32.toNatClampNeg x2))), .int 0]) (rest := []) C Z (c_fill l (q := 45 + (Int32.toNatClampNeg x2)) (j := 31 + (Int32.toNatClampNeg x2)) (N := 4) (a := g.2.2 (45 + (Int32.toNatClampNeg x2))) (fun u => arC_44 g u (oob_lt ho39) rfl) (fun u f => srC_44 g u (oob_lt ho39) f) (by decide) 0) mf_J7_fill_53178 (ml_of C mw_446) rfl ⟨rfl, rfl, by decide, by decide⟩ rfl hl.1 (Nat.le_of_ble_eq_true rfl) dX3_beginOver_41 (fun H locs Z => ?_)
      refine lv_iinc (v := (x2 + 1)) (lv' := [(2, .int (x2 + 1)), (0, .ref (g.2.2 42))]) hx hb dX3_beginOver_44 hl (k := 1) rfl rfl (by decide) rfl (fun ls hl => ?_)
      refine lv_goto (tgt := 29) hx hb dX3_beginOver_47 (by decide) ?_
      exact ih _ _ _ _ _ Z (lv_sub hl [1, 0] rfl) hf
def f_X3_beginOver (u : St) : Option (St) :=
  L_X3_beginOver_29 (fun x2 u29 =>
    some u29) FU 0 (sA (sI (sI (sI u 10 0) 11 0) 12 0) 30 (va_cpy (u.2.1 16) (u.2.1 30) 0 0 24))
set_option maxHeartbeats 4000000 in
set_option maxRecDepth 100000 in
theorem c_X3_beginOver (l : Launch) {g : Gx} {u : St} {res : St} (hf : f_X3_beginOver u = some res) : CV wC 82 l yX3_beginOver (wsY yX3_beginOver cX3_beginOver 3 (none)) (rmX 1 60) g [.ref (g.2.2 42), .ref (g.2.2 25)] u res := by
  refine CV_start (by decide +kernel) rfl (Nat.le_of_ble_eq_true rfl) (fun {p e s m args below meth c ls} C Z hl => ?_)
  have hl : lv_has ls 3 [(0, .ref (g.2.2 42)), (1, .ref (g.2.2 25))] := hl
  have hx := C.1
  have hb := C.2.1
  unfold f_X3_beginOver at hf
  refine lv_aload_n hx hb dX3_beginOver_0 rfl (lv_at hl 0 rfl) ?_
  refine lv_iconst (v := 0) hx hb dX3_beginOver_1 (by decide +kernel) ?_
  refine pC_42_0 C Z (fl_of C mw_218) dX3_beginOver_2 (fun H locs Z => ?_)
  refine lv_aload_n hx hb dX3_beginOver_5 rfl (lv_at hl 0 rfl) ?_
  refine lv_iconst (v := 0) hx hb dX3_beginOver_6 (by decide +kernel) ?_
  refine pC_42_1 C Z (fl_of C mw_222) dX3_beginOver_7 (fun H locs Z => ?_)
  refine lv_aload_n hx hb dX3_beginOver_10 rfl (lv_at hl 0 rfl) ?_
  refine lv_iconst (v := 0) hx hb dX3_beginOver_11 (by decide +kernel) ?_
  refine pC_42_7 C Z (fl_of C mw_234) dX3_beginOver_12 (fun H locs Z => ?_)
  refine lv_aload_n hx hb dX3_beginOver_15 rfl (lv_at hl 1 rfl) ?_
  refine lv_iconst (v := 0) hx hb dX3_beginOver_16 (by decide +kernel) ?_
  refine lv_aload_n hx hb dX3_beginOver_17 rfl (lv_at hl 0 rfl) ?_
  refine gC_42_2 C Z (fl_of C mw_225) dX3_beginOver_18 ?_
  refine lv_iconst (v := 0) hx hb dX3_beginOver_21 (by decide +kernel) ?_
  refine lv_bipush (v := 24) hx hb dX3_beginOver_22 (by decide +kernel) ?_
  refine r_copy C wokC Z mw_445 ⟨⟨mw_417, mw_416⟩, mw_108⟩ hl.1 (by decide) (Nat.le_of_ble_eq_true rfl) (aC_25 g _ (f := (u.2.1 16)) rfl) (aC_43 g _ (f := (u.2.1 30)) rfl) (by decide) (by decide) (m1 := 0) (by decide) (m2 := 0) (by decide) (m3 := 24) (by decide) (sC_43 g _ _) dX3_beginOver_24 (fun H locs Z => ?_)
  refine lv_iconst (v := 0) hx hb dX3_beginOver_27 (by decide +kernel) ?_
  refine lv_istore_n (lv' := [(2, .int 0), (0, .ref (g.2.2 42)), (1, .ref (g.2.2 25))]) hx hb dX3_beginOver_28 rfl hl (by decide) rfl (fun ls hl => ?_)
  refine b_X3_beginOver_29 C (fun x2 u29 H locs ls Z hl hf => ?_) FU _ _ _ _ _ Z (lv_sub hl [1, 0] rfl) hf
  have hf := Option.some.inj hf
  subst hf
  exact ret_v C Z dX3_beginOver_50
def f_X6_beginWith (u : St) : Option (St) :=
  Option.bind (f_X1_becomeAs u) fun r5 =>
  Option.bind (f_X3_beginOver r5) fun r19 =>
  some r19
set_option maxHeartbeats 4000000 in
set_option maxRecDepth 100000 in
theorem c_X6_beginWith (l : Launch) {g : Gx} {u : St} {res : St} (hf : f_X6_beginWith u = some res) : CV wC 82 l yX6_beginWith (wsY yX6_beginWith cX6_beginWith 2 (none)) (rmX 3 103) g [.ref (g.2.2 23), .ref (g.2.2 4)] u res := by
  refine CV_start (by decide +kernel) rfl (Nat.le_of_ble_eq_true rfl) (fun {p e s m args below meth c ls} C Z hl => ?_)
  have hl : lv_has ls 2 [(0, .ref (g.2.2 23)), (1, .ref (g.2.2 4))] := hl
  have hx := C.1
  have hb := C.2.1
  unfold f_X6_beginWith at hf
  refine lv_aload_n hx hb dX6_beginWith_0 rfl (lv_at hl 0 rfl) ?_
  refine gC_23_0 C Z (fl_of C mw_253) dX6_beginWith_1 ?_
  refine lv_aload_n hx hb dX6_beginWith_4 rfl (lv_at hl 1 rfl) ?_
  obtain ⟨r5, hr5, hf⟩ := Option.bind_eq_some_iff.mp hf
  refine call_vv (As := [.ref (g.2.2 4)]) (rest := []) C Z (c_X1_becomeAs l hr5) mf_X1_becomeAs (ml_nest C nw_20) rfl (oC_24 g _) rfl ⟨rfl, rfl, by decide, by decide⟩ rfl hl.1 (Nat.le_of_ble_eq_true rfl) dX6_beginWith_5 (fun H locs Z => ?_)
  refine lv_aload_n hx hb dX6_beginWith_8 rfl (lv_at hl 0 rfl) ?_
  refine gC_23_1 C Z (fl_of C mw_256) dX6_beginWith_9 ?_
  refine lv_aload_n hx hb dX6_beginWith_12 rfl (lv_at hl 0 rfl) ?_
  refine gC_23_0 C Z (fl_of C mw_253) dX6_beginWith_13 ?_
  refine gC_24_0 C Z (fl_nest C nw_72) dX6_beginWith_16 ?_
  obtain ⟨r19, hr19, hf⟩ := Option.bind_eq_some_iff.mp hf
  refine call_vv (As := [.ref (g.2.2 25)]) (rest := []) C Z (c_X3_beginOver l hr19) mf_X3_beginOver (ml_nest C nw_22) rfl (oC_42 g _) rfl ⟨rfl, rfl, by decide, by decide⟩ rfl hl.1 (Nat.le_of_ble_eq_true rfl) dX6_beginWith_19 (fun H locs Z => ?_)
  have hf := Option.some.inj hf
  subst hf
  exact ret_v C Z dX6_beginWith_22
def f_X0_drop (u : St) : Option (St) :=
  some (sI (sI u 13 0) 14 0)
set_option maxHeartbeats 4000000 in
set_option maxRecDepth 100000 in
theorem c_X0_drop (l : Launch) {g : Gx} {u : St} {res : St} (hf : f_X0_drop u = some res) : CV wC 82 l yX0_drop (wsY yX0_drop cX0_drop 1 (none)) (rmX 0 0) g [.ref (g.2.2 53)] u res := by
  refine CV_start (by decide +kernel) rfl (Nat.le_of_ble_eq_true rfl) (fun {p e s m args below meth c ls} C Z hl => ?_)
  have hl : lv_has ls 1 [(0, .ref (g.2.2 53))] := hl
  have hx := C.1
  have hb := C.2.1
  unfold f_X0_drop at hf
  refine lv_aload_n hx hb dX0_drop_0 rfl (lv_at hl 0 rfl) ?_
  refine lv_iconst (v := 0) hx hb dX0_drop_1 (by decide +kernel) ?_
  refine pC_53_2 C Z (fl_of C mw_272) dX0_drop_2 (fun H locs Z => ?_)
  refine lv_aload_n hx hb dX0_drop_5 rfl (lv_at hl 0 rfl) ?_
  refine lv_iconst (v := 0) hx hb dX0_drop_6 (by decide +kernel) ?_
  refine pC_53_5 C Z (fl_of C mw_276) dX0_drop_7 (fun H locs Z => ?_)
  have hf := Option.some.inj hf
  subst hf
  exact ret_v C Z dX0_drop_10
def f_X7_diocese (u : St) : Option (Int32 × St) :=
  Option.bind (f_X4_readAll u) fun r8 =>
  if 0 ≤ r8.1 then
    Option.bind (f_X6_beginWith r8.2) fun r29 =>
    Option.bind (f_X0_drop r29) fun r36 =>
    Option.bind (f_X5_empty (sI r36 21 0)) fun r48 =>
    some (r8.1, r48)
  else
    some (r8.1, r8.2)
set_option maxHeartbeats 4000000 in
set_option maxRecDepth 100000 in
theorem c_X7_diocese (l : Launch) {g : Gx} {u : St} {res : Int32 × St} (hf : f_X7_diocese u = some res) : CI wC 82 l yX7_diocese (wsY yX7_diocese cX7_diocese 2 (some .int)) (rmX 5 148) g [.ref (g.2.2 0)] u res.1 res.2 := by
  refine CI_start (by decide +kernel) rfl (Nat.le_of_ble_eq_true rfl) (fun {p e s m args below meth c ls} C Z hl => ?_)
  have hl : lv_has ls 2 [(0, .ref (g.2.2 0))] := hl
  have hx := C.1
  have hb := C.2.1
  unfold f_X7_diocese at hf
  refine lv_aload_n hx hb dX7_diocese_0 rfl (lv_at hl 0 rfl) ?_
  refine gC_0_1 C Z (fl_of C mw_306) dX7_diocese_1 ?_
  refine lv_aload_n hx hb dX7_diocese_4 rfl (lv_at hl 0 rfl) ?_
  refine gC_0_0 C Z (fl_of C mw_305) dX7_diocese_5 ?_
  obtain ⟨r8, hr8, hf⟩ := Option.bind_eq_some_iff.mp hf
  refine call_vi (As := [.ref (g.2.2 1)]) (rest := []) C Z (c_X4_readAll l hr8) mf_X4_readAll (ml_nest C nw_11) rfl (oC_3 g _) rfl ⟨rfl, rfl, by decide, by decide⟩ rfl hl.1 (Nat.le_of_ble_eq_true rfl) dX7_diocese_8 (fun H locs Z => ?_)
  refine lv_istore_n (lv' := [(1, .int r8.1), (0, .ref (g.2.2 0))]) hx hb dX7_diocese_11 rfl hl (by decide) rfl (fun ls hl => ?_)
  refine lv_iload_n hx hb dX7_diocese_12 rfl (lv_at hl 0 rfl) ?_
  refine lv_if_ge (tgt := 18) hx hb dX7_diocese_13 (by decide) (fun hc13 => ?_) (fun hc13 => ?_)
  · rw [if_pos hc13] at hf
    refine lv_aload_n hx hb dX7_diocese_18 rfl (lv_at hl 1 rfl) ?_
    refine gC_0_2 C Z (fl_of C mw_307) dX7_diocese_19 ?_
    refine lv_aload_n hx hb dX7_diocese_22 rfl (lv_at hl 1 rfl) ?_
    refine gC_0_1 C Z (fl_of C mw_306) dX7_diocese_23 ?_
    refine gC_3_0 C Z (fl_nest C nw_86) dX7_diocese_26 ?_
    obtain ⟨r29, hr29, hf⟩ := Option.bind_eq_some_iff.mp hf
    refine call_vv (As := [.ref (g.2.2 4)]) (rest := []) C Z (c_X6_beginWith l hr29) mf_X6_beginWith (ml_nest C nw_19) rfl (oC_23 g _) rfl ⟨rfl, rfl, by decide, by decide⟩ rfl hl.1 (Nat.le_of_ble_eq_true rfl) dX7_diocese_29 (fun H locs Z => ?_)
    refine lv_aload_n hx hb dX7_diocese_32 rfl (lv_at hl 1 rfl) ?_
    refine gC_0_3 C Z (fl_of C mw_308) dX7_diocese_33 ?_
    obtain ⟨r36, hr36, hf⟩ := Option.bind_eq_some_iff.mp hf
    refine call_vv (As := []) (rest := []) C Z (c_X0_drop l hr36) mf_X0_drop (ml_nest C nw_23) rfl (oC_53 g _) rfl ⟨rfl, rfl, by decide, by decide⟩ rfl hl.1 (Nat.le_of_ble_eq_true rfl) dX7_diocese_36 (fun H locs Z => ?_)
    refine lv_aload_n hx hb dX7_diocese_39 rfl (lv_at hl 1 rfl) ?_
    refine lv_iconst (v := 0) hx hb dX7_diocese_40 (by decide +kernel) ?_
    refine pC_0_6 C Z (fl_of C mw_311) dX7_diocese_41 (fun H locs Z => ?_)
    refine lv_aload_n hx hb dX7_diocese_44 rfl (lv_at hl 1 rfl) ?_
    refine gC_0_0 C Z (fl_of C mw_305) dX7_diocese_45 ?_
    obtain ⟨r48, hr48, hf⟩ := Option.bind_eq_some_iff.mp hf
    refine call_vv (As := []) (rest := []) C Z (c_X5_empty l hr48) mf_X5_empty (ml_nest C nw_10) rfl (oC_1 g _) rfl ⟨rfl, rfl, by decide, by decide⟩ rfl hl.1 (Nat.le_of_ble_eq_true rfl) dX7_diocese_48 (fun H locs Z => ?_)
    refine lv_iload_n hx hb dX7_diocese_51 rfl (lv_at hl 0 rfl) ?_
    have hf := Option.some.inj hf
    subst hf
    exact ret_i C Z dX7_diocese_52
  · rw [if_neg hc13] at hf
    refine lv_iload_n hx hb dX7_diocese_16 rfl (lv_at hl 0 rfl) ?_
    have hf := Option.some.inj hf
    subst hf
    exact ret_i C Z dX7_diocese_17
def f_X8_letterAt (u : St) (x1 : Int32) : Option (Int32) :=
  if (u.1 5) ≤ x1 then
    some (-1)
  else
    if oob x1 150 then none else
    some ((u.2.1 12) (Int32.toNatClampNeg x1))
set_option maxHeartbeats 4000000 in
set_option maxRecDepth 100000 in
theorem c_X8_letterAt (l : Launch) {g : Gx} {u : St} {x1 : Int32} {res : Int32} (hf : f_X8_letterAt u x1 = some res) : CI wM 22 l yX8_letterAt (wsY yX8_letterAt cX8_letterAt 2 (some .int)) (rmX 0 0) g [.ref (g.2.2 0), .int x1] u res u := by
  refine CI_start (by decide +kernel) rfl (Nat.le_of_ble_eq_true rfl) (fun {p e s m args below meth c ls} C Z hl => ?_)
  have hl : lv_has ls 2 [(0, .ref (g.2.2 0)), (1, .int x1)] := hl
  have hx := C.1
  have hb := C.2.1
  unfold f_X8_letterAt at hf
  refine lv_iload_n hx hb dX8_letterAt_0 rfl (lv_at hl 1 rfl) ?_
  refine lv_aload_n hx hb dX8_letterAt_1 rfl (lv_at hl 0 rfl) ?_
  refine gM_0_19 C Z (fl_of C mw_836) dX8_letterAt_2 (x := (u.1 5)) rfl ?_
  refine lv_icmp_ge (tgt := 17) hx hb dX8_letterAt_5 (by decide) (fun hc5 => ?_) (fun hc5 => ?_)
  · rw [if_pos hc5] at hf
    refine lv_iconst (v := (-1)) hx hb dX8_letterAt_17 (by decide +kernel) ?_
    have hf := Option.some.inj hf
    subst hf
    exact ret_i C Z dX8_letterAt_18
  · rw [if_neg hc5] at hf
    refine lv_aload_n hx hb dX8_letterAt_8 rfl (lv_at hl 0 rfl) ?_
    refine gM_0_18 C Z (fl_of C mw_835) dX8_letterAt_9 ?_
    refine lv_iload_n hx hb dX8_letterAt_12 rfl (lv_at hl 1 rfl) ?_
    by_cases ho13 : oob x1 150 = true
    · rw [if_pos ho13] at hf; cases hf
    rw [if_neg ho13] at hf
    refine r_ald C Z (aM_13 g _ (f := (u.2.1 12)) rfl) ho13 rfl dX8_letterAt_13 (x := ((u.2.1 12) (Int32.toNatClampNeg x1))) rfl ?_
    refine lv_goto (tgt := 18) hx hb dX8_letterAt_14 (by decide) ?_
    have hf := Option.some.inj hf
    subst hf
    exact ret_i C Z dX8_letterAt_18
