def f_X8_saw (u : St) (x1 x2 : Int32) : Option (Int32) :=
  Option.bind (f_X8_isCock u x1) fun r2 =>
  if r2 = 0 then
    some (-1)
  else
    Option.bind (f_X8_isOne u x2) fun r10 =>
    if r10 = 0 then
      some (-1)
    else
      Option.bind (f_X8_sawOf u x1 x2) fun r19 =>
      some r19
set_option maxHeartbeats 4000000 in
set_option maxRecDepth 100000 in
theorem c_X8_saw (l : Launch) {g : Gx} {u : St} {x1 x2 : Int32} {res : Int32} (hf : f_X8_saw u x1 x2 = some res) : CI wM 22 l yX8_saw (wsY yX8_saw cX8_saw 3 (some .int)) (rmX 2 43) g [.ref (g.2.2 0), .int x1, .int x2] u res u := by
  refine CI_start (by decide +kernel) rfl (Nat.le_of_ble_eq_true rfl) (fun {p e s m args below meth c ls} C Z hl => ?_)
  have hl : lv_has ls 3 [(0, .ref (g.2.2 0)), (1, .int x1), (2, .int x2)] := hl
  have hx := C.1
  have hb := C.2.1
  unfold f_X8_saw at hf
  refine lv_aload_n hx hb dX8_saw_0 rfl (lv_at hl 0 rfl) ?_
  refine lv_iload_n hx hb dX8_saw_1 rfl (lv_at hl 1 rfl) ?_
  obtain ⟨r2, hr2, hf⟩ := Option.bind_eq_some_iff.mp hf
  refine call_vi (As := [.int x1]) (rest := []) C Z (c_X8_isCock l hr2) mf_X8_isCock (ml_of C mw_1006) rfl (oM_0 g _) rfl ⟨rfl, rfl, by decide, by decide⟩ rfl hl.1 (Nat.le_of_ble_eq_true rfl) dX8_saw_2 (fun H locs Z => ?_)
  refine lv_if_eq (tgt := 25) hx hb dX8_saw_5 (by decide) (fun hc5 => ?_) (fun hc5 => ?_)
  · rw [if_pos hc5] at hf
    refine lv_iconst (v := (-1)) hx hb dX8_saw_25 (by decide +kernel) ?_
    have hf := Option.some.inj hf
    subst hf
    exact ret_i C Z dX8_saw_26
  · rw [if_neg hc5] at hf
    refine lv_aload_n hx hb dX8_saw_8 rfl (lv_at hl 0 rfl) ?_
    refine lv_iload_n hx hb dX8_saw_9 rfl (lv_at hl 2 rfl) ?_
    obtain ⟨r10, hr10, hf⟩ := Option.bind_eq_some_iff.mp hf
    refine call_vi (As := [.int x2]) (rest := []) C Z (c_X8_isOne l hr10) mf_X8_isOne (ml_of C mw_1039) rfl (oM_0 g _) rfl ⟨rfl, rfl, by decide, by decide⟩ rfl hl.1 (Nat.le_of_ble_eq_true rfl) dX8_saw_10 (fun H locs Z => ?_)
    refine lv_if_eq (tgt := 25) hx hb dX8_saw_13 (by decide) (fun hc13 => ?_) (fun hc13 => ?_)
    · rw [if_pos hc13] at hf
      refine lv_iconst (v := (-1)) hx hb dX8_saw_25 (by decide +kernel) ?_
      have hf := Option.some.inj hf
      subst hf
      exact ret_i C Z dX8_saw_26
    · rw [if_neg hc13] at hf
      refine lv_aload_n hx hb dX8_saw_16 rfl (lv_at hl 0 rfl) ?_
      refine lv_iload_n hx hb dX8_saw_17 rfl (lv_at hl 1 rfl) ?_
      refine lv_iload_n hx hb dX8_saw_18 rfl (lv_at hl 2 rfl) ?_
      obtain ⟨r19, hr19, hf⟩ := Option.bind_eq_some_iff.mp hf
      refine call_vi (As := [.int x1, .int x2]) (rest := []) C Z (c_X8_sawOf l hr19) mf_X8_sawOf (ml_of C mw_1028) rfl (oM_0 g _) rfl ⟨rfl, rfl, by decide, by decide⟩ rfl hl.1 (Nat.le_of_ble_eq_true rfl) dX8_saw_19 (fun H locs Z => ?_)
      refine lv_goto (tgt := 26) hx hb dX8_saw_22 (by decide) ?_
      have hf := Option.some.inj hf
      subst hf
      exact ret_i C Z dX8_saw_26
def L_X3_seenByAnyOf_5 (k : Int32 → Int32 → Option (Int32)) (u : St) (x1 x2 : Int32) : Nat → Int32 → Int32 → Option (Int32)
  | 0, _, _ => none
  | n + 1, x3, x4 =>
    if 5 ≤ x4 then
      k x3 x4
    else
      Option.bind (f_X7_isIn x4 x1) fun r14 =>
      if r14 = 0 then
        L_X3_seenByAnyOf_5 k u x1 x2 n x3 (x4 + 1)
      else
        if oob x4 5 then none else
        if oob x2 4 then none else
        L_X3_seenByAnyOf_5 k u x1 x2 n (x3 ||| ((u.2.1 (31 + (Int32.toNatClampNeg x4))) (Int32.toNatClampNeg x2))) (x4 + 1)
set_option maxHeartbeats 4000000 in
set_option maxRecDepth 100000 in
theorem b_X3_seenByAnyOf_5 {p : Program} {l : Launch} {e : Env} {s : State} {m : MethodId} {args : Array Value} {below : List Frame} {meth : Method} {c : Code} {g : Gx} {u : St} {x1 x2 : Int32} {res : Int32} {k : Int32 → Int32 → Option (Int32)} (C : Cx p s m meth c args cX3_seenByAnyOf RX3 5 (some .int) 82 g)
    (hk : ∀ (x3 x4 : Int32) (H : Heap) (locs : List Loc) (ls : Array Slot), Zx wC g (Aw 82 g s.heap.size) s H locs u → lv_has ls 5 [(3, .int x3)] → k x3 x4 = some res → W p l e (rmX 1 21) s m args below meth c H locs 0 0 (QI wC 82 g res u below args s) (F0 m 38 ls [])) :
    ∀ (n : Nat) (x3 x4 : Int32) (H : Heap) (locs : List Loc) (ls : Array Slot), Zx wC g (Aw 82 g s.heap.size) s H locs u → lv_has ls 5 [(0, .ref (g.2.2 42)), (1, .int x1), (2, .int x2), (3, .int x3), (4, .int x4)] → L_X3_seenByAnyOf_5 k u x1 x2 n x3 x4 = some res → W p l e (rmX 1 21) s m args below meth c H locs 0 0 (QI wC 82 g res u below args s) (F0 m 5 ls []) := by
  have hx := C.1
  have hb := C.2.1
  intro n
  induction n with
  | zero =>
    intro x3 x4 H locs ls Z hl hf
    rw [L_X3_seenByAnyOf_5.eq_1] at hf
    cases hf
  | succ n ih =>
    intro x3 x4 H locs ls Z hl hf
    rw [L_X3_seenByAnyOf_5.eq_2] at hf
    refine lv_iload hx hb dX3_seenByAnyOf_5 (lv_at hl 4 rfl) ?_
    refine lv_iconst (v := 5) hx hb dX3_seenByAnyOf_7 (by decide +kernel) ?_
    refine lv_icmp_ge (tgt := 38) hx hb dX3_seenByAnyOf_8 (by decide) (fun hc8 => ?_) (fun hc8 => ?_)
    · rw [if_pos hc8] at hf
      exact hk _ _ H locs ls Z (lv_sub hl [3] rfl) hf
    · rw [if_neg hc8] at hf
      refine lv_iload hx hb dX3_seenByAnyOf_11 (lv_at hl 4 rfl) ?_
      refine lv_iload_n hx hb dX3_seenByAnyOf_13 rfl (lv_at hl 1 rfl) ?_
      obtain ⟨r14, hr14, hf⟩ := Option.bind_eq_some_iff.mp hf
      refine call_si (As := [.int x4, .int x1]) (rest := []) C Z (c_X7_isIn l hr14) mf_X7_isIn (ml_nest C nw_28) rfl ⟨rfl, rfl, by decide, by decide⟩ rfl hl.1 (Nat.le_of_ble_eq_true rfl) dX3_seenByAnyOf_14 (fun H locs Z => ?_)
      refine lv_if_eq (tgt := 32) hx hb dX3_seenByAnyOf_17 (by decide) (fun hc17 => ?_) (fun hc17 => ?_)
      · rw [if_pos hc17] at hf
        refine lv_iinc (v := (x4 + 1)) (lv' := [(4, .int (x4 + 1)), (0, .ref (g.2.2 42)), (1, .int x1), (2, .int x2), (3, .int x3)]) hx hb dX3_seenByAnyOf_32 hl (k := 4) rfl rfl (by decide) rfl (fun ls hl => ?_)
        refine lv_goto (tgt := 5) hx hb dX3_seenByAnyOf_35 (by decide) ?_
        exact ih _ _ _ _ _ Z (lv_sub hl [1, 2, 3, 4, 0] rfl) hf
      · rw [if_neg hc17] at hf
        refine lv_iload_n hx hb dX3_seenByAnyOf_20 rfl (lv_at hl 3 rfl) ?_
        refine lv_aload_n hx hb dX3_seenByAnyOf_21 rfl (lv_at hl 0 rfl) ?_
        refine gC_42_3 C Z (fl_of C mw_228) dX3_seenByAnyOf_22 ?_
        refine lv_iload hx hb dX3_seenByAnyOf_25 (lv_at hl 4 rfl) ?_
        by_cases ho27 : oob x4 5 = true
        · rw [if_pos ho27] at hf; cases hf
        rw [if_neg ho27] at hf
        refine r_aldr C Z (aC_44 g _) ho27 dX3_seenByAnyOf_27 (b := g.2.2 (45 + (Int32.toNatClampNeg x4))) rfl ?_
        refine lv_iload_n hx hb dX3_seenByAnyOf_28 rfl (lv_at hl 2 rfl) ?_
        by_cases ho29 : oob x2 4 = true
        · rw [if_pos ho29] at hf; cases hf
        rw [if_neg ho29] at hf
        refine r_ald C Z (arC_44 g _ (oob_lt ho27) (f := (u.2.1 (31 + (Int32.toNatClampNeg x4)))) rfl) ho29 rfl dX3_seenByAnyOf_29 (x := ((u.2.1 (31 + (Int32.toNatClampNeg x4))) (Int32.toNatClampNeg x2))) rfl ?_
        refine lv_ior hx hb dX3_seenByAnyOf_30 ?_
        refine lv_istore_n (lv' := [(3, .int (x3 ||| ((u.2.1 (31 + (Int32.toNatClampNeg x4))) (Int32.toNatClampNeg x2)))), (0, .ref (g.2.2 42)), (1, .int x1), (2, .int x2), (4, .int x4)]) hx hb dX3_seenByAnyOf_31 rfl hl (by decide) rfl (fun ls hl => ?_)
        refine lv_iinc (v := (x4 + 1)) (lv' := [(4, .int (x4 + 1)), (3, .int (x3 ||| ((u.2.1 (31 + (Int32.toNatClampNeg x4))) (Int32.toNatClampNeg x2)))), (0, .ref (g.2.2 42)), (1, .int x1), (2, .int x2)]) hx hb dX3_seenByAnyOf_32 hl (k := 4) rfl rfl (by decide) rfl (fun ls hl => ?_)
        refine lv_goto (tgt := 5) hx hb dX3_seenByAnyOf_35 (by decide) ?_
        exact ih _ _ _ _ _ Z (lv_sub hl [2, 3, 4, 1, 0] rfl) hf
def f_X3_seenByAnyOf (u : St) (x1 x2 : Int32) : Option (Int32) :=
  L_X3_seenByAnyOf_5 (fun x3 x4 =>
    some x3) u x1 x2 FU 0 0
set_option maxHeartbeats 4000000 in
set_option maxRecDepth 100000 in
theorem c_X3_seenByAnyOf (l : Launch) {g : Gx} {u : St} {x1 x2 : Int32} {res : Int32} (hf : f_X3_seenByAnyOf u x1 x2 = some res) : CI wC 82 l yX3_seenByAnyOf (wsY yX3_seenByAnyOf cX3_seenByAnyOf 5 (some .int)) (rmX 1 21) g [.ref (g.2.2 42), .int x1, .int x2] u res u := by
  refine CI_start (by decide +kernel) rfl (Nat.le_of_ble_eq_true rfl) (fun {p e s m args below meth c ls} C Z hl => ?_)
  have hl : lv_has ls 5 [(0, .ref (g.2.2 42)), (1, .int x1), (2, .int x2)] := hl
  have hx := C.1
  have hb := C.2.1
  unfold f_X3_seenByAnyOf at hf
  refine lv_iconst (v := 0) hx hb dX3_seenByAnyOf_0 (by decide +kernel) ?_
  refine lv_istore_n (lv' := [(3, .int 0), (0, .ref (g.2.2 42)), (1, .int x1), (2, .int x2)]) hx hb dX3_seenByAnyOf_1 rfl hl (by decide) rfl (fun ls hl => ?_)
  refine lv_iconst (v := 0) hx hb dX3_seenByAnyOf_2 (by decide +kernel) ?_
  refine lv_istore (lv' := [(4, .int 0), (3, .int 0), (0, .ref (g.2.2 42)), (1, .int x1), (2, .int x2)]) hx hb dX3_seenByAnyOf_3 hl (by decide) rfl (fun ls hl => ?_)
  refine b_X3_seenByAnyOf_5 C (fun x3 x4 H locs ls Z hl hf => ?_) FU _ _ _ _ _ Z (lv_sub hl [2, 3, 4, 1, 0] rfl) hf
  refine lv_iload_n hx hb dX3_seenByAnyOf_38 rfl (lv_at hl 0 rfl) ?_
  have hf := Option.some.inj hf
  subst hf
  exact ret_i C Z dX3_seenByAnyOf_39
def f_X7_known (u : St) (x1 : Int32) : Option (Int32) :=
  Option.bind (f_X7_isOne u x1) fun r2 =>
  if r2 = 0 then
    some (-1)
  else
    Option.bind (f_X3_seenByAnyOf u (u.1 11) x1) fun r26 =>
    some r26
set_option maxHeartbeats 4000000 in
set_option maxRecDepth 100000 in
theorem c_X7_known (l : Launch) {g : Gx} {u : St} {x1 : Int32} {res : Int32} (hf : f_X7_known u x1 = some res) : CI wC 82 l yX7_known (wsY yX7_known cX7_known 2 (some .int)) (rmX 2 45) g [.ref (g.2.2 0), .int x1] u res u := by
  refine CI_start (by decide +kernel) rfl (Nat.le_of_ble_eq_true rfl) (fun {p e s m args below meth c ls} C Z hl => ?_)
  have hl : lv_has ls 2 [(0, .ref (g.2.2 0)), (1, .int x1)] := hl
  have hx := C.1
  have hb := C.2.1
  unfold f_X7_known at hf
  refine lv_aload_n hx hb dX7_known_0 rfl (lv_at hl 0 rfl) ?_
  refine lv_iload_n hx hb dX7_known_1 rfl (lv_at hl 1 rfl) ?_
  obtain ⟨r2, hr2, hf⟩ := Option.bind_eq_some_iff.mp hf
  refine call_vi (As := [.int x1]) (rest := []) C Z (c_X7_isOne l hr2) mf_X7_isOne (ml_of C mw_498) rfl (oC_0 g _) rfl ⟨rfl, rfl, by decide, by decide⟩ rfl hl.1 (Nat.le_of_ble_eq_true rfl) dX7_known_2 (fun H locs Z => ?_)
  refine lv_if_eq (tgt := 32) hx hb dX7_known_5 (by decide) (fun hc5 => ?_) (fun hc5 => ?_)
  · rw [if_pos hc5] at hf
    refine lv_iconst (v := (-1)) hx hb dX7_known_32 (by decide +kernel) ?_
    have hf := Option.some.inj hf
    subst hf
    exact ret_i C Z dX7_known_33
  · rw [if_neg hc5] at hf
    refine lv_aload_n hx hb dX7_known_8 rfl (lv_at hl 0 rfl) ?_
    refine gC_0_2 C Z (fl_of C mw_307) dX7_known_9 ?_
    refine gC_23_1 C Z (fl_nest C nw_100) dX7_known_12 ?_
    refine lv_aload_n hx hb dX7_known_15 rfl (lv_at hl 0 rfl) ?_
    refine gC_0_2 C Z (fl_of C mw_307) dX7_known_16 ?_
    refine gC_23_1 C Z (fl_nest C nw_100) dX7_known_19 ?_
    refine gC_42_1 C Z (fl_nest C nw_90) dX7_known_22 (x := (u.1 11)) rfl ?_
    refine lv_iload_n hx hb dX7_known_25 rfl (lv_at hl 1 rfl) ?_
    obtain ⟨r26, hr26, hf⟩ := Option.bind_eq_some_iff.mp hf
    refine call_vi (As := [.int (u.1 11), .int x1]) (rest := []) C Z (c_X3_seenByAnyOf l hr26) mf_X3_seenByAnyOf (ml_nest C nw_33) rfl (oC_42 g _) rfl ⟨rfl, rfl, by decide, by decide⟩ rfl hl.1 (Nat.le_of_ble_eq_true rfl) dX7_known_26 (fun H locs Z => ?_)
    refine lv_goto (tgt := 33) hx hb dX7_known_29 (by decide) ?_
    have hf := Option.some.inj hf
    subst hf
    exact ret_i C Z dX7_known_33
def L_X8_known_14 (k : Int32 → Int32 → Option (Int32)) (u : St) (x1 : Int32) : Nat → Int32 → Int32 → Option (Int32)
  | 0, _, _ => none
  | n + 1, x2, x3 =>
    if (u.1 0) ≤ x3 then
      k x2 x3
    else
      Option.bind (f_X8_isAsked u x3) fun r25 =>
      if r25 = 0 then
        L_X8_known_14 k u x1 n (x2 ||| 0) (x3 + 1)
      else
        Option.bind (f_X8_sawOf u x3 x1) fun r34 =>
        L_X8_known_14 k u x1 n (x2 ||| r34) (x3 + 1)
set_option maxHeartbeats 4000000 in
set_option maxRecDepth 100000 in
theorem b_X8_known_14 {p : Program} {l : Launch} {e : Env} {s : State} {m : MethodId} {args : Array Value} {below : List Frame} {meth : Method} {c : Code} {g : Gx} {u : St} {x1 : Int32} {res : Int32} {k : Int32 → Int32 → Option (Int32)} (C : Cx p s m meth c args cX8_known RX8 4 (some .int) 22 g)
    (hk : ∀ (x2 x3 : Int32) (H : Heap) (locs : List Loc) (ls : Array Slot), Zx wM g (Aw 22 g s.heap.size) s H locs u → lv_has ls 4 [(2, .int x2)] → k x2 x3 = some res → W p l e (rmX 2 43) s m args below meth c H locs 0 0 (QI wM 22 g res u below args s) (F0 m 49 ls [])) :
    ∀ (n : Nat) (x2 x3 : Int32) (H : Heap) (locs : List Loc) (ls : Array Slot), Zx wM g (Aw 22 g s.heap.size) s H locs u → lv_has ls 4 [(0, .ref (g.2.2 0)), (1, .int x1), (2, .int x2), (3, .int x3)] → L_X8_known_14 k u x1 n x2 x3 = some res → W p l e (rmX 2 43) s m args below meth c H locs 0 0 (QI wM 22 g res u below args s) (F0 m 14 ls []) := by
  have hx := C.1
  have hb := C.2.1
  intro n
  induction n with
  | zero =>
    intro x2 x3 H locs ls Z hl hf
    rw [L_X8_known_14.eq_1] at hf
    cases hf
  | succ n ih =>
    intro x2 x3 H locs ls Z hl hf
    rw [L_X8_known_14.eq_2] at hf
    refine lv_iload_n hx hb dX8_known_14 rfl (lv_at hl 3 rfl) ?_
    refine lv_aload_n hx hb dX8_known_15 rfl (lv_at hl 0 rfl) ?_
    refine gM_0_0 C Z (fl_of C mw_817) dX8_known_16 (x := (u.1 0)) rfl ?_
    refine lv_icmp_ge (tgt := 49) hx hb dX8_known_19 (by decide) (fun hc19 => ?_) (fun hc19 => ?_)
    · rw [if_pos hc19] at hf
      exact hk _ _ H locs ls Z (lv_sub hl [2] rfl) hf
    · rw [if_neg hc19] at hf
      refine lv_iload_n hx hb dX8_known_22 rfl (lv_at hl 2 rfl) ?_
      refine lv_aload_n hx hb dX8_known_23 rfl (lv_at hl 0 rfl) ?_
      refine lv_iload_n hx hb dX8_known_24 rfl (lv_at hl 3 rfl) ?_
      obtain ⟨r25, hr25, hf⟩ := Option.bind_eq_some_iff.mp hf
      refine call_vi (As := [.int x3]) (rest := [.int x2]) C Z (c_X8_isAsked l hr25) mf_X8_isAsked (ml_of C mw_1017) rfl (oM_0 g _) rfl ⟨rfl, rfl, by decide, by decide⟩ rfl hl.1 (Nat.le_of_ble_eq_true rfl) dX8_known_25 (fun H locs Z => ?_)
      refine lv_if_eq (tgt := 40) hx hb dX8_known_28 (by decide) (fun hc28 => ?_) (fun hc28 => ?_)
      · rw [if_pos hc28] at hf
        refine lv_iconst (v := 0) hx hb dX8_known_40 (by decide +kernel) ?_
        refine lv_ior hx hb dX8_known_41 ?_
        refine lv_istore_n (lv' := [(2, .int (x2 ||| 0)), (0, .ref (g.2.2 0)), (1, .int x1), (3, .int x3)]) hx hb dX8_known_42 rfl hl (by decide) rfl (fun ls hl => ?_)
        refine lv_iinc (v := (x3 + 1)) (lv' := [(3, .int (x3 + 1)), (2, .int (x2 ||| 0)), (0, .ref (g.2.2 0)), (1, .int x1)]) hx hb dX8_known_43 hl (k := 3) rfl rfl (by decide) rfl (fun ls hl => ?_)
        refine lv_goto (tgt := 14) hx hb dX8_known_46 (by decide) ?_
        exact ih _ _ _ _ _ Z (lv_sub hl [2, 3, 1, 0] rfl) hf
      · rw [if_neg hc28] at hf
        refine lv_aload_n hx hb dX8_known_31 rfl (lv_at hl 0 rfl) ?_
        refine lv_iload_n hx hb dX8_known_32 rfl (lv_at hl 3 rfl) ?_
        refine lv_iload_n hx hb dX8_known_33 rfl (lv_at hl 1 rfl) ?_
        obtain ⟨r34, hr34, hf⟩ := Option.bind_eq_some_iff.mp hf
        refine call_vi (As := [.int x3, .int x1]) (rest := [.int x2]) C Z (c_X8_sawOf l hr34) mf_X8_sawOf (ml_of C mw_1028) rfl (oM_0 g _) rfl ⟨rfl, rfl, by decide, by decide⟩ rfl hl.1 (Nat.le_of_ble_eq_true rfl) dX8_known_34 (fun H locs Z => ?_)
        refine lv_goto (tgt := 41) hx hb dX8_known_37 (by decide) ?_
        refine lv_ior hx hb dX8_known_41 ?_
        refine lv_istore_n (lv' := [(2, .int (x2 ||| r34)), (0, .ref (g.2.2 0)), (1, .int x1), (3, .int x3)]) hx hb dX8_known_42 rfl hl (by decide) rfl (fun ls hl => ?_)
        refine lv_iinc (v := (x3 + 1)) (lv' := [(3, .int (x3 + 1)), (2, .int (x2 ||| r34)), (0, .ref (g.2.2 0)), (1, .int x1)]) hx hb dX8_known_43 hl (k := 3) rfl rfl (by decide) rfl (fun ls hl => ?_)
        refine lv_goto (tgt := 14) hx hb dX8_known_46 (by decide) ?_
        exact ih _ _ _ _ _ Z (lv_sub hl [2, 3, 1, 0] rfl) hf
def f_X8_known (u : St) (x1 : Int32) : Option (Int32) :=
  Option.bind (f_X8_isOne u x1) fun r2 =>
  if r2 = 0 then
    some (-1)
  else
    L_X8_known_14 (fun x2 x3 =>
      some x2) u x1 FU 0 0
set_option maxHeartbeats 4000000 in
set_option maxRecDepth 100000 in
theorem c_X8_known (l : Launch) {g : Gx} {u : St} {x1 : Int32} {res : Int32} (hf : f_X8_known u x1 = some res) : CI wM 22 l yX8_known (wsY yX8_known cX8_known 4 (some .int)) (rmX 2 43) g [.ref (g.2.2 0), .int x1] u res u := by
  refine CI_start (by decide +kernel) rfl (Nat.le_of_ble_eq_true rfl) (fun {p e s m args below meth c ls} C Z hl => ?_)
  have hl : lv_has ls 4 [(0, .ref (g.2.2 0)), (1, .int x1)] := hl
  have hx := C.1
  have hb := C.2.1
  unfold f_X8_known at hf
  refine lv_aload_n hx hb dX8_known_0 rfl (lv_at hl 0 rfl) ?_
  refine lv_iload_n hx hb dX8_known_1 rfl (lv_at hl 1 rfl) ?_
  obtain ⟨r2, hr2, hf⟩ := Option.bind_eq_some_iff.mp hf
  refine call_vi (As := [.int x1]) (rest := []) C Z (c_X8_isOne l hr2) mf_X8_isOne (ml_of C mw_1039) rfl (oM_0 g _) rfl ⟨rfl, rfl, by decide, by decide⟩ rfl hl.1 (Nat.le_of_ble_eq_true rfl) dX8_known_2 (fun H locs Z => ?_)
  refine lv_if_ne (tgt := 10) hx hb dX8_known_5 (by decide) (fun hc5 => ?_) (fun hc5 => ?_)
  · rw [if_neg hc5] at hf
    refine lv_iconst (v := 0) hx hb dX8_known_10 (by decide +kernel) ?_
    refine lv_istore_n (lv' := [(2, .int 0), (0, .ref (g.2.2 0)), (1, .int x1)]) hx hb dX8_known_11 rfl hl (by decide) rfl (fun ls hl => ?_)
    refine lv_iconst (v := 0) hx hb dX8_known_12 (by decide +kernel) ?_
    refine lv_istore_n (lv' := [(3, .int 0), (2, .int 0), (0, .ref (g.2.2 0)), (1, .int x1)]) hx hb dX8_known_13 rfl hl (by decide) rfl (fun ls hl => ?_)
    refine b_X8_known_14 C (fun x2 x3 H locs ls Z hl hf => ?_) FU _ _ _ _ _ Z (lv_sub hl [2, 3, 1, 0] rfl) hf
    refine lv_iload_n hx hb dX8_known_49 rfl (lv_at hl 0 rfl) ?_
    have hf := Option.some.inj hf
    subst hf
    exact ret_i C Z dX8_known_50
  · rw [if_pos hc5] at hf
    refine lv_iconst (v := (-1)) hx hb dX8_known_8 (by decide +kernel) ?_
    have hf := Option.some.inj hf
    subst hf
    exact ret_i C Z dX8_known_9
def f_X3_loseOldest (u : St) : Option (St) :=
  some (sI (sA (sA (sA u 36 (va_cpy (u.2.1 36) (u.2.1 36) 1 0 9)) 37 (va_cpy (u.2.1 37) (u.2.1 37) 1 0 9)) 38 (va_cpy (u.2.1 38) (u.2.1 38) 1 0 9)) 12 9)
set_option maxHeartbeats 4000000 in
set_option maxRecDepth 100000 in
theorem c_X3_loseOldest (l : Launch) {g : Gx} {u : St} {res : St} (hf : f_X3_loseOldest u = some res) : CV wC 82 l yX3_loseOldest (wsY yX3_loseOldest cX3_loseOldest 1 (none)) (rmX 1 60) g [.ref (g.2.2 42)] u res := by
  refine CV_start (by decide +kernel) rfl (Nat.le_of_ble_eq_true rfl) (fun {p e s m args below meth c ls} C Z hl => ?_)
  have hl : lv_has ls 1 [(0, .ref (g.2.2 42))] := hl
  have hx := C.1
  have hb := C.2.1
  unfold f_X3_loseOldest at hf
  refine lv_aload_n hx hb dX3_loseOldest_0 rfl (lv_at hl 0 rfl) ?_
  refine gC_42_4 C Z (fl_of C mw_231) dX3_loseOldest_1 ?_
  refine lv_iconst (v := 1) hx hb dX3_loseOldest_4 (by decide +kernel) ?_
  refine lv_aload_n hx hb dX3_loseOldest_5 rfl (lv_at hl 0 rfl) ?_
  refine gC_42_4 C Z (fl_of C mw_231) dX3_loseOldest_6 ?_
  refine lv_iconst (v := 0) hx hb dX3_loseOldest_9 (by decide +kernel) ?_
  refine lv_bipush (v := 9) hx hb dX3_loseOldest_10 (by decide +kernel) ?_
  refine r_copy C wokC Z mw_445 ⟨⟨mw_417, mw_416⟩, mw_108⟩ hl.1 (by decide) (Nat.le_of_ble_eq_true rfl) (aC_50 g _ (f := (u.2.1 36)) rfl) (aC_50 g _ (f := (u.2.1 36)) rfl) (by decide) (by decide) (m1 := 1) (by decide) (m2 := 0) (by decide) (m3 := 9) (by decide) (sC_50 g _ _) dX3_loseOldest_12 (fun H locs Z => ?_)
  refine lv_aload_n hx hb dX3_loseOldest_15 rfl (lv_at hl 0 rfl) ?_
  refine gC_42_5 C Z (fl_of C mw_232) dX3_loseOldest_16 ?_
  refine lv_iconst (v := 1) hx hb dX3_loseOldest_19 (by decide +kernel) ?_
  refine lv_aload_n hx hb dX3_loseOldest_20 rfl (lv_at hl 0 rfl) ?_
  refine gC_42_5 C Z (fl_of C mw_232) dX3_loseOldest_21 ?_
  refine lv_iconst (v := 0) hx hb dX3_loseOldest_24 (by decide +kernel) ?_
  refine lv_bipush (v := 9) hx hb dX3_loseOldest_25 (by decide +kernel) ?_
  refine r_copy C wokC Z mw_445 ⟨⟨mw_417, mw_416⟩, mw_108⟩ hl.1 (by decide) (Nat.le_of_ble_eq_true rfl) (aC_51 g _ (f := (u.2.1 37)) rfl) (aC_51 g _ (f := (u.2.1 37)) rfl) (by decide) (by decide) (m1 := 1) (by decide) (m2 := 0) (by decide) (m3 := 9) (by decide) (sC_51 g _ _) dX3_loseOldest_27 (fun H locs Z => ?_)
  refine lv_aload_n hx hb dX3_loseOldest_30 rfl (lv_at hl 0 rfl) ?_
  refine gC_42_6 C Z (fl_of C mw_233) dX3_loseOldest_31 ?_
  refine lv_iconst (v := 1) hx hb dX3_loseOldest_34 (by decide +kernel) ?_
  refine lv_aload_n hx hb dX3_loseOldest_35 rfl (lv_at hl 0 rfl) ?_
  refine gC_42_6 C Z (fl_of C mw_233) dX3_loseOldest_36 ?_
  refine lv_iconst (v := 0) hx hb dX3_loseOldest_39 (by decide +kernel) ?_
  refine lv_bipush (v := 9) hx hb dX3_loseOldest_40 (by decide +kernel) ?_
  refine r_copy C wokC Z mw_445 ⟨⟨mw_417, mw_416⟩, mw_108⟩ hl.1 (by decide) (Nat.le_of_ble_eq_true rfl) (aC_52 g _ (f := (u.2.1 38)) rfl) (aC_52 g _ (f := (u.2.1 38)) rfl) (by decide) (by decide) (m1 := 1) (by decide) (m2 := 0) (by decide) (m3 := 9) (by decide) (sC_52 g _ _) dX3_loseOldest_42 (fun H locs Z => ?_)
  refine lv_aload_n hx hb dX3_loseOldest_45 rfl (lv_at hl 0 rfl) ?_
  refine lv_bipush (v := 9) hx hb dX3_loseOldest_46 (by decide +kernel) ?_
  refine pC_42_7 C Z (fl_of C mw_234) dX3_loseOldest_48 (fun H locs Z => ?_)
  have hf := Option.some.inj hf
  subst hf
  exact ret_v C Z dX3_loseOldest_51
def f_X3_remember (u : St) (x1 x2 x3 : Int32) : Option (St) :=
  if (u.1 12) < 10 then
    if oob (u.1 12) 10 then none else
    some (sI (sA (sA (sA u 36 (upd (u.2.1 36) (Int32.toNatClampNeg (u.1 12)) x1)) 37 (upd (u.2.1 37) (Int32.toNatClampNeg (u.1 12)) x2)) 38 (upd (u.2.1 38) (Int32.toNatClampNeg (u.1 12)) x3)) 12 ((u.1 12) + 1))
  else
    Option.bind (f_X3_loseOldest u) fun r10 =>
    if oob (r10.1 12) 10 then none else
    some (sI (sA (sA (sA r10 36 (upd (r10.2.1 36) (Int32.toNatClampNeg (r10.1 12)) x1)) 37 (upd (r10.2.1 37) (Int32.toNatClampNeg (r10.1 12)) x2)) 38 (upd (r10.2.1 38) (Int32.toNatClampNeg (r10.1 12)) x3)) 12 ((r10.1 12) + 1))
set_option maxHeartbeats 4000000 in
set_option maxRecDepth 100000 in
theorem c_X3_remember (l : Launch) {g : Gx} {u : St} {x1 x2 x3 : Int32} {res : St} (hf : f_X3_remember u x1 x2 x3 = some res) : CV wC 82 l yX3_remember (wsY yX3_remember cX3_remember 4 (none)) (rmX 2 80) g [.ref (g.2.2 42), .int x1, .int x2, .int x3] u res := by
  refine CV_start (by decide +kernel) rfl (Nat.le_of_ble_eq_true rfl) (fun {p e s m args below meth c ls} C Z hl => ?_)
  have hl : lv_has ls 4 [(0, .ref (g.2.2 42)), (1, .int x1), (2, .int x2), (3, .int x3)] := hl
  have hx := C.1
  have hb := C.2.1
  unfold f_X3_remember at hf
  refine lv_aload_n hx hb dX3_remember_0 rfl (lv_at hl 0 rfl) ?_
  refine gC_42_7 C Z (fl_of C mw_234) dX3_remember_1 (x := (u.1 12)) rfl ?_
  refine lv_bipush (v := 10) hx hb dX3_remember_4 (by decide +kernel) ?_
  refine lv_icmp_lt (tgt := 13) hx hb dX3_remember_6 (by decide) (fun hc6 => ?_) (fun hc6 => ?_)
  · rw [if_pos hc6] at hf
    refine lv_aload_n hx hb dX3_remember_13 rfl (lv_at hl 0 rfl) ?_
    refine gC_42_4 C Z (fl_of C mw_231) dX3_remember_14 ?_
    refine lv_aload_n hx hb dX3_remember_17 rfl (lv_at hl 0 rfl) ?_
    refine gC_42_7 C Z (fl_of C mw_234) dX3_remember_18 (x := (u.1 12)) rfl ?_
    refine lv_iload_n hx hb dX3_remember_21 rfl (lv_at hl 1 rfl) ?_
    by_cases ho22 : oob (u.1 12) 10 = true
    · rw [if_pos ho22] at hf; cases hf
    rw [if_neg ho22] at hf
    refine r_ast C wokC Z (aC_50 g _ (f := (u.2.1 36)) rfl) ho22 rfl (sC_50 g _ _) dX3_remember_22 (fun H locs Z => ?_)
    refine lv_aload_n hx hb dX3_remember_23 rfl (lv_at hl 0 rfl) ?_
    refine gC_42_5 C Z (fl_of C mw_232) dX3_remember_24 ?_
    refine lv_aload_n hx hb dX3_remember_27 rfl (lv_at hl 0 rfl) ?_
    refine gC_42_7 C Z (fl_of C mw_234) dX3_remember_28 (x := (u.1 12)) rfl ?_
    refine lv_iload_n hx hb dX3_remember_31 rfl (lv_at hl 2 rfl) ?_
    refine r_ast C wokC Z (aC_51 g _ (f := (u.2.1 37)) rfl) ho22 rfl (sC_51 g _ _) dX3_remember_32 (fun H locs Z => ?_)
    refine lv_aload_n hx hb dX3_remember_33 rfl (lv_at hl 0 rfl) ?_
    refine gC_42_6 C Z (fl_of C mw_233) dX3_remember_34 ?_
    refine lv_aload_n hx hb dX3_remember_37 rfl (lv_at hl 0 rfl) ?_
    refine gC_42_7 C Z (fl_of C mw_234) dX3_remember_38 (x := (u.1 12)) rfl ?_
    refine lv_iload_n hx hb dX3_remember_41 rfl (lv_at hl 3 rfl) ?_
    refine r_ast C wokC Z (aC_52 g _ (f := (u.2.1 38)) rfl) ho22 rfl (sC_52 g _ _) dX3_remember_42 (fun H locs Z => ?_)
    refine lv_aload_n hx hb dX3_remember_43 rfl (lv_at hl 0 rfl) ?_
    refine lv_dup hx hb dX3_remember_44 rfl ?_
    refine gC_42_7 C Z (fl_of C mw_234) dX3_remember_45 (x := (u.1 12)) rfl ?_
    refine lv_iconst (v := 1) hx hb dX3_remember_48 (by decide +kernel) ?_
    refine lv_iadd hx hb dX3_remember_49 ?_
    refine pC_42_7 C Z (fl_of C mw_234) dX3_remember_50 (fun H locs Z => ?_)
    have hf := Option.some.inj hf
    subst hf
    exact ret_v C Z dX3_remember_53
  · rw [if_neg hc6] at hf
    refine lv_aload_n hx hb dX3_remember_9 rfl (lv_at hl 0 rfl) ?_
    obtain ⟨r10, hr10, hf⟩ := Option.bind_eq_some_iff.mp hf
    refine call_vv (As := []) (rest := []) C Z (c_X3_loseOldest l hr10) mf_X3_loseOldest (ml_of C mw_539) rfl (oC_42 g _) rfl ⟨rfl, rfl, by decide, by decide⟩ rfl hl.1 (Nat.le_of_ble_eq_true rfl) dX3_remember_10 (fun H locs Z => ?_)
    refine lv_aload_n hx hb dX3_remember_13 rfl (lv_at hl 0 rfl) ?_
    refine gC_42_4 C Z (fl_of C mw_231) dX3_remember_14 ?_
    refine lv_aload_n hx hb dX3_remember_17 rfl (lv_at hl 0 rfl) ?_
    refine gC_42_7 C Z (fl_of C mw_234) dX3_remember_18 (x := (r10.1 12)) rfl ?_
    refine lv_iload_n hx hb dX3_remember_21 rfl (lv_at hl 1 rfl) ?_
    by_cases ho22 : oob (r10.1 12) 10 = true
    · rw [if_pos ho22] at hf; cases hf
    rw [if_neg ho22] at hf
    refine r_ast C wokC Z (aC_50 g _ (f := (r10.2.1 36)) rfl) ho22 rfl (sC_50 g _ _) dX3_remember_22 (fun H locs Z => ?_)
    refine lv_aload_n hx hb dX3_remember_23 rfl (lv_at hl 0 rfl) ?_
    refine gC_42_5 C Z (fl_of C mw_232) dX3_remember_24 ?_
    refine lv_aload_n hx hb dX3_remember_27 rfl (lv_at hl 0 rfl) ?_
    refine gC_42_7 C Z (fl_of C mw_234) dX3_remember_28 (x := (r10.1 12)) rfl ?_
    refine lv_iload_n hx hb dX3_remember_31 rfl (lv_at hl 2 rfl) ?_
    refine r_ast C wokC Z (aC_51 g _ (f := (r10.2.1 37)) rfl) ho22 rfl (sC_51 g _ _) dX3_remember_32 (fun H locs Z => ?_)
    refine lv_aload_n hx hb dX3_remember_33 rfl (lv_at hl 0 rfl) ?_
    refine gC_42_6 C Z (fl_of C mw_233) dX3_remember_34 ?_
    refine lv_aload_n hx hb dX3_remember_37 rfl (lv_at hl 0 rfl) ?_
    refine gC_42_7 C Z (fl_of C mw_234) dX3_remember_38 (x := (r10.1 12)) rfl ?_
    refine lv_iload_n hx hb dX3_remember_41 rfl (lv_at hl 3 rfl) ?_
    refine r_ast C wokC Z (aC_52 g _ (f := (r10.2.1 38)) rfl) ho22 rfl (sC_52 g _ _) dX3_remember_42 (fun H locs Z => ?_)
    refine lv_aload_n hx hb dX3_remember_43 rfl (lv_at hl 0 rfl) ?_
    refine lv_dup hx hb dX3_remember_44 rfl ?_
    refine gC_42_7 C Z (fl_of C mw_234) dX3_remember_45 (x := (r10.1 12)) rfl ?_
    refine lv_iconst (v := 1) hx hb dX3_remember_48 (by decide +kernel) ?_
    refine lv_iadd hx hb dX3_remember_49 ?_
    refine pC_42_7 C Z (fl_of C mw_234) dX3_remember_50 (fun H locs Z => ?_)
    have hf := Option.some.inj hf
    subst hf
    exact ret_v C Z dX3_remember_53
def f_X3_rememberHour (u : St) : Option (St) :=
  Option.bind (f_X3_remember u 0 (u.1 10) 0) fun r7 =>
  some r7
set_option maxHeartbeats 4000000 in
set_option maxRecDepth 100000 in
theorem c_X3_rememberHour (l : Launch) {g : Gx} {u : St} {res : St} (hf : f_X3_rememberHour u = some res) : CV wC 82 l yX3_rememberHour (wsY yX3_rememberHour cX3_rememberHour 1 (none)) (rmX 3 103) g [.ref (g.2.2 42)] u res := by
  refine CV_start (by decide +kernel) rfl (Nat.le_of_ble_eq_true rfl) (fun {p e s m args below meth c ls} C Z hl => ?_)
  have hl : lv_has ls 1 [(0, .ref (g.2.2 42))] := hl
  have hx := C.1
  have hb := C.2.1
  unfold f_X3_rememberHour at hf
  refine lv_aload_n hx hb dX3_rememberHour_0 rfl (lv_at hl 0 rfl) ?_
  refine lv_iconst (v := 0) hx hb dX3_rememberHour_1 (by decide +kernel) ?_
  refine lv_aload_n hx hb dX3_rememberHour_2 rfl (lv_at hl 0 rfl) ?_
  refine gC_42_0 C Z (fl_of C mw_218) dX3_rememberHour_3 (x := (u.1 10)) rfl ?_
  refine lv_iconst (v := 0) hx hb dX3_rememberHour_6 (by decide +kernel) ?_
  obtain ⟨r7, hr7, hf⟩ := Option.bind_eq_some_iff.mp hf
  refine call_vv (As := [.int 0, .int (u.1 10), .int 0]) (rest := []) C Z (c_X3_remember l hr7) mf_X3_remember (ml_of C mw_535) rfl (oC_42 g _) rfl ⟨rfl, rfl, by decide, by decide⟩ rfl hl.1 (Nat.le_of_ble_eq_true rfl) dX3_rememberHour_7 (fun H locs Z => ?_)
  have hf := Option.some.inj hf
  subst hf
  exact ret_v C Z dX3_rememberHour_10
