def f_X7_blind (u : St) (x1 : Int32) : Option (Int32) :=
  Option.bind (f_X7_isHour x1) fun r1 =>
  if r1 = 0 then
    some (-1)
  else
    Option.bind (f_X6_unseenIn u x1) fun r12 =>
    some r12
set_option maxHeartbeats 4000000 in
set_option maxRecDepth 100000 in
theorem c_X7_blind (l : Launch) {g : Gx} {u : St} {x1 : Int32} {res : Int32} (hf : f_X7_blind u x1 = some res) : CI wC 82 l yX7_blind (wsY yX7_blind cX7_blind 2 (some .int)) (rmX 5 124) g [.ref (g.2.2 0), .int x1] u res u := by
  refine CI_start (by decide +kernel) rfl (Nat.le_of_ble_eq_true rfl) (fun {p e s m args below meth c ls} C Z hl => ?_)
  have hl : lv_has ls 2 [(0, .ref (g.2.2 0)), (1, .int x1)] := hl
  have hx := C.1
  have hb := C.2.1
  unfold f_X7_blind at hf
  refine lv_iload_n hx hb dX7_blind_0 rfl (lv_at hl 1 rfl) ?_
  obtain ⟨r1, hr1, hf⟩ := Option.bind_eq_some_iff.mp hf
  refine call_si (As := [.int x1]) (rest := []) C Z (c_X7_isHour l hr1) mf_X7_isHour (ml_of C mw_639) rfl ⟨rfl, rfl, by decide, by decide⟩ rfl hl.1 (Nat.le_of_ble_eq_true rfl) dX7_blind_1 (fun H locs Z => ?_)
  refine lv_if_eq (tgt := 18) hx hb dX7_blind_4 (by decide) (fun hc4 => ?_) (fun hc4 => ?_)
  · rw [if_pos hc4] at hf
    refine lv_iconst (v := (-1)) hx hb dX7_blind_18 (by decide +kernel) ?_
    have hf := Option.some.inj hf
    subst hf
    exact ret_i C Z dX7_blind_19
  · rw [if_neg hc4] at hf
    refine lv_aload_n hx hb dX7_blind_7 rfl (lv_at hl 0 rfl) ?_
    refine gC_0_2 C Z (fl_of C mw_307) dX7_blind_8 ?_
    refine lv_iload_n hx hb dX7_blind_11 rfl (lv_at hl 1 rfl) ?_
    obtain ⟨r12, hr12, hf⟩ := Option.bind_eq_some_iff.mp hf
    refine call_vi (As := [.int x1]) (rest := []) C Z (c_X6_unseenIn l hr12) mf_X6_unseenIn (ml_nest C nw_52) rfl (oC_23 g _) rfl ⟨rfl, rfl, by decide, by decide⟩ rfl hl.1 (Nat.le_of_ble_eq_true rfl) dX7_blind_12 (fun H locs Z => ?_)
    refine lv_goto (tgt := 19) hx hb dX7_blind_15 (by decide) ?_
    have hf := Option.some.inj hf
    subst hf
    exact ret_i C Z dX7_blind_19
def L_X8_blind_14 (k : Int32 → Int32 → Option (Int32)) (u : St) (x1 : Int32) : Nat → Int32 → Int32 → Option (Int32)
  | 0, _, _ => none
  | n + 1, x2, x3 =>
    if (u.1 0) ≤ x3 then
      k x2 x3
    else
      Option.bind (f_X8_isAsked u x3) fun r25 =>
      if r25 = 0 then
        Option.bind (f_X8_viewOf u x3 x1) fun r38 =>
        L_X8_blind_14 k u x1 n (x2 &&& (r38 ^^^ (-1))) (x3 + 1)
      else
        L_X8_blind_14 k u x1 n (x2 &&& x2) (x3 + 1)
set_option maxHeartbeats 4000000 in
set_option maxRecDepth 100000 in
theorem b_X8_blind_14 {p : Program} {l : Launch} {e : Env} {s : State} {m : MethodId} {args : Array Value} {below : List Frame} {meth : Method} {c : Code} {g : Gx} {u : St} {x1 : Int32} {res : Int32} {k : Int32 → Int32 → Option (Int32)} (C : Cx p s m meth c args cX8_blind RX8 4 (some .int) 22 g)
    (hk : ∀ (x2 x3 : Int32) (H : Heap) (locs : List Loc) (ls : Array Slot), Zx wM g (Aw 22 g s.heap.size) s H locs u → lv_has ls 4 [(2, .int x2)] → k x2 x3 = some res → W p l e (rmX 4 96) s m args below meth c H locs 0 0 (QI wM 22 g res u below args s) (F0 m 51 ls [])) :
    ∀ (n : Nat) (x2 x3 : Int32) (H : Heap) (locs : List Loc) (ls : Array Slot), Zx wM g (Aw 22 g s.heap.size) s H locs u → lv_has ls 4 [(0, .ref (g.2.2 0)), (1, .int x1), (2, .int x2), (3, .int x3)] → L_X8_blind_14 k u x1 n x2 x3 = some res → W p l e (rmX 4 96) s m args below meth c H locs 0 0 (QI wM 22 g res u below args s) (F0 m 14 ls []) := by
  have hx := C.1
  have hb := C.2.1
  intro n
  induction n with
  | zero =>
    intro x2 x3 H locs ls Z hl hf
    rw [L_X8_blind_14.eq_1] at hf
    cases hf
  | succ n ih =>
    intro x2 x3 H locs ls Z hl hf
    rw [L_X8_blind_14.eq_2] at hf
    refine lv_iload_n hx hb dX8_blind_14 rfl (lv_at hl 3 rfl) ?_
    refine lv_aload_n hx hb dX8_blind_15 rfl (lv_at hl 0 rfl) ?_
    refine gM_0_0 C Z (fl_of C mw_817) dX8_blind_16 (x := (u.1 0)) rfl ?_
    refine lv_icmp_ge (tgt := 51) hx hb dX8_blind_19 (by decide) (fun hc19 => ?_) (fun hc19 => ?_)
    · rw [if_pos hc19] at hf
      exact hk _ _ H locs ls Z (lv_sub hl [2] rfl) hf
    · rw [if_neg hc19] at hf
      refine lv_iload_n hx hb dX8_blind_22 rfl (lv_at hl 2 rfl) ?_
      refine lv_aload_n hx hb dX8_blind_23 rfl (lv_at hl 0 rfl) ?_
      refine lv_iload_n hx hb dX8_blind_24 rfl (lv_at hl 3 rfl) ?_
      obtain ⟨r25, hr25, hf⟩ := Option.bind_eq_some_iff.mp hf
      refine call_vi (As := [.int x3]) (rest := [.int x2]) C Z (c_X8_isAsked l hr25) mf_X8_isAsked (ml_of C mw_1017) rfl (oM_0 g _) rfl ⟨rfl, rfl, by decide, by decide⟩ rfl hl.1 (Nat.le_of_ble_eq_true rfl) dX8_blind_25 (fun H locs Z => ?_)
      refine lv_if_eq (tgt := 35) hx hb dX8_blind_28 (by decide) (fun hc28 => ?_) (fun hc28 => ?_)
      · rw [if_pos hc28] at hf
        refine lv_aload_n hx hb dX8_blind_35 rfl (lv_at hl 0 rfl) ?_
        refine lv_iload_n hx hb dX8_blind_36 rfl (lv_at hl 3 rfl) ?_
        refine lv_iload_n hx hb dX8_blind_37 rfl (lv_at hl 1 rfl) ?_
        obtain ⟨r38, hr38, hf⟩ := Option.bind_eq_some_iff.mp hf
        refine call_vi (As := [.int x3, .int x1]) (rest := [.int x2]) C Z (c_X8_viewOf l hr38) mf_X8_viewOf (ml_of C mw_1118) rfl (oM_0 g _) rfl ⟨rfl, rfl, by decide, by decide⟩ rfl hl.1 (Nat.le_of_ble_eq_true rfl) dX8_blind_38 (fun H locs Z => ?_)
        refine lv_iconst (v := (-1)) hx hb dX8_blind_41 (by decide +kernel) ?_
        refine lv_ixor hx hb dX8_blind_42 ?_
        refine lv_iand hx hb dX8_blind_43 ?_
        refine lv_istore_n (lv' := [(2, .int (x2 &&& (r38 ^^^ (-1)))), (0, .ref (g.2.2 0)), (1, .int x1), (3, .int x3)]) hx hb dX8_blind_44 rfl hl (by decide) rfl (fun ls hl => ?_)
        refine lv_iinc (v := (x3 + 1)) (lv' := [(3, .int (x3 + 1)), (2, .int (x2 &&& (r38 ^^^ (-1)))), (0, .ref (g.2.2 0)), (1, .int x1)]) hx hb dX8_blind_45 hl (k := 3) rfl rfl (by decide) rfl (fun ls hl => ?_)
        refine lv_goto (tgt := 14) hx hb dX8_blind_48 (by decide) ?_
        exact ih _ _ _ _ _ Z (lv_sub hl [2, 3, 1, 0] rfl) hf
      · rw [if_neg hc28] at hf
        refine lv_iload_n hx hb dX8_blind_31 rfl (lv_at hl 2 rfl) ?_
        refine lv_goto (tgt := 43) hx hb dX8_blind_32 (by decide) ?_
        refine lv_iand hx hb dX8_blind_43 ?_
        refine lv_istore_n (lv' := [(2, .int (x2 &&& x2)), (0, .ref (g.2.2 0)), (1, .int x1), (3, .int x3)]) hx hb dX8_blind_44 rfl hl (by decide) rfl (fun ls hl => ?_)
        refine lv_iinc (v := (x3 + 1)) (lv' := [(3, .int (x3 + 1)), (2, .int (x2 &&& x2)), (0, .ref (g.2.2 0)), (1, .int x1)]) hx hb dX8_blind_45 hl (k := 3) rfl rfl (by decide) rfl (fun ls hl => ?_)
        refine lv_goto (tgt := 14) hx hb dX8_blind_48 (by decide) ?_
        exact ih _ _ _ _ _ Z (lv_sub hl [2, 3, 1, 0] rfl) hf
def f_X8_blind (u : St) (x1 : Int32) : Option (Int32) :=
  Option.bind (f_X8_isHour x1) fun r1 =>
  if r1 = 0 then
    some (-1)
  else
    L_X8_blind_14 (fun x2 x3 =>
      some x2) u x1 FU 16777215 0
set_option maxHeartbeats 4000000 in
set_option maxRecDepth 100000 in
theorem c_X8_blind (l : Launch) {g : Gx} {u : St} {x1 : Int32} {res : Int32} (hf : f_X8_blind u x1 = some res) : CI wM 22 l yX8_blind (wsY yX8_blind cX8_blind 4 (some .int)) (rmX 4 96) g [.ref (g.2.2 0), .int x1] u res u := by
  refine CI_start (by decide +kernel) rfl (Nat.le_of_ble_eq_true rfl) (fun {p e s m args below meth c ls} C Z hl => ?_)
  have hl : lv_has ls 4 [(0, .ref (g.2.2 0)), (1, .int x1)] := hl
  have hx := C.1
  have hb := C.2.1
  unfold f_X8_blind at hf
  refine lv_iload_n hx hb dX8_blind_0 rfl (lv_at hl 1 rfl) ?_
  obtain ⟨r1, hr1, hf⟩ := Option.bind_eq_some_iff.mp hf
  refine call_si (As := [.int x1]) (rest := []) C Z (c_X8_isHour l hr1) mf_X8_isHour (ml_of C mw_1115) rfl ⟨rfl, rfl, by decide, by decide⟩ rfl hl.1 (Nat.le_of_ble_eq_true rfl) dX8_blind_1 (fun H locs Z => ?_)
  refine lv_if_ne (tgt := 9) hx hb dX8_blind_4 (by decide) (fun hc4 => ?_) (fun hc4 => ?_)
  · rw [if_neg hc4] at hf
    refine lv_ldc (v := 16777215) hx hb C.2.2.2.1 (C.2.2.2.2.1 _ mw_1126) dX8_blind_9 ?_
    refine lv_istore_n (lv' := [(2, .int 16777215), (0, .ref (g.2.2 0)), (1, .int x1)]) hx hb dX8_blind_11 rfl hl (by decide) rfl (fun ls hl => ?_)
    refine lv_iconst (v := 0) hx hb dX8_blind_12 (by decide +kernel) ?_
    refine lv_istore_n (lv' := [(3, .int 0), (2, .int 16777215), (0, .ref (g.2.2 0)), (1, .int x1)]) hx hb dX8_blind_13 rfl hl (by decide) rfl (fun ls hl => ?_)
    refine b_X8_blind_14 C (fun x2 x3 H locs ls Z hl hf => ?_) FU _ _ _ _ _ Z (lv_sub hl [2, 3, 1, 0] rfl) hf
    refine lv_iload_n hx hb dX8_blind_51 rfl (lv_at hl 0 rfl) ?_
    have hf := Option.some.inj hf
    subst hf
    exact ret_i C Z dX8_blind_52
  · rw [if_pos hc4] at hf
    refine lv_iconst (v := (-1)) hx hb dX8_blind_7 (by decide +kernel) ?_
    have hf := Option.some.inj hf
    subst hf
    exact ret_i C Z dX8_blind_8
def f_X7_most (u : St) (x1 x2 : Int32) : Option (Int32) :=
  Option.bind (f_X7_isWithin x1 0 60) fun r4 =>
  if r4 = 0 then
    some (-1)
  else
    Option.bind (f_X7_isWithin x2 0 1) fun r13 =>
    if r13 = 0 then
      some (-1)
    else
      Option.bind (f_X6_bestToAsk u x1) fun r26 =>
      if x2 = 0 then
        some r26
      else
        Option.bind (f_X3_amountKnownWith u r26) fun r46 =>
        some r46
set_option maxHeartbeats 4000000 in
set_option maxRecDepth 100000 in
theorem c_X7_most (l : Launch) {g : Gx} {u : St} {x1 x2 : Int32} {res : Int32} (hf : f_X7_most u x1 x2 = some res) : CI wC 82 l yX7_most (wsY yX7_most cX7_most 4 (some .int)) (rmX 6 136) g [.ref (g.2.2 0), .int x1, .int x2] u res u := by
  refine CI_start (by decide +kernel) rfl (Nat.le_of_ble_eq_true rfl) (fun {p e s m args below meth c ls} C Z hl => ?_)
  have hl : lv_has ls 4 [(0, .ref (g.2.2 0)), (1, .int x1), (2, .int x2)] := hl
  have hx := C.1
  have hb := C.2.1
  unfold f_X7_most at hf
  refine lv_iload_n hx hb dX7_most_0 rfl (lv_at hl 1 rfl) ?_
  refine lv_iconst (v := 0) hx hb dX7_most_1 (by decide +kernel) ?_
  refine lv_bipush (v := 60) hx hb dX7_most_2 (by decide +kernel) ?_
  obtain ⟨r4, hr4, hf⟩ := Option.bind_eq_some_iff.mp hf
  refine call_si (As := [.int x1, .int 0, .int 60]) (rest := []) C Z (c_X7_isWithin l hr4) mf_X7_isWithin (ml_of C mw_331) rfl ⟨rfl, rfl, by decide, by decide⟩ rfl hl.1 (Nat.le_of_ble_eq_true rfl) dX7_most_4 (fun H locs Z => ?_)
  refine lv_if_eq (tgt := 19) hx hb dX7_most_7 (by decide) (fun hc7 => ?_) (fun hc7 => ?_)
  · rw [if_pos hc7] at hf
    refine lv_iconst (v := (-1)) hx hb dX7_most_19 (by decide +kernel) ?_
    have hf := Option.some.inj hf
    subst hf
    exact ret_i C Z dX7_most_20
  · rw [if_neg hc7] at hf
    refine lv_iload_n hx hb dX7_most_10 rfl (lv_at hl 2 rfl) ?_
    refine lv_iconst (v := 0) hx hb dX7_most_11 (by decide +kernel) ?_
    refine lv_iconst (v := 1) hx hb dX7_most_12 (by decide +kernel) ?_
    obtain ⟨r13, hr13, hf⟩ := Option.bind_eq_some_iff.mp hf
    refine call_si (As := [.int x2, .int 0, .int 1]) (rest := []) C Z (c_X7_isWithin l hr13) mf_X7_isWithin (ml_of C mw_331) rfl ⟨rfl, rfl, by decide, by decide⟩ rfl hl.1 (Nat.le_of_ble_eq_true rfl) dX7_most_13 (fun H locs Z => ?_)
    refine lv_if_ne (tgt := 21) hx hb dX7_most_16 (by decide) (fun hc16 => ?_) (fun hc16 => ?_)
    · rw [if_neg hc16] at hf
      refine lv_aload_n hx hb dX7_most_21 rfl (lv_at hl 0 rfl) ?_
      refine gC_0_2 C Z (fl_of C mw_307) dX7_most_22 ?_
      refine lv_iload_n hx hb dX7_most_25 rfl (lv_at hl 1 rfl) ?_
      obtain ⟨r26, hr26, hf⟩ := Option.bind_eq_some_iff.mp hf
      refine call_vi (As := [.int x1]) (rest := []) C Z (c_X6_bestToAsk l hr26) mf_X6_bestToAsk (ml_nest C nw_47) rfl (oC_23 g _) rfl ⟨rfl, rfl, by decide, by decide⟩ rfl hl.1 (Nat.le_of_ble_eq_true rfl) dX7_most_26 (fun H locs Z => ?_)
      refine lv_istore_n (lv' := [(3, .int r26), (0, .ref (g.2.2 0)), (1, .int x1), (2, .int x2)]) hx hb dX7_most_29 rfl hl (by decide) rfl (fun ls hl => ?_)
      refine lv_iload_n hx hb dX7_most_30 rfl (lv_at hl 3 rfl) ?_
      refine lv_if_ne (tgt := 38) hx hb dX7_most_31 (by decide) (fun hc31 => ?_) (fun hc31 => ?_)
      · rw [if_neg hc31] at hf
        refine lv_aload_n hx hb dX7_most_38 rfl (lv_at hl 1 rfl) ?_
        refine gC_0_2 C Z (fl_of C mw_307) dX7_most_39 ?_
        refine gC_23_1 C Z (fl_nest C nw_100) dX7_most_42 ?_
        refine lv_iload_n hx hb dX7_most_45 rfl (lv_at hl 0 rfl) ?_
        obtain ⟨r46, hr46, hf⟩ := Option.bind_eq_some_iff.mp hf
        refine call_vi (As := [.int r26]) (rest := []) C Z (c_X3_amountKnownWith l hr46) mf_X3_amountKnownWith (ml_nest C nw_42) rfl (oC_42 g _) rfl ⟨rfl, rfl, by decide, by decide⟩ rfl hl.1 (Nat.le_of_ble_eq_true rfl) dX7_most_46 (fun H locs Z => ?_)
        have hf := Option.some.inj hf
        subst hf
        exact ret_i C Z dX7_most_49
      · rw [if_pos hc31] at hf
        refine lv_iload_n hx hb dX7_most_34 rfl (lv_at hl 0 rfl) ?_
        refine lv_goto (tgt := 49) hx hb dX7_most_35 (by decide) ?_
        have hf := Option.some.inj hf
        subst hf
        exact ret_i C Z dX7_most_49
    · rw [if_pos hc16] at hf
      refine lv_iconst (v := (-1)) hx hb dX7_most_19 (by decide +kernel) ?_
      have hf := Option.some.inj hf
      subst hf
      exact ret_i C Z dX7_most_20
def L_X8_takes_4 (k : Int32 → Int32 → Option (Int32)) (u : St) (x1 : Int32) : Nat → Int32 → Int32 → Option (Int32)
  | 0, _, _ => none
  | n + 1, x2, x3 =>
    if (u.1 0) ≤ x3 then
      k x2 x3
    else
      Option.bind (f_X8_has x1 x3) fun r15 =>
      if r15 = 0 then
        L_X8_takes_4 k u x1 n (x2 + 0) (x3 + 1)
      else
        Option.bind (f_X8_sawBy u (1 <<< (x3 &&& 31))) fun r26 =>
        L_X8_takes_4 k u x1 n (x2 + (1 + (r26 / 4))) (x3 + 1)
set_option maxHeartbeats 4000000 in
set_option maxRecDepth 100000 in
theorem b_X8_takes_4 {p : Program} {l : Launch} {e : Env} {s : State} {m : MethodId} {args : Array Value} {below : List Frame} {meth : Method} {c : Code} {g : Gx} {u : St} {x1 : Int32} {res : Int32} {k : Int32 → Int32 → Option (Int32)} (C : Cx p s m meth c args cX8_takes RX8 4 (some .int) 22 g)
    (hk : ∀ (x2 x3 : Int32) (H : Heap) (locs : List Loc) (ls : Array Slot), Zx wM g (Aw 22 g s.heap.size) s H locs u → lv_has ls 4 [(2, .int x2)] → k x2 x3 = some res → W p l e (rmX 2 47) s m args below meth c H locs 0 0 (QI wM 22 g res u below args s) (F0 m 44 ls [])) :
    ∀ (n : Nat) (x2 x3 : Int32) (H : Heap) (locs : List Loc) (ls : Array Slot), Zx wM g (Aw 22 g s.heap.size) s H locs u → lv_has ls 4 [(0, .ref (g.2.2 0)), (1, .int x1), (2, .int x2), (3, .int x3)] → L_X8_takes_4 k u x1 n x2 x3 = some res → W p l e (rmX 2 47) s m args below meth c H locs 0 0 (QI wM 22 g res u below args s) (F0 m 4 ls []) := by
  have hx := C.1
  have hb := C.2.1
  intro n
  induction n with
  | zero =>
    intro x2 x3 H locs ls Z hl hf
    rw [L_X8_takes_4.eq_1] at hf
    cases hf
  | succ n ih =>
    intro x2 x3 H locs ls Z hl hf
    rw [L_X8_takes_4.eq_2] at hf
    refine lv_iload_n hx hb dX8_takes_4 rfl (lv_at hl 3 rfl) ?_
    refine lv_aload_n hx hb dX8_takes_5 rfl (lv_at hl 0 rfl) ?_
    refine gM_0_0 C Z (fl_of C mw_817) dX8_takes_6 (x := (u.1 0)) rfl ?_
    refine lv_icmp_ge (tgt := 44) hx hb dX8_takes_9 (by decide) (fun hc9 => ?_) (fun hc9 => ?_)
    · rw [if_pos hc9] at hf
      exact hk _ _ H locs ls Z (lv_sub hl [2] rfl) hf
    · rw [if_neg hc9] at hf
      refine lv_iload_n hx hb dX8_takes_12 rfl (lv_at hl 2 rfl) ?_
      refine lv_iload_n hx hb dX8_takes_13 rfl (lv_at hl 1 rfl) ?_
      refine lv_iload_n hx hb dX8_takes_14 rfl (lv_at hl 3 rfl) ?_
      obtain ⟨r15, hr15, hf⟩ := Option.bind_eq_some_iff.mp hf
      refine call_si (As := [.int x1, .int x3]) (rest := [.int x2]) C Z (c_X8_has l hr15) mf_X8_has (ml_of C mw_1021) rfl ⟨rfl, rfl, by decide, by decide⟩ rfl hl.1 (Nat.le_of_ble_eq_true rfl) dX8_takes_15 (fun H locs Z => ?_)
      refine lv_if_eq (tgt := 35) hx hb dX8_takes_18 (by decide) (fun hc18 => ?_) (fun hc18 => ?_)
      · rw [if_pos hc18] at hf
        refine lv_iconst (v := 0) hx hb dX8_takes_35 (by decide +kernel) ?_
        refine lv_iadd hx hb dX8_takes_36 ?_
        refine lv_istore_n (lv' := [(2, .int (x2 + 0)), (0, .ref (g.2.2 0)), (1, .int x1), (3, .int x3)]) hx hb dX8_takes_37 rfl hl (by decide) rfl (fun ls hl => ?_)
        refine lv_iinc (v := (x3 + 1)) (lv' := [(3, .int (x3 + 1)), (2, .int (x2 + 0)), (0, .ref (g.2.2 0)), (1, .int x1)]) hx hb dX8_takes_38 hl (k := 3) rfl rfl (by decide) rfl (fun ls hl => ?_)
        refine lv_goto (tgt := 4) hx hb dX8_takes_41 (by decide) ?_
        exact ih _ _ _ _ _ Z (lv_sub hl [2, 3, 1, 0] rfl) hf
      · rw [if_neg hc18] at hf
        refine lv_iconst (v := 1) hx hb dX8_takes_21 (by decide +kernel) ?_
        refine lv_aload_n hx hb dX8_takes_22 rfl (lv_at hl 0 rfl) ?_
        refine lv_iconst (v := 1) hx hb dX8_takes_23 (by decide +kernel) ?_
        refine lv_iload_n hx hb dX8_takes_24 rfl (lv_at hl 3 rfl) ?_
        refine lv_ishl hx hb dX8_takes_25 ?_
        obtain ⟨r26, hr26, hf⟩ := Option.bind_eq_some_iff.mp hf
        refine call_vi (As := [.int (1 <<< (x3 &&& 31))]) (rest := [.int 1, .int x2]) C Z (c_X8_sawBy l hr26) mf_X8_sawBy (ml_of C mw_1024) rfl (oM_0 g _) rfl ⟨rfl, rfl, by decide, by decide⟩ rfl hl.1 (Nat.le_of_ble_eq_true rfl) dX8_takes_26 (fun H locs Z => ?_)
        refine lv_iconst (v := 4) hx hb dX8_takes_29 (by decide +kernel) ?_
        refine lv_idiv hx hb dX8_takes_30 (by decide) ?_
        refine lv_iadd hx hb dX8_takes_31 ?_
        refine lv_goto (tgt := 36) hx hb dX8_takes_32 (by decide) ?_
        refine lv_iadd hx hb dX8_takes_36 ?_
        refine lv_istore_n (lv' := [(2, .int (x2 + (1 + (r26 / 4)))), (0, .ref (g.2.2 0)), (1, .int x1), (3, .int x3)]) hx hb dX8_takes_37 rfl hl (by decide) rfl (fun ls hl => ?_)
        refine lv_iinc (v := (x3 + 1)) (lv' := [(3, .int (x3 + 1)), (2, .int (x2 + (1 + (r26 / 4)))), (0, .ref (g.2.2 0)), (1, .int x1)]) hx hb dX8_takes_38 hl (k := 3) rfl rfl (by decide) rfl (fun ls hl => ?_)
        refine lv_goto (tgt := 4) hx hb dX8_takes_41 (by decide) ?_
        exact ih _ _ _ _ _ Z (lv_sub hl [2, 3, 1, 0] rfl) hf
def f_X8_takes (u : St) (x1 : Int32) : Option (Int32) :=
  L_X8_takes_4 (fun x2 x3 =>
    some x2) u x1 FU 0 0
set_option maxHeartbeats 4000000 in
set_option maxRecDepth 100000 in
theorem c_X8_takes (l : Launch) {g : Gx} {u : St} {x1 : Int32} {res : Int32} (hf : f_X8_takes u x1 = some res) : CI wM 22 l yX8_takes (wsY yX8_takes cX8_takes 4 (some .int)) (rmX 2 47) g [.ref (g.2.2 0), .int x1] u res u := by
  refine CI_start (by decide +kernel) rfl (Nat.le_of_ble_eq_true rfl) (fun {p e s m args below meth c ls} C Z hl => ?_)
  have hl : lv_has ls 4 [(0, .ref (g.2.2 0)), (1, .int x1)] := hl
  have hx := C.1
  have hb := C.2.1
  unfold f_X8_takes at hf
  refine lv_iconst (v := 0) hx hb dX8_takes_0 (by decide +kernel) ?_
  refine lv_istore_n (lv' := [(2, .int 0), (0, .ref (g.2.2 0)), (1, .int x1)]) hx hb dX8_takes_1 rfl hl (by decide) rfl (fun ls hl => ?_)
  refine lv_iconst (v := 0) hx hb dX8_takes_2 (by decide +kernel) ?_
  refine lv_istore_n (lv' := [(3, .int 0), (2, .int 0), (0, .ref (g.2.2 0)), (1, .int x1)]) hx hb dX8_takes_3 rfl hl (by decide) rfl (fun ls hl => ?_)
  refine b_X8_takes_4 C (fun x2 x3 H locs ls Z hl hf => ?_) FU _ _ _ _ _ Z (lv_sub hl [2, 3, 1, 0] rfl) hf
  refine lv_iload_n hx hb dX8_takes_44 rfl (lv_at hl 0 rfl) ?_
  have hf := Option.some.inj hf
  subst hf
  exact ret_i C Z dX8_takes_45
def L_X8_most_32 (k : Int32 → Int32 → Int32 → Option (Int32)) (u : St) (x1 : Int32) : Nat → Int32 → Int32 → Int32 → Option (Int32)
  | 0, _, _, _ => none
  | n + 1, x3, x4, x5 =>
    Option.bind (f_X8_all u) fun r35 =>
    if r35 < x5 then
      k x3 x4 x5
    else
      if (x5 &&& ((u.2.1 7) 45)) = 0 then
        Option.bind (f_X8_takes u x5) fun r57 =>
        if x1 < r57 then
          L_X8_most_32 k u x1 n x3 x4 (x5 + 1)
        else
          Option.bind (f_X8_sawBy u (x5 ||| ((u.2.1 7) 45))) fun r75 =>
          if x4 < r75 then
            L_X8_most_32 k u x1 n x5 r75 (x5 + 1)
          else
            if r75 = x4 then
              Option.bind (f_X8_isLess x5 x3) fun r97 =>
              if r97 = 0 then
                L_X8_most_32 k u x1 n x3 x4 (x5 + 1)
              else
                L_X8_most_32 k u x1 n x5 r75 (x5 + 1)
            else
              L_X8_most_32 k u x1 n x3 x4 (x5 + 1)
      else
        L_X8_most_32 k u x1 n x3 x4 (x5 + 1)
set_option maxHeartbeats 4000000 in
set_option maxRecDepth 100000 in
theorem b_X8_most_32 {p : Program} {l : Launch} {e : Env} {s : State} {m : MethodId} {args : Array Value} {below : List Frame} {meth : Method} {c : Code} {g : Gx} {u : St} {x1 x2 : Int32} {res : Int32} {k : Int32 → Int32 → Int32 → Option (Int32)} (C : Cx p s m meth c args cX8_most RX8 8 (some .int) 22 g)
    (hk : ∀ (x3 x4 x5 : Int32) (H : Heap) (locs : List Loc) (ls : Array Slot), Zx wM g (Aw 22 g s.heap.size) s H locs u → lv_has ls 8 [(2, .int x2), (3, .int x3), (4, .int x4)] → k x3 x4 x5 = some res → W p l e (rmX 3 70) s m args below meth c H locs 0 0 (QI wM 22 g res u below args s) (F0 m 142 ls [])) :
    ∀ (n : Nat) (x3 x4 x5 : Int32) (H : Heap) (locs : List Loc) (ls : Array Slot), Zx wM g (Aw 22 g s.heap.size) s H locs u → lv_has ls 8 [(0, .ref (g.2.2 0)), (1, .int x1), (2, .int x2), (3, .int x3), (4, .int x4), (5, .int x5)] → L_X8_most_32 k u x1 n x3 x4 x5 = some res → W p l e (rmX 3 70) s m args below meth c H locs 0 0 (QI wM 22 g res u below args s) (F0 m 32 ls []) := by
  have hx := C.1
  have hb := C.2.1
  intro n
  induction n with
  | zero =>
    intro x3 x4 x5 H locs ls Z hl hf
    rw [L_X8_most_32.eq_1] at hf
    cases hf
  | succ n ih =>
    intro x3 x4 x5 H locs ls Z hl hf
    rw [L_X8_most_32.eq_2] at hf
    refine lv_iload hx hb dX8_most_32 (lv_at hl 5 rfl) ?_
    refine lv_aload_n hx hb dX8_most_34 rfl (lv_at hl 0 rfl) ?_
    obtain ⟨r35, hr35, hf⟩ := Option.bind_eq_some_iff.mp hf
    refine call_vi (As := []) (rest := [.int x5]) C Z (c_X8_all l hr35) mf_X8_all (ml_of C mw_1100) rfl (oM_0 g _) rfl ⟨rfl, rfl, by decide, by decide⟩ rfl hl.1 (Nat.le_of_ble_eq_true rfl) dX8_most_35 (fun H locs Z => ?_)
    refine lv_icmp_gt (tgt := 142) hx hb dX8_most_38 (by decide) (fun hc38 => ?_) (fun hc38 => ?_)
    · rw [if_pos hc38] at hf
      exact hk _ _ _ H locs ls Z (lv_sub hl [2, 3, 4] rfl) hf
    · rw [if_neg hc38] at hf
      refine lv_iload hx hb dX8_most_41 (lv_at hl 5 rfl) ?_
      refine lv_aload_n hx hb dX8_most_43 rfl (lv_at hl 0 rfl) ?_
      refine gM_0_10 C Z (fl_of C mw_827) dX8_most_44 ?_
      refine lv_bipush (v := 45) hx hb dX8_most_47 (by decide +kernel) ?_
      refine r_ald C Z (aM_8 g _ (f := (u.2.1 7)) rfl) (by decide) (k := 45) (by decide) dX8_most_49 (x := ((u.2.1 7) 45)) rfl ?_
      refine lv_iand hx hb dX8_most_50 ?_
      refine lv_if_ne (tgt := 136) hx hb dX8_most_51 (by decide) (fun hc51 => ?_) (fun hc51 => ?_)
      · rw [if_neg hc51] at hf
        refine lv_iinc (v := (x5 + 1)) (lv' := [(5, .int (x5 + 1)), (0, .ref (g.2.2 0)), (1, .int x1), (2, .int x2), (3, .int x3), (4, .int x4)]) hx hb dX8_most_136 hl (k := 5) rfl rfl (by decide) rfl (fun ls hl => ?_)
        refine lv_goto (tgt := 32) hx hb dX8_most_139 (by decide) ?_
        exact ih _ _ _ _ _ _ Z (lv_sub hl [1, 2, 3, 4, 5, 0] rfl) hf
      · rw [if_pos hc51] at hf
        refine lv_aload_n hx hb dX8_most_54 rfl (lv_at hl 0 rfl) ?_
        refine lv_iload hx hb dX8_most_55 (lv_at hl 5 rfl) ?_
        obtain ⟨r57, hr57, hf⟩ := Option.bind_eq_some_iff.mp hf
        refine call_vi (As := [.int x5]) (rest := []) C Z (c_X8_takes l hr57) mf_X8_takes (ml_of C mw_1131) rfl (oM_0 g _) rfl ⟨rfl, rfl, by decide, by decide⟩ rfl hl.1 (Nat.le_of_ble_eq_true rfl) dX8_most_57 (fun H locs Z => ?_)
        refine lv_iload_n hx hb dX8_most_60 rfl (lv_at hl 1 rfl) ?_
        refine lv_icmp_gt (tgt := 136) hx hb dX8_most_61 (by decide) (fun hc61 => ?_) (fun hc61 => ?_)
        · rw [if_pos hc61] at hf
          refine lv_iinc (v := (x5 + 1)) (lv' := [(5, .int (x5 + 1)), (0, .ref (g.2.2 0)), (1, .int x1), (2, .int x2), (3, .int x3), (4, .int x4)]) hx hb dX8_most_136 hl (k := 5) rfl rfl (by decide) rfl (fun ls hl => ?_)
          refine lv_goto (tgt := 32) hx hb dX8_most_139 (by decide) ?_
          exact ih _ _ _ _ _ _ Z (lv_sub hl [1, 2, 3, 4, 5, 0] rfl) hf
        · rw [if_neg hc61] at hf
          refine lv_aload_n hx hb dX8_most_64 rfl (lv_at hl 0 rfl) ?_
          refine lv_iload hx hb dX8_most_65 (lv_at hl 5 rfl) ?_
          refine lv_aload_n hx hb dX8_most_67 rfl (lv_at hl 0 rfl) ?_
          refine gM_0_10 C Z (fl_of C mw_827) dX8_most_68 ?_
          refine lv_bipush (v := 45) hx hb dX8_most_71 (by decide +kernel) ?_
          refine r_ald C Z (aM_8 g _ (f := (u.2.1 7)) rfl) (by decide) (k := 45) (by decide) dX8_most_73 (x := ((u.2.1 7) 45)) rfl ?_
          refine lv_ior hx hb dX8_most_74 ?_
          obtain ⟨r75, hr75, hf⟩ := Option.bind_eq_some_iff.mp hf
          refine call_vi (As := [.int (x5 ||| ((u.2.1 7) 45))]) (rest := []) C Z (c_X8_sawBy l hr75) mf_X8_sawBy (ml_of C mw_1024) rfl (oM_0 g _) rfl ⟨rfl, rfl, by decide, by decide⟩ rfl hl.1 (Nat.le_of_ble_eq_true rfl) dX8_most_75 (fun H locs Z => ?_)
          refine lv_istore (lv' := [(6, .int r75), (0, .ref (g.2.2 0)), (1, .int x1), (2, .int x2), (3, .int x3), (4, .int x4), (5, .int x5)]) hx hb dX8_most_78 hl (by decide) rfl (fun ls hl => ?_)
          refine lv_iload hx hb dX8_most_80 (lv_at hl 0 rfl) ?_
          refine lv_iload hx hb dX8_most_82 (lv_at hl 5 rfl) ?_
          refine lv_icmp_gt (tgt := 103) hx hb dX8_most_84 (by decide) (fun hc84 => ?_) (fun hc84 => ?_)
          · rw [if_pos hc84] at hf
            refine lv_iconst (v := 1) hx hb dX8_most_103 (by decide +kernel) ?_
            refine lv_goto (tgt := 108) hx hb dX8_most_104 (by decide) ?_
            refine lv_istore (lv' := [(7, .int 1), (6, .int r75), (0, .ref (g.2.2 0)), (1, .int x1), (2, .int x2), (3, .int x3), (4, .int x4), (5, .int x5)]) hx hb dX8_most_108 hl (by decide) rfl (fun ls hl => ?_)
            refine lv_iload hx hb dX8_most_110 (lv_at hl 0 rfl) ?_
            refine lv_if_eq (tgt := 120) hx hb dX8_most_112 (by decide) (fun hq => absurd hq (by decide)) (fun _ => ?_)
            refine lv_iload hx hb dX8_most_115 (lv_at hl 7 rfl) ?_
            refine lv_goto (tgt := 121) hx hb dX8_most_117 (by decide) ?_
            refine lv_istore_n (lv' := [(3, .int x5), (7, .int 1), (6, .int r75), (0, .ref (g.2.2 0)), (1, .int x1), (2, .int x2), (4, .int x4), (5, .int x5)]) hx hb dX8_most_121 rfl hl (by decide) rfl (fun ls hl => ?_)
            refine lv_iload hx hb dX8_most_122 (lv_at hl 1 rfl) ?_
            refine lv_if_eq (tgt := 132) hx hb dX8_most_124 (by decide) (fun hq => absurd hq (by decide)) (fun _ => ?_)
            refine lv_iload hx hb dX8_most_127 (lv_at hl 2 rfl) ?_
            refine lv_goto (tgt := 134) hx hb dX8_most_129 (by decide) ?_
            refine lv_istore (lv' := [(4, .int r75), (3, .int x5), (7, .int 1), (6, .int r75), (0, .ref (g.2.2 0)), (1, .int x1), (2, .int x2), (5, .int x5)]) hx hb dX8_most_134 hl (by decide) rfl (fun ls hl => ?_)
            refine lv_iinc (v := (x5 + 1)) (lv' := [(5, .int (x5 + 1)), (4, .int r75), (3, .int x5), (7, .int 1), (6, .int r75), (0, .ref (g.2.2 0)), (1, .int x1), (2, .int x2)]) hx hb dX8_most_136 hl (k := 7) rfl rfl (by decide) rfl (fun ls hl => ?_)
            refine lv_goto (tgt := 32) hx hb dX8_most_139 (by decide) ?_
            exact ih _ _ _ _ _ _ Z (lv_sub hl [5, 6, 7, 2, 1, 0] rfl) hf
          · rw [if_neg hc84] at hf
            refine lv_iload hx hb dX8_most_87 (lv_at hl 0 rfl) ?_
            refine lv_iload hx hb dX8_most_89 (lv_at hl 5 rfl) ?_
            refine lv_icmp_ne (tgt := 107) hx hb dX8_most_91 (by decide) (fun hc91 => ?_) (fun hc91 => ?_)
            · rw [if_neg hc91] at hf
              refine lv_iconst (v := 0) hx hb dX8_most_107 (by decide +kernel) ?_
              refine lv_istore (lv' := [(7, .int 0), (6, .int r75), (0, .ref (g.2.2 0)), (1, .int x1), (2, .int x2), (3, .int x3), (4, .int x4), (5, .int x5)]) hx hb dX8_most_108 hl (by decide) rfl (fun ls hl => ?_)
              refine lv_iload hx hb dX8_most_110 (lv_at hl 0 rfl) ?_
              refine lv_if_eq (tgt := 120) hx hb dX8_most_112 (by decide) (fun _ => ?_) (fun hq => absurd (by decide) hq)
              refine lv_iload_n hx hb dX8_most_120 rfl (lv_at hl 5 rfl) ?_
              refine lv_istore_n (lv' := [(3, .int x3), (7, .int 0), (6, .int r75), (0, .ref (g.2.2 0)), (1, .int x1), (2, .int x2), (4, .int x4), (5, .int x5)]) hx hb dX8_most_121 rfl hl (by decide) rfl (fun ls hl => ?_)
              refine lv_iload hx hb dX8_most_122 (lv_at hl 1 rfl) ?_
              refine lv_if_eq (tgt := 132) hx hb dX8_most_124 (by decide) (fun _ => ?_) (fun hq => absurd (by decide) hq)
              refine lv_iload hx hb dX8_most_132 (lv_at hl 6 rfl) ?_
              refine lv_istore (lv' := [(4, .int x4), (3, .int x3), (7, .int 0), (6, .int r75), (0, .ref (g.2.2 0)), (1, .int x1), (2, .int x2), (5, .int x5)]) hx hb dX8_most_134 hl (by decide) rfl (fun ls hl => ?_)
              refine lv_iinc (v := (x5 + 1)) (lv' := [(5, .int (x5 + 1)), (4, .int x4), (3, .int x3), (7, .int 0), (6, .int r75), (0, .ref (g.2.2 0)), (1, .int x1), (2, .int x2)]) hx hb dX8_most_136 hl (k := 7) rfl rfl (by decide) rfl (fun ls hl => ?_)
              refine lv_goto (tgt := 32) hx hb dX8_most_139 (by decide) ?_
              exact ih _ _ _ _ _ _ Z (lv_sub hl [5, 6, 7, 2, 1, 0] rfl) hf
            · rw [if_pos hc91] at hf
              refine lv_iload hx hb dX8_most_94 (lv_at hl 6 rfl) ?_
              refine lv_iload_n hx hb dX8_most_96 rfl (lv_at hl 4 rfl) ?_
              obtain ⟨r97, hr97, hf⟩ := Option.bind_eq_some_iff.mp hf
              refine call_si (As := [.int x5, .int x3]) (rest := []) C Z (c_X8_isLess l hr97) mf_X8_isLess (ml_of C mw_1108) rfl ⟨rfl, rfl, by decide, by decide⟩ rfl hl.1 (Nat.le_of_ble_eq_true rfl) dX8_most_97 (fun H locs Z => ?_)
              refine lv_if_eq (tgt := 107) hx hb dX8_most_100 (by decide) (fun hc100 => ?_) (fun hc100 => ?_)
              · rw [if_pos hc100] at hf
                refine lv_iconst (v := 0) hx hb dX8_most_107 (by decide +kernel) ?_
                refine lv_istore (lv' := [(7, .int 0), (6, .int r75), (0, .ref (g.2.2 0)), (1, .int x1), (2, .int x2), (3, .int x3), (4, .int x4), (5, .int x5)]) hx hb dX8_most_108 hl (by decide) rfl (fun ls hl => ?_)
                refine lv_iload hx hb dX8_most_110 (lv_at hl 0 rfl) ?_
                refine lv_if_eq (tgt := 120) hx hb dX8_most_112 (by decide) (fun _ => ?_) (fun hq => absurd (by decide) hq)
                refine lv_iload_n hx hb dX8_most_120 rfl (lv_at hl 5 rfl) ?_
                refine lv_istore_n (lv' := [(3, .int x3), (7, .int 0), (6, .int r75), (0, .ref (g.2.2 0)), (1, .int x1), (2, .int x2), (4, .int x4), (5, .int x5)]) hx hb dX8_most_121 rfl hl (by decide) rfl (fun ls hl => ?_)
                refine lv_iload hx hb dX8_most_122 (lv_at hl 1 rfl) ?_
                refine lv_if_eq (tgt := 132) hx hb dX8_most_124 (by decide) (fun _ => ?_) (fun hq => absurd (by decide) hq)
                refine lv_iload hx hb dX8_most_132 (lv_at hl 6 rfl) ?_
                refine lv_istore (lv' := [(4, .int x4), (3, .int x3), (7, .int 0), (6, .int r75), (0, .ref (g.2.2 0)), (1, .int x1), (2, .int x2), (5, .int x5)]) hx hb dX8_most_134 hl (by decide) rfl (fun ls hl => ?_)
                refine lv_iinc (v := (x5 + 1)) (lv' := [(5, .int (x5 + 1)), (4, .int x4), (3, .int x3), (7, .int 0), (6, .int r75), (0, .ref (g.2.2 0)), (1, .int x1), (2, .int x2)]) hx hb dX8_most_136 hl (k := 7) rfl rfl (by decide) rfl (fun ls hl => ?_)
                refine lv_goto (tgt := 32) hx hb dX8_most_139 (by decide) ?_
                exact ih _ _ _ _ _ _ Z (lv_sub hl [5, 6, 7, 2, 1, 0] rfl) hf
              · rw [if_neg hc100] at hf
                refine lv_iconst (v := 1) hx hb dX8_most_103 (by decide +kernel) ?_
                refine lv_goto (tgt := 108) hx hb dX8_most_104 (by decide) ?_
                refine lv_istore (lv' := [(7, .int 1), (6, .int r75), (0, .ref (g.2.2 0)), (1, .int x1), (2, .int x2), (3, .int x3), (4, .int x4), (5, .int x5)]) hx hb dX8_most_108 hl (by decide) rfl (fun ls hl => ?_)
                refine lv_iload hx hb dX8_most_110 (lv_at hl 0 rfl) ?_
                refine lv_if_eq (tgt := 120) hx hb dX8_most_112 (by decide) (fun hq => absurd hq (by decide)) (fun _ => ?_)
                refine lv_iload hx hb dX8_most_115 (lv_at hl 7 rfl) ?_
                refine lv_goto (tgt := 121) hx hb dX8_most_117 (by decide) ?_
                refine lv_istore_n (lv' := [(3, .int x5), (7, .int 1), (6, .int r75), (0, .ref (g.2.2 0)), (1, .int x1), (2, .int x2), (4, .int x4), (5, .int x5)]) hx hb dX8_most_121 rfl hl (by decide) rfl (fun ls hl => ?_)
                refine lv_iload hx hb dX8_most_122 (lv_at hl 1 rfl) ?_
                refine lv_if_eq (tgt := 132) hx hb dX8_most_124 (by decide) (fun hq => absurd hq (by decide)) (fun _ => ?_)
                refine lv_iload hx hb dX8_most_127 (lv_at hl 2 rfl) ?_
                refine lv_goto (tgt := 134) hx hb dX8_most_129 (by decide) ?_
                refine lv_istore (lv' := [(4, .int r75), (3, .int x5), (7, .int 1), (6, .int r75), (0, .ref (g.2.2 0)), (1, .int x1), (2, .int x2), (5, .int x5)]) hx hb dX8_most_134 hl (by decide) rfl (fun ls hl => ?_)
                refine lv_iinc (v := (x5 + 1)) (lv' := [(5, .int (x5 + 1)), (4, .int r75), (3, .int x5), (7, .int 1), (6, .int r75), (0, .ref (g.2.2 0)), (1, .int x1), (2, .int x2)]) hx hb dX8_most_136 hl (k := 7) rfl rfl (by decide) rfl (fun ls hl => ?_)
                refine lv_goto (tgt := 32) hx hb dX8_most_139 (by decide) ?_
                exact ih _ _ _ _ _ _ Z (lv_sub hl [5, 6, 7, 2, 1, 0] rfl) hf
def f_X8_most (u : St) (x1 x2 : Int32) : Option (Int32) :=
  Option.bind (f_X8_in x1 0 60) fun r4 =>
  if r4 = 0 then
    some (-1)
  else
    Option.bind (f_X8_in x2 0 1) fun r13 =>
    if r13 = 0 then
      some (-1)
    else
      Option.bind (f_X8_knownMuch u) fun r24 =>
      L_X8_most_32 (fun x3 x4 x5 =>
        if x2 = 0 then
          some x3
        else
          some x4) u x1 FU 0 r24 1
set_option maxHeartbeats 4000000 in
set_option maxRecDepth 100000 in
theorem c_X8_most (l : Launch) {g : Gx} {u : St} {x1 x2 : Int32} {res : Int32} (hf : f_X8_most u x1 x2 = some res) : CI wM 22 l yX8_most (wsY yX8_most cX8_most 8 (some .int)) (rmX 3 70) g [.ref (g.2.2 0), .int x1, .int x2] u res u := by
  refine CI_start (by decide +kernel) rfl (Nat.le_of_ble_eq_true rfl) (fun {p e s m args below meth c ls} C Z hl => ?_)
  have hl : lv_has ls 8 [(0, .ref (g.2.2 0)), (1, .int x1), (2, .int x2)] := hl
  have hx := C.1
  have hb := C.2.1
  unfold f_X8_most at hf
  refine lv_iload_n hx hb dX8_most_0 rfl (lv_at hl 1 rfl) ?_
  refine lv_iconst (v := 0) hx hb dX8_most_1 (by decide +kernel) ?_
  refine lv_bipush (v := 60) hx hb dX8_most_2 (by decide +kernel) ?_
  obtain ⟨r4, hr4, hf⟩ := Option.bind_eq_some_iff.mp hf
  refine call_si (As := [.int x1, .int 0, .int 60]) (rest := []) C Z (c_X8_in l hr4) mf_X8_in (ml_of C mw_934) rfl ⟨rfl, rfl, by decide, by decide⟩ rfl hl.1 (Nat.le_of_ble_eq_true rfl) dX8_most_4 (fun H locs Z => ?_)
  refine lv_if_eq (tgt := 19) hx hb dX8_most_7 (by decide) (fun hc7 => ?_) (fun hc7 => ?_)
  · rw [if_pos hc7] at hf
    refine lv_iconst (v := (-1)) hx hb dX8_most_19 (by decide +kernel) ?_
    have hf := Option.some.inj hf
    subst hf
    exact ret_i C Z dX8_most_20
  · rw [if_neg hc7] at hf
    refine lv_iload_n hx hb dX8_most_10 rfl (lv_at hl 2 rfl) ?_
    refine lv_iconst (v := 0) hx hb dX8_most_11 (by decide +kernel) ?_
    refine lv_iconst (v := 1) hx hb dX8_most_12 (by decide +kernel) ?_
    obtain ⟨r13, hr13, hf⟩ := Option.bind_eq_some_iff.mp hf
    refine call_si (As := [.int x2, .int 0, .int 1]) (rest := []) C Z (c_X8_in l hr13) mf_X8_in (ml_of C mw_934) rfl ⟨rfl, rfl, by decide, by decide⟩ rfl hl.1 (Nat.le_of_ble_eq_true rfl) dX8_most_13 (fun H locs Z => ?_)
    refine lv_if_ne (tgt := 21) hx hb dX8_most_16 (by decide) (fun hc16 => ?_) (fun hc16 => ?_)
    · rw [if_neg hc16] at hf
      refine lv_iconst (v := 0) hx hb dX8_most_21 (by decide +kernel) ?_
      refine lv_istore_n (lv' := [(3, .int 0), (0, .ref (g.2.2 0)), (1, .int x1), (2, .int x2)]) hx hb dX8_most_22 rfl hl (by decide) rfl (fun ls hl => ?_)
      refine lv_aload_n hx hb dX8_most_23 rfl (lv_at hl 1 rfl) ?_
      obtain ⟨r24, hr24, hf⟩ := Option.bind_eq_some_iff.mp hf
      refine call_vi (As := []) (rest := []) C Z (c_X8_knownMuch l hr24) mf_X8_knownMuch (ml_of C mw_1088) rfl (oM_0 g _) rfl ⟨rfl, rfl, by decide, by decide⟩ rfl hl.1 (Nat.le_of_ble_eq_true rfl) dX8_most_24 (fun H locs Z => ?_)
      refine lv_istore (lv' := [(4, .int r24), (3, .int 0), (0, .ref (g.2.2 0)), (1, .int x1), (2, .int x2)]) hx hb dX8_most_27 hl (by decide) rfl (fun ls hl => ?_)
      refine lv_iconst (v := 1) hx hb dX8_most_29 (by decide +kernel) ?_
      refine lv_istore (lv' := [(5, .int 1), (4, .int r24), (3, .int 0), (0, .ref (g.2.2 0)), (1, .int x1), (2, .int x2)]) hx hb dX8_most_30 hl (by decide) rfl (fun ls hl => ?_)
      refine b_X8_most_32 C (fun x3 x4 x5 H locs ls Z hl hf => ?_) FU _ _ _ _ _ _ Z (lv_sub hl [3, 4, 5, 2, 1, 0] rfl) hf
      refine lv_iload_n hx hb dX8_most_142 rfl (lv_at hl 0 rfl) ?_
      refine lv_if_ne (tgt := 150) hx hb dX8_most_143 (by decide) (fun hc143 => ?_) (fun hc143 => ?_)
      · rw [if_neg hc143] at hf
        refine lv_iload hx hb dX8_most_150 (lv_at hl 2 rfl) ?_
        have hf := Option.some.inj hf
        subst hf
        exact ret_i C Z dX8_most_152
      · rw [if_pos hc143] at hf
        refine lv_iload_n hx hb dX8_most_146 rfl (lv_at hl 1 rfl) ?_
        refine lv_goto (tgt := 152) hx hb dX8_most_147 (by decide) ?_
        have hf := Option.some.inj hf
        subst hf
        exact ret_i C Z dX8_most_152
    · rw [if_pos hc16] at hf
      refine lv_iconst (v := (-1)) hx hb dX8_most_19 (by decide +kernel) ?_
      have hf := Option.some.inj hf
      subst hf
      exact ret_i C Z dX8_most_20
