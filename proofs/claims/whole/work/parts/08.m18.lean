def f_X7_builds (u : St) (x1 x2 : Int32) : Option (Int32 × St) :=
  Option.bind (f_X7_isCell x1) fun r1 =>
  if r1 = 0 then
    some ((-1), u)
  else
    Option.bind (f_X7_isWithin x2 0 9) fun r11 =>
    if r11 = 0 then
      some ((-1), u)
    else
      if oob x1 24 then none else
      if ((u.2.1 30) (Int32.toNatClampNeg x1)) = x2 then
        some ((-2), u)
      else
        Option.bind (f_X3_build u x1 x2) fun r49 =>
        some (((u.2.1 30) (Int32.toNatClampNeg x1)), r49)
set_option maxHeartbeats 4000000 in
set_option maxRecDepth 100000 in
theorem c_X7_builds (l : Launch) {g : Gx} {u : St} {x1 x2 : Int32} {res : Int32 × St} (hf : f_X7_builds u x1 x2 = some res) : CI wC 82 l yX7_builds (wsY yX7_builds cX7_builds 4 (some .int)) (rmX 4 125) g [.ref (g.2.2 0), .int x1, .int x2] u res.1 res.2 := by
  refine CI_start (by decide +kernel) rfl (Nat.le_of_ble_eq_true rfl) (fun {p e s m args below meth c ls} C Z hl => ?_)
  have hl : lv_has ls 4 [(0, .ref (g.2.2 0)), (1, .int x1), (2, .int x2)] := hl
  have hx := C.1
  have hb := C.2.1
  unfold f_X7_builds at hf
  refine lv_iload_n hx hb dX7_builds_0 rfl (lv_at hl 1 rfl) ?_
  obtain ⟨r1, hr1, hf⟩ := Option.bind_eq_some_iff.mp hf
  refine call_si (As := [.int x1]) (rest := []) C Z (c_X7_isCell l hr1) mf_X7_isCell (ml_of C mw_455) rfl ⟨rfl, rfl, by decide, by decide⟩ rfl hl.1 (Nat.le_of_ble_eq_true rfl) dX7_builds_1 (fun H locs Z => ?_)
  refine lv_if_eq (tgt := 17) hx hb dX7_builds_4 (by decide) (fun hc4 => ?_) (fun hc4 => ?_)
  · rw [if_pos hc4] at hf
    refine lv_iconst (v := (-1)) hx hb dX7_builds_17 (by decide +kernel) ?_
    have hf := Option.some.inj hf
    subst hf
    exact ret_i C Z dX7_builds_18
  · rw [if_neg hc4] at hf
    refine lv_iload_n hx hb dX7_builds_7 rfl (lv_at hl 2 rfl) ?_
    refine lv_iconst (v := 0) hx hb dX7_builds_8 (by decide +kernel) ?_
    refine lv_bipush (v := 9) hx hb dX7_builds_9 (by decide +kernel) ?_
    obtain ⟨r11, hr11, hf⟩ := Option.bind_eq_some_iff.mp hf
    refine call_si (As := [.int x2, .int 0, .int 9]) (rest := []) C Z (c_X7_isWithin l hr11) mf_X7_isWithin (ml_of C mw_331) rfl ⟨rfl, rfl, by decide, by decide⟩ rfl hl.1 (Nat.le_of_ble_eq_true rfl) dX7_builds_11 (fun H locs Z => ?_)
    refine lv_if_ne (tgt := 19) hx hb dX7_builds_14 (by decide) (fun hc14 => ?_) (fun hc14 => ?_)
    · rw [if_neg hc14] at hf
      refine lv_aload_n hx hb dX7_builds_19 rfl (lv_at hl 0 rfl) ?_
      refine gC_0_2 C Z (fl_of C mw_307) dX7_builds_20 ?_
      refine gC_23_1 C Z (fl_nest C nw_100) dX7_builds_23 ?_
      refine gC_42_2 C Z (fl_nest C nw_93) dX7_builds_26 ?_
      refine lv_iload_n hx hb dX7_builds_29 rfl (lv_at hl 1 rfl) ?_
      by_cases ho30 : oob x1 24 = true
      · rw [if_pos ho30] at hf; cases hf
      rw [if_neg ho30] at hf
      refine r_ald C Z (aC_43 g _ (f := (u.2.1 30)) rfl) ho30 rfl dX7_builds_30 (x := ((u.2.1 30) (Int32.toNatClampNeg x1))) rfl ?_
      refine lv_istore_n (lv' := [(3, .int ((u.2.1 30) (Int32.toNatClampNeg x1))), (0, .ref (g.2.2 0)), (1, .int x1), (2, .int x2)]) hx hb dX7_builds_31 rfl hl (by decide) rfl (fun ls hl => ?_)
      refine lv_iload_n hx hb dX7_builds_32 rfl (lv_at hl 0 rfl) ?_
      refine lv_iload_n hx hb dX7_builds_33 rfl (lv_at hl 3 rfl) ?_
      refine lv_icmp_ne (tgt := 40) hx hb dX7_builds_34 (by decide) (fun hc34 => ?_) (fun hc34 => ?_)
      · rw [if_neg hc34] at hf
        refine lv_aload_n hx hb dX7_builds_40 rfl (lv_at hl 1 rfl) ?_
        refine gC_0_2 C Z (fl_of C mw_307) dX7_builds_41 ?_
        refine gC_23_1 C Z (fl_nest C nw_100) dX7_builds_44 ?_
        refine lv_iload_n hx hb dX7_builds_47 rfl (lv_at hl 2 rfl) ?_
        refine lv_iload_n hx hb dX7_builds_48 rfl (lv_at hl 3 rfl) ?_
        obtain ⟨r49, hr49, hf⟩ := Option.bind_eq_some_iff.mp hf
        refine call_vv (As := [.int x1, .int x2]) (rest := []) C Z (c_X3_build l hr49) mf_X3_build (ml_nest C nw_41) rfl (oC_42 g _) rfl ⟨rfl, rfl, by decide, by decide⟩ rfl hl.1 (Nat.le_of_ble_eq_true rfl) dX7_builds_49 (fun H locs Z => ?_)
        refine lv_iload_n hx hb dX7_builds_52 rfl (lv_at hl 0 rfl) ?_
        have hf := Option.some.inj hf
        subst hf
        exact ret_i C Z dX7_builds_53
      · rw [if_pos hc34] at hf
        refine lv_bipush (v := (-2)) hx hb dX7_builds_37 (by decide +kernel) ?_
        have hf := Option.some.inj hf
        subst hf
        exact ret_i C Z dX7_builds_39
    · rw [if_pos hc14] at hf
      refine lv_iconst (v := (-1)) hx hb dX7_builds_17 (by decide +kernel) ?_
      have hf := Option.some.inj hf
      subst hf
      exact ret_i C Z dX7_builds_18
def f_X8_builds (u : St) (x1 x2 : Int32) : Option (Int32 × St) :=
  Option.bind (f_X8_isCell x1) fun r1 =>
  if r1 = 0 then
    some ((-1), u)
  else
    Option.bind (f_X8_in x2 0 9) fun r11 =>
    if r11 = 0 then
      some ((-1), u)
    else
      if oob (1 + x1) 507 then none else
      if ((u.2.1 7) (Int32.toNatClampNeg (1 + x1))) = x2 then
        some ((-2), u)
      else
        Option.bind (f_X8_remembers u) fun r37 =>
        if oob (1 + x1) 507 then none else
        some (((u.2.1 7) (Int32.toNatClampNeg (1 + x1))), (sA r37 7 (upd (r37.2.1 7) (Int32.toNatClampNeg (1 + x1)) x2)))
set_option maxHeartbeats 4000000 in
set_option maxRecDepth 100000 in
theorem c_X8_builds (l : Launch) {g : Gx} {u : St} {x1 x2 : Int32} {res : Int32 × St} (hf : f_X8_builds u x1 x2 = some res) : CI wM 22 l yX8_builds (wsY yX8_builds cX8_builds 4 (some .int)) (rmX 2 42) g [.ref (g.2.2 0), .int x1, .int x2] u res.1 res.2 := by
  refine CI_start (by decide +kernel) rfl (Nat.le_of_ble_eq_true rfl) (fun {p e s m args below meth c ls} C Z hl => ?_)
  have hl : lv_has ls 4 [(0, .ref (g.2.2 0)), (1, .int x1), (2, .int x2)] := hl
  have hx := C.1
  have hb := C.2.1
  unfold f_X8_builds at hf
  refine lv_iload_n hx hb dX8_builds_0 rfl (lv_at hl 1 rfl) ?_
  obtain ⟨r1, hr1, hf⟩ := Option.bind_eq_some_iff.mp hf
  refine call_si (As := [.int x1]) (rest := []) C Z (c_X8_isCell l hr1) mf_X8_isCell (ml_of C mw_999) rfl ⟨rfl, rfl, by decide, by decide⟩ rfl hl.1 (Nat.le_of_ble_eq_true rfl) dX8_builds_1 (fun H locs Z => ?_)
  refine lv_if_eq (tgt := 17) hx hb dX8_builds_4 (by decide) (fun hc4 => ?_) (fun hc4 => ?_)
  · rw [if_pos hc4] at hf
    refine lv_iconst (v := (-1)) hx hb dX8_builds_17 (by decide +kernel) ?_
    have hf := Option.some.inj hf
    subst hf
    exact ret_i C Z dX8_builds_18
  · rw [if_neg hc4] at hf
    refine lv_iload_n hx hb dX8_builds_7 rfl (lv_at hl 2 rfl) ?_
    refine lv_iconst (v := 0) hx hb dX8_builds_8 (by decide +kernel) ?_
    refine lv_bipush (v := 9) hx hb dX8_builds_9 (by decide +kernel) ?_
    obtain ⟨r11, hr11, hf⟩ := Option.bind_eq_some_iff.mp hf
    refine call_si (As := [.int x2, .int 0, .int 9]) (rest := []) C Z (c_X8_in l hr11) mf_X8_in (ml_of C mw_934) rfl ⟨rfl, rfl, by decide, by decide⟩ rfl hl.1 (Nat.le_of_ble_eq_true rfl) dX8_builds_11 (fun H locs Z => ?_)
    refine lv_if_ne (tgt := 19) hx hb dX8_builds_14 (by decide) (fun hc14 => ?_) (fun hc14 => ?_)
    · rw [if_neg hc14] at hf
      refine lv_aload_n hx hb dX8_builds_19 rfl (lv_at hl 0 rfl) ?_
      refine gM_0_10 C Z (fl_of C mw_827) dX8_builds_20 ?_
      refine lv_iconst (v := 1) hx hb dX8_builds_23 (by decide +kernel) ?_
      refine lv_iload_n hx hb dX8_builds_24 rfl (lv_at hl 1 rfl) ?_
      refine lv_iadd hx hb dX8_builds_25 ?_
      by_cases ho26 : oob (1 + x1) 507 = true
      · rw [if_pos ho26] at hf; cases hf
      rw [if_neg ho26] at hf
      refine r_ald C Z (aM_8 g _ (f := (u.2.1 7)) rfl) ho26 rfl dX8_builds_26 (x := ((u.2.1 7) (Int32.toNatClampNeg (1 + x1)))) rfl ?_
      refine lv_istore_n (lv' := [(3, .int ((u.2.1 7) (Int32.toNatClampNeg (1 + x1)))), (0, .ref (g.2.2 0)), (1, .int x1), (2, .int x2)]) hx hb dX8_builds_27 rfl hl (by decide) rfl (fun ls hl => ?_)
      refine lv_iload_n hx hb dX8_builds_28 rfl (lv_at hl 0 rfl) ?_
      refine lv_iload_n hx hb dX8_builds_29 rfl (lv_at hl 3 rfl) ?_
      refine lv_icmp_ne (tgt := 36) hx hb dX8_builds_30 (by decide) (fun hc30 => ?_) (fun hc30 => ?_)
      · rw [if_neg hc30] at hf
        refine lv_aload_n hx hb dX8_builds_36 rfl (lv_at hl 1 rfl) ?_
        obtain ⟨r37, hr37, hf⟩ := Option.bind_eq_some_iff.mp hf
        refine call_vv (As := []) (rest := []) C Z (c_X8_remembers l hr37) mf_X8_remembers (ml_of C mw_1060) rfl (oM_0 g _) rfl ⟨rfl, rfl, by decide, by decide⟩ rfl hl.1 (Nat.le_of_ble_eq_true rfl) dX8_builds_37 (fun H locs Z => ?_)
        refine lv_aload_n hx hb dX8_builds_40 rfl (lv_at hl 1 rfl) ?_
        refine gM_0_10 C Z (fl_of C mw_827) dX8_builds_41 ?_
        refine lv_iconst (v := 1) hx hb dX8_builds_44 (by decide +kernel) ?_
        refine lv_iload_n hx hb dX8_builds_45 rfl (lv_at hl 2 rfl) ?_
        refine lv_iadd hx hb dX8_builds_46 ?_
        refine lv_iload_n hx hb dX8_builds_47 rfl (lv_at hl 3 rfl) ?_
        by_cases ho48 : oob (1 + x1) 507 = true
        · rw [if_pos ho48] at hf; cases hf
        rw [if_neg ho48] at hf
        refine r_ast C wokM Z (aM_8 g _ (f := (r37.2.1 7)) rfl) ho48 rfl (sM_8 g _ _) dX8_builds_48 (fun H locs Z => ?_)
        refine lv_iload_n hx hb dX8_builds_49 rfl (lv_at hl 0 rfl) ?_
        have hf := Option.some.inj hf
        subst hf
        exact ret_i C Z dX8_builds_50
      · rw [if_pos hc30] at hf
        refine lv_bipush (v := (-2)) hx hb dX8_builds_33 (by decide +kernel) ?_
        have hf := Option.some.inj hf
        subst hf
        exact ret_i C Z dX8_builds_35
    · rw [if_pos hc14] at hf
      refine lv_iconst (v := (-1)) hx hb dX8_builds_17 (by decide +kernel) ?_
      have hf := Option.some.inj hf
      subst hf
      exact ret_i C Z dX8_builds_18
def L_X3_amountSeenBy_4 (k : Int32 → Int32 → Option (Int32)) (u : St) (x1 : Int32) : Nat → Int32 → Int32 → Option (Int32)
  | 0, _, _ => none
  | n + 1, x2, x3 =>
    if 4 ≤ x3 then
      k x2 x3
    else
      Option.bind (f_X3_seenByAnyOf u x1 x3) fun r13 =>
      Option.bind (f_J6_bitCount_0f7a4 r13) fun r16 =>
      L_X3_amountSeenBy_4 k u x1 n (x2 + r16) (x3 + 1)
set_option maxHeartbeats 4000000 in
set_option maxRecDepth 100000 in
theorem b_X3_amountSeenBy_4 {p : Program} {l : Launch} {e : Env} {s : State} {m : MethodId} {args : Array Value} {below : List Frame} {meth : Method} {c : Code} {g : Gx} {u : St} {x1 : Int32} {res : Int32} {k : Int32 → Int32 → Option (Int32)} (C : Cx p s m meth c args cX3_amountSeenBy RX3 4 (some .int) 82 g)
    (hk : ∀ (x2 x3 : Int32) (H : Heap) (locs : List Loc) (ls : Array Slot), Zx wC g (Aw 82 g s.heap.size) s H locs u → lv_has ls 4 [(2, .int x2)] → k x2 x3 = some res → W p l e (rmX 2 45) s m args below meth c H locs 0 0 (QI wC 82 g res u below args s) (F0 m 27 ls [])) :
    ∀ (n : Nat) (x2 x3 : Int32) (H : Heap) (locs : List Loc) (ls : Array Slot), Zx wC g (Aw 82 g s.heap.size) s H locs u → lv_has ls 4 [(0, .ref (g.2.2 42)), (1, .int x1), (2, .int x2), (3, .int x3)] → L_X3_amountSeenBy_4 k u x1 n x2 x3 = some res → W p l e (rmX 2 45) s m args below meth c H locs 0 0 (QI wC 82 g res u below args s) (F0 m 4 ls []) := by
  have hx := C.1
  have hb := C.2.1
  intro n
  induction n with
  | zero =>
    intro x2 x3 H locs ls Z hl hf
    rw [L_X3_amountSeenBy_4.eq_1] at hf
    cases hf
  | succ n ih =>
    intro x2 x3 H locs ls Z hl hf
    rw [L_X3_amountSeenBy_4.eq_2] at hf
    refine lv_iload_n hx hb dX3_amountSeenBy_4 rfl (lv_at hl 3 rfl) ?_
    refine lv_iconst (v := 4) hx hb dX3_amountSeenBy_5 (by decide +kernel) ?_
    refine lv_icmp_ge (tgt := 27) hx hb dX3_amountSeenBy_6 (by decide) (fun hc6 => ?_) (fun hc6 => ?_)
    · rw [if_pos hc6] at hf
      exact hk _ _ H locs ls Z (lv_sub hl [2] rfl) hf
    · rw [if_neg hc6] at hf
      refine lv_iload_n hx hb dX3_amountSeenBy_9 rfl (lv_at hl 2 rfl) ?_
      refine lv_aload_n hx hb dX3_amountSeenBy_10 rfl (lv_at hl 0 rfl) ?_
      refine lv_iload_n hx hb dX3_amountSeenBy_11 rfl (lv_at hl 1 rfl) ?_
      refine lv_iload_n hx hb dX3_amountSeenBy_12 rfl (lv_at hl 3 rfl) ?_
      obtain ⟨r13, hr13, hf⟩ := Option.bind_eq_some_iff.mp hf
      refine call_vi (As := [.int x1, .int x3]) (rest := [.int x2]) C Z (c_X3_seenByAnyOf l hr13) mf_X3_seenByAnyOf (ml_of C mw_592) rfl (oC_42 g _) rfl ⟨rfl, rfl, by decide, by decide⟩ rfl hl.1 (Nat.le_of_ble_eq_true rfl) dX3_amountSeenBy_13 (fun H locs Z => ?_)
      obtain ⟨r16, hr16, hf⟩ := Option.bind_eq_some_iff.mp hf
      refine call_si (As := [.int r13]) (rest := [.int x2]) C Z (c_J6_bitCount_0f7a4 l hr16) mf_J6_bitCount_0f7a4 (ml_of C mw_488) rfl ⟨rfl, rfl, by decide, by decide⟩ rfl hl.1 (Nat.le_of_ble_eq_true rfl) dX3_amountSeenBy_16 (fun H locs Z => ?_)
      refine lv_iadd hx hb dX3_amountSeenBy_19 ?_
      refine lv_istore_n (lv' := [(2, .int (x2 + r16)), (0, .ref (g.2.2 42)), (1, .int x1), (3, .int x3)]) hx hb dX3_amountSeenBy_20 rfl hl (by decide) rfl (fun ls hl => ?_)
      refine lv_iinc (v := (x3 + 1)) (lv' := [(3, .int (x3 + 1)), (2, .int (x2 + r16)), (0, .ref (g.2.2 42)), (1, .int x1)]) hx hb dX3_amountSeenBy_21 hl (k := 3) rfl rfl (by decide) rfl (fun ls hl => ?_)
      refine lv_goto (tgt := 4) hx hb dX3_amountSeenBy_24 (by decide) ?_
      exact ih _ _ _ _ _ Z (lv_sub hl [2, 3, 1, 0] rfl) hf
def f_X3_amountSeenBy (u : St) (x1 : Int32) : Option (Int32) :=
  L_X3_amountSeenBy_4 (fun x2 x3 =>
    some x2) u x1 FU 0 0
set_option maxHeartbeats 4000000 in
set_option maxRecDepth 100000 in
theorem c_X3_amountSeenBy (l : Launch) {g : Gx} {u : St} {x1 : Int32} {res : Int32} (hf : f_X3_amountSeenBy u x1 = some res) : CI wC 82 l yX3_amountSeenBy (wsY yX3_amountSeenBy cX3_amountSeenBy 4 (some .int)) (rmX 2 45) g [.ref (g.2.2 42), .int x1] u res u := by
  refine CI_start (by decide +kernel) rfl (Nat.le_of_ble_eq_true rfl) (fun {p e s m args below meth c ls} C Z hl => ?_)
  have hl : lv_has ls 4 [(0, .ref (g.2.2 42)), (1, .int x1)] := hl
  have hx := C.1
  have hb := C.2.1
  unfold f_X3_amountSeenBy at hf
  refine lv_iconst (v := 0) hx hb dX3_amountSeenBy_0 (by decide +kernel) ?_
  refine lv_istore_n (lv' := [(2, .int 0), (0, .ref (g.2.2 42)), (1, .int x1)]) hx hb dX3_amountSeenBy_1 rfl hl (by decide) rfl (fun ls hl => ?_)
  refine lv_iconst (v := 0) hx hb dX3_amountSeenBy_2 (by decide +kernel) ?_
  refine lv_istore_n (lv' := [(3, .int 0), (2, .int 0), (0, .ref (g.2.2 42)), (1, .int x1)]) hx hb dX3_amountSeenBy_3 rfl hl (by decide) rfl (fun ls hl => ?_)
  refine b_X3_amountSeenBy_4 C (fun x2 x3 H locs ls Z hl hf => ?_) FU _ _ _ _ _ Z (lv_sub hl [2, 3, 1, 0] rfl) hf
  refine lv_iload_n hx hb dX3_amountSeenBy_27 rfl (lv_at hl 0 rfl) ?_
  have hf := Option.some.inj hf
  subst hf
  exact ret_i C Z dX3_amountSeenBy_28
def f_X3_amountKnownWith (u : St) (x1 : Int32) : Option (Int32) :=
  Option.bind (f_X3_amountSeenBy u ((u.1 11) ||| x1)) fun r7 =>
  some r7
set_option maxHeartbeats 4000000 in
set_option maxRecDepth 100000 in
theorem c_X3_amountKnownWith (l : Launch) {g : Gx} {u : St} {x1 : Int32} {res : Int32} (hf : f_X3_amountKnownWith u x1 = some res) : CI wC 82 l yX3_amountKnownWith (wsY yX3_amountKnownWith cX3_amountKnownWith 2 (some .int)) (rmX 3 68) g [.ref (g.2.2 42), .int x1] u res u := by
  refine CI_start (by decide +kernel) rfl (Nat.le_of_ble_eq_true rfl) (fun {p e s m args below meth c ls} C Z hl => ?_)
  have hl : lv_has ls 2 [(0, .ref (g.2.2 42)), (1, .int x1)] := hl
  have hx := C.1
  have hb := C.2.1
  unfold f_X3_amountKnownWith at hf
  refine lv_aload_n hx hb dX3_amountKnownWith_0 rfl (lv_at hl 0 rfl) ?_
  refine lv_aload_n hx hb dX3_amountKnownWith_1 rfl (lv_at hl 0 rfl) ?_
  refine gC_42_1 C Z (fl_of C mw_222) dX3_amountKnownWith_2 (x := (u.1 11)) rfl ?_
  refine lv_iload_n hx hb dX3_amountKnownWith_5 rfl (lv_at hl 1 rfl) ?_
  refine lv_ior hx hb dX3_amountKnownWith_6 ?_
  obtain ⟨r7, hr7, hf⟩ := Option.bind_eq_some_iff.mp hf
  refine call_vi (As := [.int ((u.1 11) ||| x1)]) (rest := []) C Z (c_X3_amountSeenBy l hr7) mf_X3_amountSeenBy (ml_of C mw_588) rfl (oC_42 g _) rfl ⟨rfl, rfl, by decide, by decide⟩ rfl hl.1 (Nat.le_of_ble_eq_true rfl) dX3_amountKnownWith_7 (fun H locs Z => ?_)
  have hf := Option.some.inj hf
  subst hf
  exact ret_i C Z dX3_amountKnownWith_10
def f_X3_bringDown (u : St) (x1 : Int32) : Option (St) :=
  Option.bind (f_X3_remember u 2 x1 0) fun r4 =>
  some (sI r4 11 ((r4.1 11) ||| (1 <<< (x1 &&& 31))))
set_option maxHeartbeats 4000000 in
set_option maxRecDepth 100000 in
theorem c_X3_bringDown (l : Launch) {g : Gx} {u : St} {x1 : Int32} {res : St} (hf : f_X3_bringDown u x1 = some res) : CV wC 82 l yX3_bringDown (wsY yX3_bringDown cX3_bringDown 2 (none)) (rmX 3 103) g [.ref (g.2.2 42), .int x1] u res := by
  refine CV_start (by decide +kernel) rfl (Nat.le_of_ble_eq_true rfl) (fun {p e s m args below meth c ls} C Z hl => ?_)
  have hl : lv_has ls 2 [(0, .ref (g.2.2 42)), (1, .int x1)] := hl
  have hx := C.1
  have hb := C.2.1
  unfold f_X3_bringDown at hf
  refine lv_aload_n hx hb dX3_bringDown_0 rfl (lv_at hl 0 rfl) ?_
  refine lv_iconst (v := 2) hx hb dX3_bringDown_1 (by decide +kernel) ?_
  refine lv_iload_n hx hb dX3_bringDown_2 rfl (lv_at hl 1 rfl) ?_
  refine lv_iconst (v := 0) hx hb dX3_bringDown_3 (by decide +kernel) ?_
  obtain ⟨r4, hr4, hf⟩ := Option.bind_eq_some_iff.mp hf
  refine call_vv (As := [.int 2, .int x1, .int 0]) (rest := []) C Z (c_X3_remember l hr4) mf_X3_remember (ml_of C mw_535) rfl (oC_42 g _) rfl ⟨rfl, rfl, by decide, by decide⟩ rfl hl.1 (Nat.le_of_ble_eq_true rfl) dX3_bringDown_4 (fun H locs Z => ?_)
  refine lv_aload_n hx hb dX3_bringDown_7 rfl (lv_at hl 0 rfl) ?_
  refine lv_dup hx hb dX3_bringDown_8 rfl ?_
  refine gC_42_1 C Z (fl_of C mw_222) dX3_bringDown_9 (x := (r4.1 11)) rfl ?_
  refine lv_iconst (v := 1) hx hb dX3_bringDown_12 (by decide +kernel) ?_
  refine lv_iload_n hx hb dX3_bringDown_13 rfl (lv_at hl 1 rfl) ?_
  refine lv_ishl hx hb dX3_bringDown_14 ?_
  refine lv_ior hx hb dX3_bringDown_15 ?_
  refine pC_42_1 C Z (fl_of C mw_222) dX3_bringDown_16 (fun H locs Z => ?_)
  have hf := Option.some.inj hf
  subst hf
  exact ret_v C Z dX3_bringDown_19
def f_X7_asks (u : St) (x1 : Int32) : Option (Int32 × St) :=
  Option.bind (f_X7_isCock u x1) fun r2 =>
  if r2 = 0 then
    some ((-1), u)
  else
    Option.bind (f_X3_isAsked u x1) fun r18 =>
    if r18 = 0 then
      Option.bind (f_X3_amountKnownWith u 0) fun r35 =>
      Option.bind (f_X3_bringDown u x1) fun r47 =>
      Option.bind (f_X3_amountKnownWith r47 0) fun r58 =>
      some ((r58 - r35), r47)
    else
      some ((-2), u)
set_option maxHeartbeats 4000000 in
set_option maxRecDepth 100000 in
theorem c_X7_asks (l : Launch) {g : Gx} {u : St} {x1 : Int32} {res : Int32 × St} (hf : f_X7_asks u x1 = some res) : CI wC 82 l yX7_asks (wsY yX7_asks cX7_asks 3 (some .int)) (rmX 4 124) g [.ref (g.2.2 0), .int x1] u res.1 res.2 := by
  refine CI_start (by decide +kernel) rfl (Nat.le_of_ble_eq_true rfl) (fun {p e s m args below meth c ls} C Z hl => ?_)
  have hl : lv_has ls 3 [(0, .ref (g.2.2 0)), (1, .int x1)] := hl
  have hx := C.1
  have hb := C.2.1
  unfold f_X7_asks at hf
  refine lv_aload_n hx hb dX7_asks_0 rfl (lv_at hl 0 rfl) ?_
  refine lv_iload_n hx hb dX7_asks_1 rfl (lv_at hl 1 rfl) ?_
  obtain ⟨r2, hr2, hf⟩ := Option.bind_eq_some_iff.mp hf
  refine call_vi (As := [.int x1]) (rest := []) C Z (c_X7_isCock l hr2) mf_X7_isCock (ml_of C mw_462) rfl (oC_0 g _) rfl ⟨rfl, rfl, by decide, by decide⟩ rfl hl.1 (Nat.le_of_ble_eq_true rfl) dX7_asks_2 (fun H locs Z => ?_)
  refine lv_if_ne (tgt := 10) hx hb dX7_asks_5 (by decide) (fun hc5 => ?_) (fun hc5 => ?_)
  · rw [if_neg hc5] at hf
    refine lv_aload_n hx hb dX7_asks_10 rfl (lv_at hl 0 rfl) ?_
    refine gC_0_2 C Z (fl_of C mw_307) dX7_asks_11 ?_
    refine gC_23_1 C Z (fl_nest C nw_100) dX7_asks_14 ?_
    refine lv_iload_n hx hb dX7_asks_17 rfl (lv_at hl 1 rfl) ?_
    obtain ⟨r18, hr18, hf⟩ := Option.bind_eq_some_iff.mp hf
    refine call_vi (As := [.int x1]) (rest := []) C Z (c_X3_isAsked l hr18) mf_X3_isAsked (ml_nest C nw_27) rfl (oC_42 g _) rfl ⟨rfl, rfl, by decide, by decide⟩ rfl hl.1 (Nat.le_of_ble_eq_true rfl) dX7_asks_18 (fun H locs Z => ?_)
    refine lv_if_eq (tgt := 27) hx hb dX7_asks_21 (by decide) (fun hc21 => ?_) (fun hc21 => ?_)
    · rw [if_pos hc21] at hf
      refine lv_aload_n hx hb dX7_asks_27 rfl (lv_at hl 0 rfl) ?_
      refine gC_0_2 C Z (fl_of C mw_307) dX7_asks_28 ?_
      refine gC_23_1 C Z (fl_nest C nw_100) dX7_asks_31 ?_
      refine lv_iconst (v := 0) hx hb dX7_asks_34 (by decide +kernel) ?_
      obtain ⟨r35, hr35, hf⟩ := Option.bind_eq_some_iff.mp hf
      refine call_vi (As := [.int 0]) (rest := []) C Z (c_X3_amountKnownWith l hr35) mf_X3_amountKnownWith (ml_nest C nw_42) rfl (oC_42 g _) rfl ⟨rfl, rfl, by decide, by decide⟩ rfl hl.1 (Nat.le_of_ble_eq_true rfl) dX7_asks_35 (fun H locs Z => ?_)
      refine lv_istore_n (lv' := [(2, .int r35), (0, .ref (g.2.2 0)), (1, .int x1)]) hx hb dX7_asks_38 rfl hl (by decide) rfl (fun ls hl => ?_)
      refine lv_aload_n hx hb dX7_asks_39 rfl (lv_at hl 1 rfl) ?_
      refine gC_0_2 C Z (fl_of C mw_307) dX7_asks_40 ?_
      refine gC_23_1 C Z (fl_nest C nw_100) dX7_asks_43 ?_
      refine lv_iload_n hx hb dX7_asks_46 rfl (lv_at hl 2 rfl) ?_
      obtain ⟨r47, hr47, hf⟩ := Option.bind_eq_some_iff.mp hf
      refine call_vv (As := [.int x1]) (rest := []) C Z (c_X3_bringDown l hr47) mf_X3_bringDown (ml_nest C nw_43) rfl (oC_42 g _) rfl ⟨rfl, rfl, by decide, by decide⟩ rfl hl.1 (Nat.le_of_ble_eq_true rfl) dX7_asks_47 (fun H locs Z => ?_)
      refine lv_aload_n hx hb dX7_asks_50 rfl (lv_at hl 1 rfl) ?_
      refine gC_0_2 C Z (fl_of C mw_307) dX7_asks_51 ?_
      refine gC_23_1 C Z (fl_nest C nw_100) dX7_asks_54 ?_
      refine lv_iconst (v := 0) hx hb dX7_asks_57 (by decide +kernel) ?_
      obtain ⟨r58, hr58, hf⟩ := Option.bind_eq_some_iff.mp hf
      refine call_vi (As := [.int 0]) (rest := []) C Z (c_X3_amountKnownWith l hr58) mf_X3_amountKnownWith (ml_nest C nw_42) rfl (oC_42 g _) rfl ⟨rfl, rfl, by decide, by decide⟩ rfl hl.1 (Nat.le_of_ble_eq_true rfl) dX7_asks_58 (fun H locs Z => ?_)
      refine lv_iload_n hx hb dX7_asks_61 rfl (lv_at hl 0 rfl) ?_
      refine lv_isub hx hb dX7_asks_62 ?_
      have hf := Option.some.inj hf
      subst hf
      exact ret_i C Z dX7_asks_63
    · rw [if_neg hc21] at hf
      refine lv_bipush (v := (-2)) hx hb dX7_asks_24 (by decide +kernel) ?_
      have hf := Option.some.inj hf
      subst hf
      exact ret_i C Z dX7_asks_26
  · rw [if_pos hc5] at hf
    refine lv_iconst (v := (-1)) hx hb dX7_asks_8 (by decide +kernel) ?_
    have hf := Option.some.inj hf
    subst hf
    exact ret_i C Z dX7_asks_9
def f_X8_knownMuch (u : St) : Option (Int32) :=
  Option.bind (f_X8_sawBy u ((u.2.1 7) 45)) fun r8 =>
  some r8
set_option maxHeartbeats 4000000 in
set_option maxRecDepth 100000 in
theorem c_X8_knownMuch (l : Launch) {g : Gx} {u : St} {res : Int32} (hf : f_X8_knownMuch u = some res) : CI wM 22 l yX8_knownMuch (wsY yX8_knownMuch cX8_knownMuch 1 (some .int)) (rmX 2 47) g [.ref (g.2.2 0)] u res u := by
  refine CI_start (by decide +kernel) rfl (Nat.le_of_ble_eq_true rfl) (fun {p e s m args below meth c ls} C Z hl => ?_)
  have hl : lv_has ls 1 [(0, .ref (g.2.2 0))] := hl
  have hx := C.1
  have hb := C.2.1
  unfold f_X8_knownMuch at hf
  refine lv_aload_n hx hb dX8_knownMuch_0 rfl (lv_at hl 0 rfl) ?_
  refine lv_aload_n hx hb dX8_knownMuch_1 rfl (lv_at hl 0 rfl) ?_
  refine gM_0_10 C Z (fl_of C mw_827) dX8_knownMuch_2 ?_
  refine lv_bipush (v := 45) hx hb dX8_knownMuch_5 (by decide +kernel) ?_
  refine r_ald C Z (aM_8 g _ (f := (u.2.1 7)) rfl) (by decide) (k := 45) (by decide) dX8_knownMuch_7 (x := ((u.2.1 7) 45)) rfl ?_
  obtain ⟨r8, hr8, hf⟩ := Option.bind_eq_some_iff.mp hf
  refine call_vi (As := [.int ((u.2.1 7) 45)]) (rest := []) C Z (c_X8_sawBy l hr8) mf_X8_sawBy (ml_of C mw_1024) rfl (oM_0 g _) rfl ⟨rfl, rfl, by decide, by decide⟩ rfl hl.1 (Nat.le_of_ble_eq_true rfl) dX8_knownMuch_8 (fun H locs Z => ?_)
  have hf := Option.some.inj hf
  subst hf
  exact ret_i C Z dX8_knownMuch_11
def f_X8_asks (u : St) (x1 : Int32) : Option (Int32 × St) :=
  Option.bind (f_X8_isCock u x1) fun r2 =>
  if r2 = 0 then
    some ((-1), u)
  else
    Option.bind (f_X8_isAsked u x1) fun r12 =>
    if r12 = 0 then
      Option.bind (f_X8_remembers u) fun r22 =>
      Option.bind (f_X8_knownMuch r22) fun r26 =>
      Option.bind (f_X8_knownMuch (sA r22 7 (upd (r22.2.1 7) 45 (((r22.2.1 7) 45) ||| (1 <<< (x1 &&& 31)))))) fun r44 =>
      some ((r44 - r26), (sA r22 7 (upd (r22.2.1 7) 45 (((r22.2.1 7) 45) ||| (1 <<< (x1 &&& 31))))))
    else
      some ((-2), u)
set_option maxHeartbeats 4000000 in
set_option maxRecDepth 100000 in
theorem c_X8_asks (l : Launch) {g : Gx} {u : St} {x1 : Int32} {res : Int32 × St} (hf : f_X8_asks u x1 = some res) : CI wM 22 l yX8_asks (wsY yX8_asks cX8_asks 3 (some .int)) (rmX 3 67) g [.ref (g.2.2 0), .int x1] u res.1 res.2 := by
  refine CI_start (by decide +kernel) rfl (Nat.le_of_ble_eq_true rfl) (fun {p e s m args below meth c ls} C Z hl => ?_)
  have hl : lv_has ls 3 [(0, .ref (g.2.2 0)), (1, .int x1)] := hl
  have hx := C.1
  have hb := C.2.1
  unfold f_X8_asks at hf
  refine lv_aload_n hx hb dX8_asks_0 rfl (lv_at hl 0 rfl) ?_
  refine lv_iload_n hx hb dX8_asks_1 rfl (lv_at hl 1 rfl) ?_
  obtain ⟨r2, hr2, hf⟩ := Option.bind_eq_some_iff.mp hf
  refine call_vi (As := [.int x1]) (rest := []) C Z (c_X8_isCock l hr2) mf_X8_isCock (ml_of C mw_1006) rfl (oM_0 g _) rfl ⟨rfl, rfl, by decide, by decide⟩ rfl hl.1 (Nat.le_of_ble_eq_true rfl) dX8_asks_2 (fun H locs Z => ?_)
  refine lv_if_ne (tgt := 10) hx hb dX8_asks_5 (by decide) (fun hc5 => ?_) (fun hc5 => ?_)
  · rw [if_neg hc5] at hf
    refine lv_aload_n hx hb dX8_asks_10 rfl (lv_at hl 0 rfl) ?_
    refine lv_iload_n hx hb dX8_asks_11 rfl (lv_at hl 1 rfl) ?_
    obtain ⟨r12, hr12, hf⟩ := Option.bind_eq_some_iff.mp hf
    refine call_vi (As := [.int x1]) (rest := []) C Z (c_X8_isAsked l hr12) mf_X8_isAsked (ml_of C mw_1017) rfl (oM_0 g _) rfl ⟨rfl, rfl, by decide, by decide⟩ rfl hl.1 (Nat.le_of_ble_eq_true rfl) dX8_asks_12 (fun H locs Z => ?_)
    refine lv_if_eq (tgt := 21) hx hb dX8_asks_15 (by decide) (fun hc15 => ?_) (fun hc15 => ?_)
    · rw [if_pos hc15] at hf
      refine lv_aload_n hx hb dX8_asks_21 rfl (lv_at hl 0 rfl) ?_
      obtain ⟨r22, hr22, hf⟩ := Option.bind_eq_some_iff.mp hf
      refine call_vv (As := []) (rest := []) C Z (c_X8_remembers l hr22) mf_X8_remembers (ml_of C mw_1060) rfl (oM_0 g _) rfl ⟨rfl, rfl, by decide, by decide⟩ rfl hl.1 (Nat.le_of_ble_eq_true rfl) dX8_asks_22 (fun H locs Z => ?_)
      refine lv_aload_n hx hb dX8_asks_25 rfl (lv_at hl 0 rfl) ?_
      obtain ⟨r26, hr26, hf⟩ := Option.bind_eq_some_iff.mp hf
      refine call_vi (As := []) (rest := []) C Z (c_X8_knownMuch l hr26) mf_X8_knownMuch (ml_of C mw_1088) rfl (oM_0 g _) rfl ⟨rfl, rfl, by decide, by decide⟩ rfl hl.1 (Nat.le_of_ble_eq_true rfl) dX8_asks_26 (fun H locs Z => ?_)
      refine lv_istore_n (lv' := [(2, .int r26), (0, .ref (g.2.2 0)), (1, .int x1)]) hx hb dX8_asks_29 rfl hl (by decide) rfl (fun ls hl => ?_)
      refine lv_aload_n hx hb dX8_asks_30 rfl (lv_at hl 1 rfl) ?_
      refine gM_0_10 C Z (fl_of C mw_827) dX8_asks_31 ?_
      refine lv_bipush (v := 45) hx hb dX8_asks_34 (by decide +kernel) ?_
      refine lv_dup2_11 hx hb dX8_asks_36 rfl rfl ?_
      refine r_ald C Z (aM_8 g _ (f := (r22.2.1 7)) rfl) (by decide) (k := 45) (by decide) dX8_asks_37 (x := ((r22.2.1 7) 45)) rfl ?_
      refine lv_iconst (v := 1) hx hb dX8_asks_38 (by decide +kernel) ?_
      refine lv_iload_n hx hb dX8_asks_39 rfl (lv_at hl 2 rfl) ?_
      refine lv_ishl hx hb dX8_asks_40 ?_
      refine lv_ior hx hb dX8_asks_41 ?_
      refine r_ast C wokM Z (aM_8 g _ (f := (r22.2.1 7)) rfl) (by decide) (k := 45) (by decide) (sM_8 g _ _) dX8_asks_42 (fun H locs Z => ?_)
      refine lv_aload_n hx hb dX8_asks_43 rfl (lv_at hl 1 rfl) ?_
      obtain ⟨r44, hr44, hf⟩ := Option.bind_eq_some_iff.mp hf
      refine call_vi (As := []) (rest := []) C Z (c_X8_knownMuch l hr44) mf_X8_knownMuch (ml_of C mw_1088) rfl (oM_0 g _) rfl ⟨rfl, rfl, by decide, by decide⟩ rfl hl.1 (Nat.le_of_ble_eq_true rfl) dX8_asks_44 (fun H locs Z => ?_)
      refine lv_iload_n hx hb dX8_asks_47 rfl (lv_at hl 0 rfl) ?_
      refine lv_isub hx hb dX8_asks_48 ?_
      have hf := Option.some.inj hf
      subst hf
      exact ret_i C Z dX8_asks_49
    · rw [if_neg hc15] at hf
      refine lv_bipush (v := (-2)) hx hb dX8_asks_18 (by decide +kernel) ?_
      have hf := Option.some.inj hf
      subst hf
      exact ret_i C Z dX8_asks_20
  · rw [if_pos hc5] at hf
    refine lv_iconst (v := (-1)) hx hb dX8_asks_8 (by decide +kernel) ?_
    have hf := Option.some.inj hf
    subst hf
    exact ret_i C Z dX8_asks_9
