def L_X8_hours_32 (k : Int32 → St → Option (Int32 × St)) (x1 : Int32) : Nat → Int32 → St → Option (Int32 × St)
  | 0, _, _ => none
  | n + 1, x2, u =>
    if x1 ≤ x2 then
      k x2 u
    else
      if 30 ≤ ((u.2.1 7) 0) then
        k x2 u
      else
        Option.bind (f_X8_hourGoes u) fun r49 =>
        L_X8_hours_32 k x1 n (x2 + 1) r49
set_option maxHeartbeats 4000000 in
set_option maxRecDepth 100000 in
theorem b_X8_hours_32 {p : Program} {l : Launch} {e : Env} {s : State} {m : MethodId} {args : Array Value} {below : List Frame} {meth : Method} {c : Code} {g : Gx} {x1 : Int32} {res : Int32 × St} {k : Int32 → St → Option (Int32 × St)} (C : Cx p s m meth c args cX8_hours RX8 3 (some .int) 22 g)
    (hk : ∀ (x2 : Int32) (u : St) (H : Heap) (locs : List Loc) (ls : Array Slot), Zx wM g (Aw 22 g s.heap.size) s H locs u → lv_has ls 3 [(0, .ref (g.2.2 0))] → k x2 u = some res → W p l e (rmX 4 97) s m args below meth c H locs 0 0 (QI wM 22 g res.1 res.2 below args s) (F0 m 58 ls [])) :
    ∀ (n : Nat) (x2 : Int32) (u : St) (H : Heap) (locs : List Loc) (ls : Array Slot), Zx wM g (Aw 22 g s.heap.size) s H locs u → lv_has ls 3 [(0, .ref (g.2.2 0)), (1, .int x1), (2, .int x2)] → L_X8_hours_32 k x1 n x2 u = some res → W p l e (rmX 4 97) s m args below meth c H locs 0 0 (QI wM 22 g res.1 res.2 below args s) (F0 m 32 ls []) := by
  have hx := C.1
  have hb := C.2.1
  intro n
  induction n with
  | zero =>
    intro x2 u H locs ls Z hl hf
    rw [L_X8_hours_32.eq_1] at hf
    cases hf
  | succ n ih =>
    intro x2 u H locs ls Z hl hf
    rw [L_X8_hours_32.eq_2] at hf
    refine lv_iload_n hx hb dX8_hours_32 rfl (lv_at hl 2 rfl) ?_
    refine lv_iload_n hx hb dX8_hours_33 rfl (lv_at hl 1 rfl) ?_
    refine lv_icmp_ge (tgt := 58) hx hb dX8_hours_34 (by decide) (fun hc34 => ?_) (fun hc34 => ?_)
    · rw [if_pos hc34] at hf
      exact hk _ _ H locs ls Z (lv_sub hl [0] rfl) hf
    · rw [if_neg hc34] at hf
      refine lv_aload_n hx hb dX8_hours_37 rfl (lv_at hl 0 rfl) ?_
      refine gM_0_10 C Z (fl_of C mw_833) dX8_hours_38 ?_
      refine lv_iconst (v := 0) hx hb dX8_hours_41 (by decide +kernel) ?_
      refine r_ald C Z (aM_8 g _ (f := (u.2.1 7)) rfl) (by decide) (k := 0) (by decide) dX8_hours_42 (x := ((u.2.1 7) 0)) rfl ?_
      refine lv_bipush (v := 30) hx hb dX8_hours_43 (by decide +kernel) ?_
      refine lv_icmp_ge (tgt := 58) hx hb dX8_hours_45 (by decide) (fun hc45 => ?_) (fun hc45 => ?_)
      · rw [if_pos hc45] at hf
        exact hk _ _ H locs ls Z (lv_sub hl [0] rfl) hf
      · rw [if_neg hc45] at hf
        refine lv_aload_n hx hb dX8_hours_48 rfl (lv_at hl 0 rfl) ?_
        obtain ⟨r49, hr49, hf⟩ := Option.bind_eq_some_iff.mp hf
        refine call_vv (As := []) (rest := []) C Z (c_X8_hourGoes l hr49) mf_X8_hourGoes (ml_of C mw_1070) rfl (oM_0 g _) rfl ⟨rfl, rfl, by decide, by decide⟩ rfl hl.1 (Nat.le_of_ble_eq_true rfl) dX8_hours_49 (fun H locs Z => ?_)
        refine lv_iinc (v := (x2 + 1)) (lv' := [(2, .int (x2 + 1)), (0, .ref (g.2.2 0)), (1, .int x1)]) hx hb dX8_hours_52 hl (k := 2) rfl rfl (by decide) rfl (fun ls hl => ?_)
        refine lv_goto (tgt := 32) hx hb dX8_hours_55 (by decide) ?_
        exact ih _ _ _ _ _ Z (lv_sub hl [1, 2, 0] rfl) hf
def f_X8_hours (u : St) (x1 : Int32) : Option (Int32 × St) :=
  Option.bind (f_X8_in x1 1 9) fun r4 =>
  if r4 = 0 then
    some ((-1), u)
  else
    if ((u.2.1 7) 0) = 30 then
      some ((-2), u)
    else
      Option.bind (f_X8_remembers u) fun r27 =>
      L_X8_hours_32 (fun x2 u32 =>
        some (((u32.2.1 7) 0), u32)) x1 FU 0 r27
set_option maxHeartbeats 4000000 in
set_option maxRecDepth 100000 in
theorem c_X8_hours (l : Launch) {g : Gx} {u : St} {x1 : Int32} {res : Int32 × St} (hf : f_X8_hours u x1 = some res) : CI wM 22 l yX8_hours (wsY yX8_hours cX8_hours 3 (some .int)) (rmX 4 97) g [.ref (g.2.2 0), .int x1] u res.1 res.2 := by
  refine CI_start (by decide +kernel) rfl (Nat.le_of_ble_eq_true rfl) (fun {p e s m args below meth c ls} C Z hl => ?_)
  have hl : lv_has ls 3 [(0, .ref (g.2.2 0)), (1, .int x1)] := hl
  have hx := C.1
  have hb := C.2.1
  unfold f_X8_hours at hf
  refine lv_iload_n hx hb dX8_hours_0 rfl (lv_at hl 1 rfl) ?_
  refine lv_iconst (v := 1) hx hb dX8_hours_1 (by decide +kernel) ?_
  refine lv_bipush (v := 9) hx hb dX8_hours_2 (by decide +kernel) ?_
  obtain ⟨r4, hr4, hf⟩ := Option.bind_eq_some_iff.mp hf
  refine call_si (As := [.int x1, .int 1, .int 9]) (rest := []) C Z (c_X8_in l hr4) mf_X8_in (ml_of C mw_940) rfl ⟨rfl, rfl, by decide, by decide⟩ rfl hl.1 (Nat.le_of_ble_eq_true rfl) dX8_hours_4 (fun H locs Z => ?_)
  refine lv_if_ne (tgt := 12) hx hb dX8_hours_7 (by decide) (fun hc7 => ?_) (fun hc7 => ?_)
  · rw [if_neg hc7] at hf
    refine lv_aload_n hx hb dX8_hours_12 rfl (lv_at hl 0 rfl) ?_
    refine gM_0_10 C Z (fl_of C mw_833) dX8_hours_13 ?_
    refine lv_iconst (v := 0) hx hb dX8_hours_16 (by decide +kernel) ?_
    refine r_ald C Z (aM_8 g _ (f := (u.2.1 7)) rfl) (by decide) (k := 0) (by decide) dX8_hours_17 (x := ((u.2.1 7) 0)) rfl ?_
    refine lv_bipush (v := 30) hx hb dX8_hours_18 (by decide +kernel) ?_
    refine lv_icmp_ne (tgt := 26) hx hb dX8_hours_20 (by decide) (fun hc20 => ?_) (fun hc20 => ?_)
    · rw [if_neg hc20] at hf
      refine lv_aload_n hx hb dX8_hours_26 rfl (lv_at hl 0 rfl) ?_
      obtain ⟨r27, hr27, hf⟩ := Option.bind_eq_some_iff.mp hf
      refine call_vv (As := []) (rest := []) C Z (c_X8_remembers l hr27) mf_X8_remembers (ml_of C mw_1066) rfl (oM_0 g _) rfl ⟨rfl, rfl, by decide, by decide⟩ rfl hl.1 (Nat.le_of_ble_eq_true rfl) dX8_hours_27 (fun H locs Z => ?_)
      refine lv_iconst (v := 0) hx hb dX8_hours_30 (by decide +kernel) ?_
      refine lv_istore_n (lv' := [(2, .int 0), (0, .ref (g.2.2 0)), (1, .int x1)]) hx hb dX8_hours_31 rfl hl (by decide) rfl (fun ls hl => ?_)
      refine b_X8_hours_32 C (fun x2 u32 H locs ls Z hl hf => ?_) FU _ _ _ _ _ Z (lv_sub hl [1, 2, 0] rfl) hf
      refine lv_aload_n hx hb dX8_hours_58 rfl (lv_at hl 0 rfl) ?_
      refine gM_0_10 C Z (fl_of C mw_833) dX8_hours_59 ?_
      refine lv_iconst (v := 0) hx hb dX8_hours_62 (by decide +kernel) ?_
      refine r_ald C Z (aM_8 g _ (f := (u32.2.1 7)) rfl) (by decide) (k := 0) (by decide) dX8_hours_63 (x := ((u32.2.1 7) 0)) rfl ?_
      have hf := Option.some.inj hf
      subst hf
      exact ret_i C Z dX8_hours_64
    · rw [if_pos hc20] at hf
      refine lv_bipush (v := (-2)) hx hb dX8_hours_23 (by decide +kernel) ?_
      have hf := Option.some.inj hf
      subst hf
      exact ret_i C Z dX8_hours_25
  · rw [if_pos hc7] at hf
    refine lv_iconst (v := (-1)) hx hb dX8_hours_10 (by decide +kernel) ?_
    have hf := Option.some.inj hf
    subst hf
    exact ret_i C Z dX8_hours_11
def f_X3_build (u : St) (x1 x2 : Int32) : Option (St) :=
  if oob x1 24 then none else
  Option.bind (f_X3_remember u 1 x1 ((u.2.1 30) (Int32.toNatClampNeg x1))) fun r9 =>
  if oob x1 24 then none else
  some (sA r9 30 (upd (r9.2.1 30) (Int32.toNatClampNeg x1) x2))
set_option maxHeartbeats 4000000 in
set_option maxRecDepth 100000 in
theorem c_X3_build (l : Launch) {g : Gx} {u : St} {x1 x2 : Int32} {res : St} (hf : f_X3_build u x1 x2 = some res) : CV wC 82 l yX3_build (wsY yX3_build cX3_build 3 (none)) (rmX 3 103) g [.ref (g.2.2 42), .int x1, .int x2] u res := by
  refine CV_start (by decide +kernel) rfl (Nat.le_of_ble_eq_true rfl) (fun {p e s m args below meth c ls} C Z hl => ?_)
  have hl : lv_has ls 3 [(0, .ref (g.2.2 42)), (1, .int x1), (2, .int x2)] := hl
  have hx := C.1
  have hb := C.2.1
  unfold f_X3_build at hf
  refine lv_aload_n hx hb dX3_build_0 rfl (lv_at hl 0 rfl) ?_
  refine lv_iconst (v := 1) hx hb dX3_build_1 (by decide +kernel) ?_
  refine lv_iload_n hx hb dX3_build_2 rfl (lv_at hl 1 rfl) ?_
  refine lv_aload_n hx hb dX3_build_3 rfl (lv_at hl 0 rfl) ?_
  refine gC_42_2 C Z (fl_of C mw_226) dX3_build_4 ?_
  refine lv_iload_n hx hb dX3_build_7 rfl (lv_at hl 1 rfl) ?_
  by_cases ho8 : oob x1 24 = true
  · rw [if_pos ho8] at hf; cases hf
  rw [if_neg ho8] at hf
  refine r_ald C Z (aC_43 g _ (f := (u.2.1 30)) rfl) ho8 rfl dX3_build_8 (x := ((u.2.1 30) (Int32.toNatClampNeg x1))) rfl ?_
  obtain ⟨r9, hr9, hf⟩ := Option.bind_eq_some_iff.mp hf
  refine call_vv (As := [.int 1, .int x1, .int ((u.2.1 30) (Int32.toNatClampNeg x1))]) (rest := []) C Z (c_X3_remember l hr9) mf_X3_remember (ml_of C mw_541) rfl (oC_42 g _) rfl ⟨rfl, rfl, by decide, by decide⟩ rfl hl.1 (Nat.le_of_ble_eq_true rfl) dX3_build_9 (fun H locs Z => ?_)
  refine lv_aload_n hx hb dX3_build_12 rfl (lv_at hl 0 rfl) ?_
  refine gC_42_2 C Z (fl_of C mw_226) dX3_build_13 ?_
  refine lv_iload_n hx hb dX3_build_16 rfl (lv_at hl 1 rfl) ?_
  refine lv_iload_n hx hb dX3_build_17 rfl (lv_at hl 2 rfl) ?_
  by_cases ho18 : oob x1 24 = true
  · rw [if_pos ho18] at hf; cases hf
  rw [if_neg ho18] at hf
  refine r_ast C wokC Z (aC_43 g _ (f := (r9.2.1 30)) rfl) ho18 rfl (sC_43 g _ _) dX3_build_18 (fun H locs Z => ?_)
  have hf := Option.some.inj hf
  subst hf
  exact ret_v C Z dX3_build_19
def f_X7_builds (u : St) (x1 x2 : Int32) : Option (Int32 × St) :=
  Option.bind (f_X7_isCell x1) fun r1 =>
  if r1 = 0 then
    some ((-1), u)
  else
    Option.bind (f_X7_isWithin x2 0 9) fun r11 =>
    if r11 = 0 then
      some ((-1), u)
    else
      if oob x1 24 then none else
      if ((u.2.1 30) (Int32.toNatClampNeg x1)) = x2 then
        some ((-2), u)
      else
        Option.bind (f_X3_build u x1 x2) fun r49 =>
        some (((u.2.1 30) (Int32.toNatClampNeg x1)), r49)
set_option maxHeartbeats 4000000 in
set_option maxRecDepth 100000 in
theorem c_X7_builds (l : Launch) {g : Gx} {u : St} {x1 x2 : Int32} {res : Int32 × St} (hf : f_X7_builds u x1 x2 = some res) : CI wC 82 l yX7_builds (wsY yX7_builds cX7_builds 4 (some .int)) (rmX 4 125) g [.ref (g.2.2 0), .int x1, .int x2] u res.1 res.2 := by
  refine CI_start (by decide +kernel) rfl (Nat.le_of_ble_eq_true rfl) (fun {p e s m args below meth c ls} C Z hl => ?_)
  have hl : lv_has ls 4 [(0, .ref (g.2.2 0)), (1, .int x1), (2, .int x2)] := hl
  have hx := C.1
  have hb := C.2.1
  unfold f_X7_builds at hf
  refine lv_iload_n hx hb dX7_builds_0 rfl (lv_at hl 1 rfl) ?_
  obtain ⟨r1, hr1, hf⟩ := Option.bind_eq_some_iff.mp hf
  refine call_si (As := [.int x1]) (rest := []) C Z (c_X7_isCell l hr1) mf_X7_isCell (ml_of C mw_456) rfl ⟨rfl, rfl, by decide, by decide⟩ rfl hl.1 (Nat.le_of_ble_eq_true rfl) dX7_builds_1 (fun H locs Z => ?_)
  refine lv_if_eq (tgt := 17) hx hb dX7_builds_4 (by decide) (fun hc4 => ?_) (fun hc4 => ?_)
  · rw [if_pos hc4] at hf
    refine lv_iconst (v := (-1)) hx hb dX7_builds_17 (by decide +kernel) ?_
    have hf := Option.some.inj hf
    subst hf
    exact ret_i C Z dX7_builds_18
  · rw [if_neg hc4] at hf
    refine lv_iload_n hx hb dX7_builds_7 rfl (lv_at hl 2 rfl) ?_
    refine lv_iconst (v := 0) hx hb dX7_builds_8 (by decide +kernel) ?_
    refine lv_bipush (v := 9) hx hb dX7_builds_9 (by decide +kernel) ?_
    obtain ⟨r11, hr11, hf⟩ := Option.bind_eq_some_iff.mp hf
    refine call_si (As := [.int x2, .int 0, .int 9]) (rest := []) C Z (c_X7_isWithin l hr11) mf_X7_isWithin (ml_of C mw_332) rfl ⟨rfl, rfl, by decide, by decide⟩ rfl hl.1 (Nat.le_of_ble_eq_true rfl) dX7_builds_11 (fun H locs Z => ?_)
    refine lv_if_ne (tgt := 19) hx hb dX7_builds_14 (by decide) (fun hc14 => ?_) (fun hc14 => ?_)
    · rw [if_neg hc14] at hf
      refine lv_aload_n hx hb dX7_builds_19 rfl (lv_at hl 0 rfl) ?_
      refine gC_0_2 C Z (fl_of C mw_308) dX7_builds_20 ?_
      refine gC_23_1 C Z (fl_nest C nw_101) dX7_builds_23 ?_
      refine gC_42_2 C Z (fl_nest C nw_94) dX7_builds_26 ?_
      refine lv_iload_n hx hb dX7_builds_29 rfl (lv_at hl 1 rfl) ?_
      by_cases ho30 : oob x1 24 = true
      · rw [if_pos ho30] at hf; cases hf
      rw [if_neg ho30] at hf
      refine r_ald C Z (aC_43 g _ (f := (u.2.1 30)) rfl) ho30 rfl dX7_builds_30 (x := ((u.2.1 30) (Int32.toNatClampNeg x1))) rfl ?_
      refine lv_istore_n (lv' := [(3, .int ((u.2.1 30) (Int32.toNatClampNeg x1))), (0, .ref (g.2.2 0)), (1, .int x1), (2, .int x2)]) hx hb dX7_builds_31 rfl hl (by decide) rfl (fun ls hl => ?_)
      refine lv_iload_n hx hb dX7_builds_32 rfl (lv_at hl 0 rfl) ?_
      refine lv_iload_n hx hb dX7_builds_33 rfl (lv_at hl 3 rfl) ?_
      refine lv_icmp_ne (tgt := 40) hx hb dX7_builds_34 (by decide) (fun hc34 => ?_) (fun hc34 => ?_)
      · rw [if_neg hc34] at hf
        refine lv_aload_n hx hb dX7_builds_40 rfl (lv_at hl 1 rfl) ?_
        refine gC_0_2 C Z (fl_of C mw_308) dX7_builds_41 ?_
        refine gC_23_1 C Z (fl_nest C nw_101) dX7_builds_44 ?_
        refine lv_iload_n hx hb dX7_builds_47 rfl (lv_at hl 2 rfl) ?_
        refine lv_iload_n hx hb dX7_builds_48 rfl (lv_at hl 3 rfl) ?_
        obtain ⟨r49, hr49, hf⟩ := Option.bind_eq_some_iff.mp hf
        refine call_vv (As := [.int x1, .int x2]) (rest := []) C Z (c_X3_build l hr49) mf_X3_build (ml_nest C nw_41) rfl (oC_42 g _) rfl ⟨rfl, rfl, by decide, by decide⟩ rfl hl.1 (Nat.le_of_ble_eq_true rfl) dX7_builds_49 (fun H locs Z => ?_)
        refine lv_iload_n hx hb dX7_builds_52 rfl (lv_at hl 0 rfl) ?_
        have hf := Option.some.inj hf
        subst hf
        exact ret_i C Z dX7_builds_53
      · rw [if_pos hc34] at hf
        refine lv_bipush (v := (-2)) hx hb dX7_builds_37 (by decide +kernel) ?_
        have hf := Option.some.inj hf
        subst hf
        exact ret_i C Z dX7_builds_39
    · rw [if_pos hc14] at hf
      refine lv_iconst (v := (-1)) hx hb dX7_builds_17 (by decide +kernel) ?_
      have hf := Option.some.inj hf
      subst hf
      exact ret_i C Z dX7_builds_18
def f_X8_builds (u : St) (x1 x2 : Int32) : Option (Int32 × St) :=
  Option.bind (f_X8_isCell x1) fun r1 =>
  if r1 = 0 then
    some ((-1), u)
  else
    Option.bind (f_X8_in x2 0 9) fun r11 =>
    if r11 = 0 then
      some ((-1), u)
    else
      if oob (1 + x1) 507 then none else
      if ((u.2.1 7) (Int32.toNatClampNeg (1 + x1))) = x2 then
        some ((-2), u)
      else
        Option.bind (f_X8_remembers u) fun r37 =>
        if oob (1 + x1) 507 then none else
        some (((u.2.1 7) (Int32.toNatClampNeg (1 + x1))), (sA r37 7 (upd (r37.2.1 7) (Int32.toNatClampNeg (1 + x1)) x2)))
set_option maxHeartbeats 4000000 in
set_option maxRecDepth 100000 in
theorem c_X8_builds (l : Launch) {g : Gx} {u : St} {x1 x2 : Int32} {res : Int32 × St} (hf : f_X8_builds u x1 x2 = some res) : CI wM 22 l yX8_builds (wsY yX8_builds cX8_builds 4 (some .int)) (rmX 2 42) g [.ref (g.2.2 0), .int x1, .int x2] u res.1 res.2 := by
  refine CI_start (by decide +kernel) rfl (Nat.le_of_ble_eq_true rfl) (fun {p e s m args below meth c ls} C Z hl => ?_)
  have hl : lv_has ls 4 [(0, .ref (g.2.2 0)), (1, .int x1), (2, .int x2)] := hl
  have hx := C.1
  have hb := C.2.1
  unfold f_X8_builds at hf
  refine lv_iload_n hx hb dX8_builds_0 rfl (lv_at hl 1 rfl) ?_
  obtain ⟨r1, hr1, hf⟩ := Option.bind_eq_some_iff.mp hf
  refine call_si (As := [.int x1]) (rest := []) C Z (c_X8_isCell l hr1) mf_X8_isCell (ml_of C mw_1005) rfl ⟨rfl, rfl, by decide, by decide⟩ rfl hl.1 (Nat.le_of_ble_eq_true rfl) dX8_builds_1 (fun H locs Z => ?_)
  refine lv_if_eq (tgt := 17) hx hb dX8_builds_4 (by decide) (fun hc4 => ?_) (fun hc4 => ?_)
  · rw [if_pos hc4] at hf
    refine lv_iconst (v := (-1)) hx hb dX8_builds_17 (by decide +kernel) ?_
    have hf := Option.some.inj hf
    subst hf
    exact ret_i C Z dX8_builds_18
  · rw [if_neg hc4] at hf
    refine lv_iload_n hx hb dX8_builds_7 rfl (lv_at hl 2 rfl) ?_
    refine lv_iconst (v := 0) hx hb dX8_builds_8 (by decide +kernel) ?_
    refine lv_bipush (v := 9) hx hb dX8_builds_9 (by decide +kernel) ?_
    obtain ⟨r11, hr11, hf⟩ := Option.bind_eq_some_iff.mp hf
    refine call_si (As := [.int x2, .int 0, .int 9]) (rest := []) C Z (c_X8_in l hr11) mf_X8_in (ml_of C mw_940) rfl ⟨rfl, rfl, by decide, by decide⟩ rfl hl.1 (Nat.le_of_ble_eq_true rfl) dX8_builds_11 (fun H locs Z => ?_)
    refine lv_if_ne (tgt := 19) hx hb dX8_builds_14 (by decide) (fun hc14 => ?_) (fun hc14 => ?_)
    · rw [if_neg hc14] at hf
      refine lv_aload_n hx hb dX8_builds_19 rfl (lv_at hl 0 rfl) ?_
      refine gM_0_10 C Z (fl_of C mw_833) dX8_builds_20 ?_
      refine lv_iconst (v := 1) hx hb dX8_builds_23 (by decide +kernel) ?_
      refine lv_iload_n hx hb dX8_builds_24 rfl (lv_at hl 1 rfl) ?_
      refine lv_iadd hx hb dX8_builds_25 ?_
      by_cases ho26 : oob (1 + x1) 507 = true
      · rw [if_pos ho26] at hf; cases hf
      rw [if_neg ho26] at hf
      refine r_ald C Z (aM_8 g _ (f := (u.2.1 7)) rfl) ho26 rfl dX8_builds_26 (x := ((u.2.1 7) (Int32.toNatClampNeg (1 + x1)))) rfl ?_
      refine lv_istore_n (lv' := [(3, .int ((u.2.1 7) (Int32.toNatClampNeg (1 + x1)))), (0, .ref (g.2.2 0)), (1, .int x1), (2, .int x2)]) hx hb dX8_builds_27 rfl hl (by decide) rfl (fun ls hl => ?_)
      refine lv_iload_n hx hb dX8_builds_28 rfl (lv_at hl 0 rfl) ?_
      refine lv_iload_n hx hb dX8_builds_29 rfl (lv_at hl 3 rfl) ?_
      refine lv_icmp_ne (tgt := 36) hx hb dX8_builds_30 (by decide) (fun hc30 => ?_) (fun hc30 => ?_)
      · rw [if_neg hc30] at hf
        refine lv_aload_n hx hb dX8_builds_36 rfl (lv_at hl 1 rfl) ?_
        obtain ⟨r37, hr37, hf⟩ := Option.bind_eq_some_iff.mp hf
        refine call_vv (As := []) (rest := []) C Z (c_X8_remembers l hr37) mf_X8_remembers (ml_of C mw_1066) rfl (oM_0 g _) rfl ⟨rfl, rfl, by decide, by decide⟩ rfl hl.1 (Nat.le_of_ble_eq_true rfl) dX8_builds_37 (fun H locs Z => ?_)
        refine lv_aload_n hx hb dX8_builds_40 rfl (lv_at hl 1 rfl) ?_
        refine gM_0_10 C Z (fl_of C mw_833) dX8_builds_41 ?_
        refine lv_iconst (v := 1) hx hb dX8_builds_44 (by decide +kernel) ?_
        refine lv_iload_n hx hb dX8_builds_45 rfl (lv_at hl 2 rfl) ?_
        refine lv_iadd hx hb dX8_builds_46 ?_
        refine lv_iload_n hx hb dX8_builds_47 rfl (lv_at hl 3 rfl) ?_
        by_cases ho48 : oob (1 + x1) 507 = true
        · rw [if_pos ho48] at hf; cases hf
        rw [if_neg ho48] at hf
        refine r_ast C wokM Z (aM_8 g _ (f := (r37.2.1 7)) rfl) ho48 rfl (sM_8 g _ _) dX8_builds_48 (fun H locs Z => ?_)
        refine lv_iload_n hx hb dX8_builds_49 rfl (lv_at hl 0 rfl) ?_
        have hf := Option.some.inj hf
        subst hf
        exact ret_i C Z dX8_builds_50
      · rw [if_pos hc30] at hf
        refine lv_bipush (v := (-2)) hx hb dX8_builds_33 (by decide +kernel) ?_
        have hf := Option.some.inj hf
        subst hf
        exact ret_i C Z dX8_builds_35
    · rw [if_pos hc14] at hf
      refine lv_iconst (v := (-1)) hx hb dX8_builds_17 (by decide +kernel) ?_
      have hf := Option.some.inj hf
      subst hf
      exact ret_i C Z dX8_builds_18
def f_X3_amountKnownWith (u : St) (x1 : Int32) : Option (Int32) :=
  Option.bind (f_X3_amountSeenBy u ((u.1 11) ||| x1)) fun r7 =>
  some r7
set_option maxHeartbeats 4000000 in
set_option maxRecDepth 100000 in
theorem c_X3_amountKnownWith (l : Launch) {g : Gx} {u : St} {x1 : Int32} {res : Int32} (hf : f_X3_amountKnownWith u x1 = some res) : CI wC 82 l yX3_amountKnownWith (wsY yX3_amountKnownWith cX3_amountKnownWith 2 (some .int)) (rmX 3 68) g [.ref (g.2.2 42), .int x1] u res u := by
  refine CI_start (by decide +kernel) rfl (Nat.le_of_ble_eq_true rfl) (fun {p e s m args below meth c ls} C Z hl => ?_)
  have hl : lv_has ls 2 [(0, .ref (g.2.2 42)), (1, .int x1)] := hl
  have hx := C.1
  have hb := C.2.1
  unfold f_X3_amountKnownWith at hf
  refine lv_aload_n hx hb dX3_amountKnownWith_0 rfl (lv_at hl 0 rfl) ?_
  refine lv_aload_n hx hb dX3_amountKnownWith_1 rfl (lv_at hl 0 rfl) ?_
  refine gC_42_1 C Z (fl_of C mw_223) dX3_amountKnownWith_2 (x := (u.1 11)) rfl ?_
  refine lv_iload_n hx hb dX3_amountKnownWith_5 rfl (lv_at hl 1 rfl) ?_
  refine lv_ior hx hb dX3_amountKnownWith_6 ?_
  obtain ⟨r7, hr7, hf⟩ := Option.bind_eq_some_iff.mp hf
  refine call_vi (As := [.int ((u.1 11) ||| x1)]) (rest := []) C Z (c_X3_amountSeenBy l hr7) mf_X3_amountSeenBy (ml_of C mw_489) rfl (oC_42 g _) rfl ⟨rfl, rfl, by decide, by decide⟩ rfl hl.1 (Nat.le_of_ble_eq_true rfl) dX3_amountKnownWith_7 (fun H locs Z => ?_)
  have hf := Option.some.inj hf
  subst hf
  exact ret_i C Z dX3_amountKnownWith_10
def f_X3_bringDown (u : St) (x1 : Int32) : Option (St) :=
  Option.bind (f_X3_remember u 2 x1 0) fun r4 =>
  some (sI r4 11 ((r4.1 11) ||| (1 <<< (x1 &&& 31))))
set_option maxHeartbeats 4000000 in
set_option maxRecDepth 100000 in
theorem c_X3_bringDown (l : Launch) {g : Gx} {u : St} {x1 : Int32} {res : St} (hf : f_X3_bringDown u x1 = some res) : CV wC 82 l yX3_bringDown (wsY yX3_bringDown cX3_bringDown 2 (none)) (rmX 3 103) g [.ref (g.2.2 42), .int x1] u res := by
  refine CV_start (by decide +kernel) rfl (Nat.le_of_ble_eq_true rfl) (fun {p e s m args below meth c ls} C Z hl => ?_)
  have hl : lv_has ls 2 [(0, .ref (g.2.2 42)), (1, .int x1)] := hl
  have hx := C.1
  have hb := C.2.1
  unfold f_X3_bringDown at hf
  refine lv_aload_n hx hb dX3_bringDown_0 rfl (lv_at hl 0 rfl) ?_
  refine lv_iconst (v := 2) hx hb dX3_bringDown_1 (by decide +kernel) ?_
  refine lv_iload_n hx hb dX3_bringDown_2 rfl (lv_at hl 1 rfl) ?_
  refine lv_iconst (v := 0) hx hb dX3_bringDown_3 (by decide +kernel) ?_
  obtain ⟨r4, hr4, hf⟩ := Option.bind_eq_some_iff.mp hf
  refine call_vv (As := [.int 2, .int x1, .int 0]) (rest := []) C Z (c_X3_remember l hr4) mf_X3_remember (ml_of C mw_541) rfl (oC_42 g _) rfl ⟨rfl, rfl, by decide, by decide⟩ rfl hl.1 (Nat.le_of_ble_eq_true rfl) dX3_bringDown_4 (fun H locs Z => ?_)
  refine lv_aload_n hx hb dX3_bringDown_7 rfl (lv_at hl 0 rfl) ?_
  refine lv_dup hx hb dX3_bringDown_8 rfl ?_
  refine gC_42_1 C Z (fl_of C mw_223) dX3_bringDown_9 (x := (r4.1 11)) rfl ?_
  refine lv_iconst (v := 1) hx hb dX3_bringDown_12 (by decide +kernel) ?_
  refine lv_iload_n hx hb dX3_bringDown_13 rfl (lv_at hl 1 rfl) ?_
  refine lv_ishl hx hb dX3_bringDown_14 ?_
  refine lv_ior hx hb dX3_bringDown_15 ?_
  refine pC_42_1 C Z (fl_of C mw_223) dX3_bringDown_16 (fun H locs Z => ?_)
  have hf := Option.some.inj hf
  subst hf
  exact ret_v C Z dX3_bringDown_19
def f_X7_asks (u : St) (x1 : Int32) : Option (Int32 × St) :=
  Option.bind (f_X7_isCock u x1) fun r2 =>
  if r2 = 0 then
    some ((-1), u)
  else
    Option.bind (f_X3_isAsked u x1) fun r18 =>
    if r18 = 0 then
      Option.bind (f_X3_amountKnownWith u 0) fun r35 =>
      Option.bind (f_X3_bringDown u x1) fun r47 =>
      Option.bind (f_X3_amountKnownWith r47 0) fun r58 =>
      some ((r58 - r35), r47)
    else
      some ((-2), u)
set_option maxHeartbeats 4000000 in
set_option maxRecDepth 100000 in
theorem c_X7_asks (l : Launch) {g : Gx} {u : St} {x1 : Int32} {res : Int32 × St} (hf : f_X7_asks u x1 = some res) : CI wC 82 l yX7_asks (wsY yX7_asks cX7_asks 3 (some .int)) (rmX 4 124) g [.ref (g.2.2 0), .int x1] u res.1 res.2 := by
  refine CI_start (by decide +kernel) rfl (Nat.le_of_ble_eq_true rfl) (fun {p e s m args below meth c ls} C Z hl => ?_)
  have hl : lv_has ls 3 [(0, .ref (g.2.2 0)), (1, .int x1)] := hl
  have hx := C.1
  have hb := C.2.1
  unfold f_X7_asks at hf
  refine lv_aload_n hx hb dX7_asks_0 rfl (lv_at hl 0 rfl) ?_
  refine lv_iload_n hx hb dX7_asks_1 rfl (lv_at hl 1 rfl) ?_
  obtain ⟨r2, hr2, hf⟩ := Option.bind_eq_some_iff.mp hf
  refine call_vi (As := [.int x1]) (rest := []) C Z (c_X7_isCock l hr2) mf_X7_isCock (ml_of C mw_463) rfl (oC_0 g _) rfl ⟨rfl, rfl, by decide, by decide⟩ rfl hl.1 (Nat.le_of_ble_eq_true rfl) dX7_asks_2 (fun H locs Z => ?_)
  refine lv_if_ne (tgt := 10) hx hb dX7_asks_5 (by decide) (fun hc5 => ?_) (fun hc5 => ?_)
  · rw [if_neg hc5] at hf
    refine lv_aload_n hx hb dX7_asks_10 rfl (lv_at hl 0 rfl) ?_
    refine gC_0_2 C Z (fl_of C mw_308) dX7_asks_11 ?_
    refine gC_23_1 C Z (fl_nest C nw_101) dX7_asks_14 ?_
    refine lv_iload_n hx hb dX7_asks_17 rfl (lv_at hl 1 rfl) ?_
    obtain ⟨r18, hr18, hf⟩ := Option.bind_eq_some_iff.mp hf
    refine call_vi (As := [.int x1]) (rest := []) C Z (c_X3_isAsked l hr18) mf_X3_isAsked (ml_nest C nw_27) rfl (oC_42 g _) rfl ⟨rfl, rfl, by decide, by decide⟩ rfl hl.1 (Nat.le_of_ble_eq_true rfl) dX7_asks_18 (fun H locs Z => ?_)
    refine lv_if_eq (tgt := 27) hx hb dX7_asks_21 (by decide) (fun hc21 => ?_) (fun hc21 => ?_)
    · rw [if_pos hc21] at hf
      refine lv_aload_n hx hb dX7_asks_27 rfl (lv_at hl 0 rfl) ?_
      refine gC_0_2 C Z (fl_of C mw_308) dX7_asks_28 ?_
      refine gC_23_1 C Z (fl_nest C nw_101) dX7_asks_31 ?_
      refine lv_iconst (v := 0) hx hb dX7_asks_34 (by decide +kernel) ?_
      obtain ⟨r35, hr35, hf⟩ := Option.bind_eq_some_iff.mp hf
      refine call_vi (As := [.int 0]) (rest := []) C Z (c_X3_amountKnownWith l hr35) mf_X3_amountKnownWith (ml_nest C nw_42) rfl (oC_42 g _) rfl ⟨rfl, rfl, by decide, by decide⟩ rfl hl.1 (Nat.le_of_ble_eq_true rfl) dX7_asks_35 (fun H locs Z => ?_)
      refine lv_istore_n (lv' := [(2, .int r35), (0, .ref (g.2.2 0)), (1, .int x1)]) hx hb dX7_asks_38 rfl hl (by decide) rfl (fun ls hl => ?_)
      refine lv_aload_n hx hb dX7_asks_39 rfl (lv_at hl 1 rfl) ?_
      refine gC_0_2 C Z (fl_of C mw_308) dX7_asks_40 ?_
      refine gC_23_1 C Z (fl_nest C nw_101) dX7_asks_43 ?_
      refine lv_iload_n hx hb dX7_asks_46 rfl (lv_at hl 2 rfl) ?_
      obtain ⟨r47, hr47, hf⟩ := Option.bind_eq_some_iff.mp hf
      refine call_vv (As := [.int x1]) (rest := []) C Z (c_X3_bringDown l hr47) mf_X3_bringDown (ml_nest C nw_43) rfl (oC_42 g _) rfl ⟨rfl, rfl, by decide, by decide⟩ rfl hl.1 (Nat.le_of_ble_eq_true rfl) dX7_asks_47 (fun H locs Z => ?_)
      refine lv_aload_n hx hb dX7_asks_50 rfl (lv_at hl 1 rfl) ?_
      refine gC_0_2 C Z (fl_of C mw_308) dX7_asks_51 ?_
      refine gC_23_1 C Z (fl_nest C nw_101) dX7_asks_54 ?_
      refine lv_iconst (v := 0) hx hb dX7_asks_57 (by decide +kernel) ?_
      obtain ⟨r58, hr58, hf⟩ := Option.bind_eq_some_iff.mp hf
      refine call_vi (As := [.int 0]) (rest := []) C Z (c_X3_amountKnownWith l hr58) mf_X3_amountKnownWith (ml_nest C nw_42) rfl (oC_42 g _) rfl ⟨rfl, rfl, by decide, by decide⟩ rfl hl.1 (Nat.le_of_ble_eq_true rfl) dX7_asks_58 (fun H locs Z => ?_)
      refine lv_iload_n hx hb dX7_asks_61 rfl (lv_at hl 0 rfl) ?_
      refine lv_isub hx hb dX7_asks_62 ?_
      have hf := Option.some.inj hf
      subst hf
      exact ret_i C Z dX7_asks_63
    · rw [if_neg hc21] at hf
      refine lv_bipush (v := (-2)) hx hb dX7_asks_24 (by decide +kernel) ?_
      have hf := Option.some.inj hf
      subst hf
      exact ret_i C Z dX7_asks_26
  · rw [if_pos hc5] at hf
    refine lv_iconst (v := (-1)) hx hb dX7_asks_8 (by decide +kernel) ?_
    have hf := Option.some.inj hf
    subst hf
    exact ret_i C Z dX7_asks_9
