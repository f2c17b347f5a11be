def f_X0_addMet (u : St) (x1 x2 : Int32) : Option (Int32 × St) :=
  if (u.1 14) < 6 then
    if oob (u.1 14) 6 then none else
    some (1, (sI (sA (sA u 41 (upd (u.2.1 41) (Int32.toNatClampNeg (u.1 14)) x1)) 42 (upd (u.2.1 42) (Int32.toNatClampNeg (u.1 14)) x2)) 14 ((u.1 14) + 1)))
  else
    some (0, u)
set_option maxHeartbeats 4000000 in
set_option maxRecDepth 100000 in
theorem c_X0_addMet (l : Launch) {g : Gx} {u : St} {x1 x2 : Int32} {res : Int32 × St} (hf : f_X0_addMet u x1 x2 = some res) : CI wC 82 l yX0_addMet (wsY yX0_addMet cX0_addMet 3 (some .boolean)) (rmX 0 0) g [.ref (g.2.2 53), .int x1, .int x2] u res.1 res.2 := by
  refine CI_start (by decide +kernel) rfl (Nat.le_of_ble_eq_true rfl) (fun {p e s m args below meth c ls} C Z hl => ?_)
  have hl : lv_has ls 3 [(0, .ref (g.2.2 53)), (1, .int x1), (2, .int x2)] := hl
  have hx := C.1
  have hb := C.2.1
  unfold f_X0_addMet at hf
  refine lv_aload_n hx hb dX0_addMet_0 rfl (lv_at hl 0 rfl) ?_
  refine gC_53_5 C Z (fl_of C mw_276) dX0_addMet_1 (x := (u.1 14)) rfl ?_
  refine lv_bipush (v := 6) hx hb dX0_addMet_4 (by decide +kernel) ?_
  refine lv_icmp_lt (tgt := 11) hx hb dX0_addMet_6 (by decide) (fun hc6 => ?_) (fun hc6 => ?_)
  · rw [if_pos hc6] at hf
    refine lv_aload_n hx hb dX0_addMet_11 rfl (lv_at hl 0 rfl) ?_
    refine gC_53_3 C Z (fl_of C mw_274) dX0_addMet_12 ?_
    refine lv_aload_n hx hb dX0_addMet_15 rfl (lv_at hl 0 rfl) ?_
    refine gC_53_5 C Z (fl_of C mw_276) dX0_addMet_16 (x := (u.1 14)) rfl ?_
    refine lv_iload_n hx hb dX0_addMet_19 rfl (lv_at hl 1 rfl) ?_
    by_cases ho20 : oob (u.1 14) 6 = true
    · rw [if_pos ho20] at hf; cases hf
    rw [if_neg ho20] at hf
    refine r_ast C wokC Z (aC_56 g _ (f := (u.2.1 41)) rfl) ho20 rfl (sC_56 g _ _) dX0_addMet_20 (fun H locs Z => ?_)
    refine lv_aload_n hx hb dX0_addMet_21 rfl (lv_at hl 0 rfl) ?_
    refine gC_53_4 C Z (fl_of C mw_275) dX0_addMet_22 ?_
    refine lv_aload_n hx hb dX0_addMet_25 rfl (lv_at hl 0 rfl) ?_
    refine gC_53_5 C Z (fl_of C mw_276) dX0_addMet_26 (x := (u.1 14)) rfl ?_
    refine lv_iload_n hx hb dX0_addMet_29 rfl (lv_at hl 2 rfl) ?_
    refine r_ast C wokC Z (aC_57 g _ (f := (u.2.1 42)) rfl) ho20 rfl (sC_57 g _ _) dX0_addMet_30 (fun H locs Z => ?_)
    refine lv_aload_n hx hb dX0_addMet_31 rfl (lv_at hl 0 rfl) ?_
    refine lv_dup hx hb dX0_addMet_32 rfl ?_
    refine gC_53_5 C Z (fl_of C mw_276) dX0_addMet_33 (x := (u.1 14)) rfl ?_
    refine lv_iconst (v := 1) hx hb dX0_addMet_36 (by decide +kernel) ?_
    refine lv_iadd hx hb dX0_addMet_37 ?_
    refine pC_53_5 C Z (fl_of C mw_276) dX0_addMet_38 (fun H locs Z => ?_)
    refine lv_iconst (v := 1) hx hb dX0_addMet_41 (by decide +kernel) ?_
    have hf := Option.some.inj hf
    subst hf
    exact ret_z C Z rfl dX0_addMet_42
  · rw [if_neg hc6] at hf
    refine lv_iconst (v := 0) hx hb dX0_addMet_9 (by decide +kernel) ?_
    have hf := Option.some.inj hf
    subst hf
    exact ret_z C Z rfl dX0_addMet_10
def f_X7_met (u : St) (x1 x2 : Int32) : Option (Int32 × St) :=
  Option.bind (f_X7_isCell x1) fun r1 =>
  if r1 = 0 then
    some ((-1), u)
  else
    Option.bind (f_X7_isHour x2) fun r8 =>
    if r8 = 0 then
      some ((-1), u)
    else
      Option.bind (f_X0_addMet u x1 x2) fun r22 =>
      if r22.1 = 0 then
        some ((-3), r22.2)
      else
        some ((r22.2.1 14), r22.2)
set_option maxHeartbeats 4000000 in
set_option maxRecDepth 100000 in
theorem c_X7_met (l : Launch) {g : Gx} {u : St} {x1 x2 : Int32} {res : Int32 × St} (hf : f_X7_met u x1 x2 = some res) : CI wC 82 l yX7_met (wsY yX7_met cX7_met 3 (some .int)) (rmX 2 42) g [.ref (g.2.2 0), .int x1, .int x2] u res.1 res.2 := by
  refine CI_start (by decide +kernel) rfl (Nat.le_of_ble_eq_true rfl) (fun {p e s m args below meth c ls} C Z hl => ?_)
  have hl : lv_has ls 3 [(0, .ref (g.2.2 0)), (1, .int x1), (2, .int x2)] := hl
  have hx := C.1
  have hb := C.2.1
  unfold f_X7_met at hf
  refine lv_iload_n hx hb dX7_met_0 rfl (lv_at hl 1 rfl) ?_
  obtain ⟨r1, hr1, hf⟩ := Option.bind_eq_some_iff.mp hf
  refine call_si (As := [.int x1]) (rest := []) C Z (c_X7_isCell l hr1) mf_X7_isCell (ml_of C mw_455) rfl ⟨rfl, rfl, by decide, by decide⟩ rfl hl.1 (Nat.le_of_ble_eq_true rfl) dX7_met_1 (fun H locs Z => ?_)
  refine lv_if_eq (tgt := 14) hx hb dX7_met_4 (by decide) (fun hc4 => ?_) (fun hc4 => ?_)
  · rw [if_pos hc4] at hf
    refine lv_iconst (v := (-1)) hx hb dX7_met_14 (by decide +kernel) ?_
    have hf := Option.some.inj hf
    subst hf
    exact ret_i C Z dX7_met_15
  · rw [if_neg hc4] at hf
    refine lv_iload_n hx hb dX7_met_7 rfl (lv_at hl 2 rfl) ?_
    obtain ⟨r8, hr8, hf⟩ := Option.bind_eq_some_iff.mp hf
    refine call_si (As := [.int x2]) (rest := []) C Z (c_X7_isHour l hr8) mf_X7_isHour (ml_of C mw_639) rfl ⟨rfl, rfl, by decide, by decide⟩ rfl hl.1 (Nat.le_of_ble_eq_true rfl) dX7_met_8 (fun H locs Z => ?_)
    refine lv_if_ne (tgt := 16) hx hb dX7_met_11 (by decide) (fun hc11 => ?_) (fun hc11 => ?_)
    · rw [if_neg hc11] at hf
      refine lv_aload_n hx hb dX7_met_16 rfl (lv_at hl 0 rfl) ?_
      refine gC_0_3 C Z (fl_of C mw_308) dX7_met_17 ?_
      refine lv_iload_n hx hb dX7_met_20 rfl (lv_at hl 1 rfl) ?_
      refine lv_iload_n hx hb dX7_met_21 rfl (lv_at hl 2 rfl) ?_
      obtain ⟨r22, hr22, hf⟩ := Option.bind_eq_some_iff.mp hf
      refine call_vi (As := [.int x1, .int x2]) (rest := []) C Z (c_X0_addMet l hr22) mf_X0_addMet (ml_nest C nw_59) rfl (oC_53 g _) rfl ⟨rfl, rfl, by decide, by decide⟩ rfl hl.1 (Nat.le_of_ble_eq_true rfl) dX7_met_22 (fun H locs Z => ?_)
      refine lv_if_eq (tgt := 38) hx hb dX7_met_25 (by decide) (fun hc25 => ?_) (fun hc25 => ?_)
      · rw [if_pos hc25] at hf
        refine lv_bipush (v := (-3)) hx hb dX7_met_38 (by decide +kernel) ?_
        have hf := Option.some.inj hf
        subst hf
        exact ret_i C Z dX7_met_40
      · rw [if_neg hc25] at hf
        refine lv_aload_n hx hb dX7_met_28 rfl (lv_at hl 0 rfl) ?_
        refine gC_0_3 C Z (fl_of C mw_308) dX7_met_29 ?_
        refine gC_53_5 C Z (fl_nest C nw_102) dX7_met_32 (x := (r22.2.1 14)) rfl ?_
        refine lv_goto (tgt := 40) hx hb dX7_met_35 (by decide) ?_
        have hf := Option.some.inj hf
        subst hf
        exact ret_i C Z dX7_met_40
    · rw [if_pos hc11] at hf
      refine lv_iconst (v := (-1)) hx hb dX7_met_14 (by decide +kernel) ?_
      have hf := Option.some.inj hf
      subst hf
      exact ret_i C Z dX7_met_15
def f_X8_met (u : St) (x1 x2 : Int32) : Option (Int32 × St) :=
  Option.bind (f_X8_isCell x1) fun r1 =>
  if r1 = 0 then
    some ((-1), u)
  else
    Option.bind (f_X8_isHour x2) fun r8 =>
    if r8 = 0 then
      some ((-1), u)
    else
      if (u.1 4) = 6 then
        some ((-3), u)
      else
        if oob (2 * (u.1 4)) 12 then none else
        if oob ((2 * (u.1 4)) + 1) 12 then none else
        some (((u.1 4) + 1), (sI (sA (sA u 11 (upd (u.2.1 11) (Int32.toNatClampNeg (2 * (u.1 4))) x1)) 11 (upd (upd (u.2.1 11) (Int32.toNatClampNeg (2 * (u.1 4))) x1) (Int32.toNatClampNeg ((2 * (u.1 4)) + 1)) x2)) 4 ((u.1 4) + 1)))
set_option maxHeartbeats 4000000 in
set_option maxRecDepth 100000 in
theorem c_X8_met (l : Launch) {g : Gx} {u : St} {x1 x2 : Int32} {res : Int32 × St} (hf : f_X8_met u x1 x2 = some res) : CI wM 22 l yX8_met (wsY yX8_met cX8_met 3 (some .int)) (rmX 2 42) g [.ref (g.2.2 0), .int x1, .int x2] u res.1 res.2 := by
  refine CI_start (by decide +kernel) rfl (Nat.le_of_ble_eq_true rfl) (fun {p e s m args below meth c ls} C Z hl => ?_)
  have hl : lv_has ls 3 [(0, .ref (g.2.2 0)), (1, .int x1), (2, .int x2)] := hl
  have hx := C.1
  have hb := C.2.1
  unfold f_X8_met at hf
  refine lv_iload_n hx hb dX8_met_0 rfl (lv_at hl 1 rfl) ?_
  obtain ⟨r1, hr1, hf⟩ := Option.bind_eq_some_iff.mp hf
  refine call_si (As := [.int x1]) (rest := []) C Z (c_X8_isCell l hr1) mf_X8_isCell (ml_of C mw_999) rfl ⟨rfl, rfl, by decide, by decide⟩ rfl hl.1 (Nat.le_of_ble_eq_true rfl) dX8_met_1 (fun H locs Z => ?_)
  refine lv_if_eq (tgt := 14) hx hb dX8_met_4 (by decide) (fun hc4 => ?_) (fun hc4 => ?_)
  · rw [if_pos hc4] at hf
    refine lv_iconst (v := (-1)) hx hb dX8_met_14 (by decide +kernel) ?_
    have hf := Option.some.inj hf
    subst hf
    exact ret_i C Z dX8_met_15
  · rw [if_neg hc4] at hf
    refine lv_iload_n hx hb dX8_met_7 rfl (lv_at hl 2 rfl) ?_
    obtain ⟨r8, hr8, hf⟩ := Option.bind_eq_some_iff.mp hf
    refine call_si (As := [.int x2]) (rest := []) C Z (c_X8_isHour l hr8) mf_X8_isHour (ml_of C mw_1115) rfl ⟨rfl, rfl, by decide, by decide⟩ rfl hl.1 (Nat.le_of_ble_eq_true rfl) dX8_met_8 (fun H locs Z => ?_)
    refine lv_if_ne (tgt := 16) hx hb dX8_met_11 (by decide) (fun hc11 => ?_) (fun hc11 => ?_)
    · rw [if_neg hc11] at hf
      refine lv_aload_n hx hb dX8_met_16 rfl (lv_at hl 0 rfl) ?_
      refine gM_0_15 C Z (fl_of C mw_832) dX8_met_17 (x := (u.1 4)) rfl ?_
      refine lv_bipush (v := 6) hx hb dX8_met_20 (by decide +kernel) ?_
      refine lv_icmp_ne (tgt := 28) hx hb dX8_met_22 (by decide) (fun hc22 => ?_) (fun hc22 => ?_)
      · rw [if_neg hc22] at hf
        refine lv_aload_n hx hb dX8_met_28 rfl (lv_at hl 0 rfl) ?_
        refine gM_0_16 C Z (fl_of C mw_833) dX8_met_29 ?_
        refine lv_iconst (v := 2) hx hb dX8_met_32 (by decide +kernel) ?_
        refine lv_aload_n hx hb dX8_met_33 rfl (lv_at hl 0 rfl) ?_
        refine gM_0_15 C Z (fl_of C mw_832) dX8_met_34 (x := (u.1 4)) rfl ?_
        refine lv_imul hx hb dX8_met_37 ?_
        refine lv_iload_n hx hb dX8_met_38 rfl (lv_at hl 1 rfl) ?_
        by_cases ho39 : oob (2 * (u.1 4)) 12 = true
        · rw [if_pos ho39] at hf; cases hf
        rw [if_neg ho39] at hf
        refine r_ast C wokM Z (aM_12 g _ (f := (u.2.1 11)) rfl) ho39 rfl (sM_12 g _ _) dX8_met_39 (fun H locs Z => ?_)
        refine lv_aload_n hx hb dX8_met_40 rfl (lv_at hl 0 rfl) ?_
        refine gM_0_16 C Z (fl_of C mw_833) dX8_met_41 ?_
        refine lv_iconst (v := 2) hx hb dX8_met_44 (by decide +kernel) ?_
        refine lv_aload_n hx hb dX8_met_45 rfl (lv_at hl 0 rfl) ?_
        refine gM_0_15 C Z (fl_of C mw_832) dX8_met_46 (x := (u.1 4)) rfl ?_
        refine lv_imul hx hb dX8_met_49 ?_
        refine lv_iconst (v := 1) hx hb dX8_met_50 (by decide +kernel) ?_
        refine lv_iadd hx hb dX8_met_51 ?_
        refine lv_iload_n hx hb dX8_met_52 rfl (lv_at hl 2 rfl) ?_
        by_cases ho53 : oob ((2 * (u.1 4)) + 1) 12 = true
        · rw [if_pos ho53] at hf; cases hf
        rw [if_neg ho53] at hf
        refine r_ast C wokM Z (aM_12 g _ (f := (upd (u.2.1 11) (Int32.toNatClampNeg (2 * (u.1 4))) x1)) rfl) ho53 rfl (sM_12 g _ _) dX8_met_53 (fun H locs Z => ?_)
        refine lv_aload_n hx hb dX8_met_54 rfl (lv_at hl 0 rfl) ?_
        refine lv_dup hx hb dX8_met_55 rfl ?_
        refine gM_0_15 C Z (fl_of C mw_832) dX8_met_56 (x := (u.1 4)) rfl ?_
        refine lv_iconst (v := 1) hx hb dX8_met_59 (by decide +kernel) ?_
        refine lv_iadd hx hb dX8_met_60 ?_
        refine pM_0_15 C Z (fl_of C mw_832) dX8_met_61 (fun H locs Z => ?_)
        refine lv_aload_n hx hb dX8_met_64 rfl (lv_at hl 0 rfl) ?_
        refine gM_0_15 C Z (fl_of C mw_832) dX8_met_65 (x := ((u.1 4) + 1)) rfl ?_
        have hf := Option.some.inj hf
        subst hf
        exact ret_i C Z dX8_met_68
      · rw [if_pos hc22] at hf
        refine lv_bipush (v := (-3)) hx hb dX8_met_25 (by decide +kernel) ?_
        have hf := Option.some.inj hf
        subst hf
        exact ret_i C Z dX8_met_27
    · rw [if_pos hc11] at hf
      refine lv_iconst (v := (-1)) hx hb dX8_met_14 (by decide +kernel) ?_
      have hf := Option.some.inj hf
      subst hf
      exact ret_i C Z dX8_met_15
def L_X0_falsesOf_18 (k : Int32 → Int32 → Option (Int32)) (u : St) (x2 x3 : Int32) : Nat → Int32 → Int32 → Option (Int32)
  | 0, _, _ => none
  | n + 1, x4, x5 =>
    if (u.1 14) ≤ x5 then
      k x4 x5
    else
      if oob x5 6 then none else
      Option.bind (f_X7_placeBy x2 x3 ((u.2.1 42) (Int32.toNatClampNeg x5))) fun r36 =>
      if r36 = ((u.2.1 41) (Int32.toNatClampNeg x5)) then
        L_X0_falsesOf_18 k u x2 x3 n x4 (x5 + 1)
      else
        L_X0_falsesOf_18 k u x2 x3 n (x4 + 1) (x5 + 1)
set_option maxHeartbeats 4000000 in
set_option maxRecDepth 100000 in
theorem b_X0_falsesOf_18 {p : Program} {l : Launch} {e : Env} {s : State} {m : MethodId} {args : Array Value} {below : List Frame} {meth : Method} {c : Code} {g : Gx} {u : St} {x2 x3 : Int32} {res : Int32} {k : Int32 → Int32 → Option (Int32)} (C : Cx p s m meth c args cX0_falsesOf RX0 6 (some .int) 82 g)
    (hk : ∀ (x4 x5 : Int32) (H : Heap) (locs : List Loc) (ls : Array Slot), Zx wC g (Aw 82 g s.heap.size) s H locs u → lv_has ls 6 [(4, .int x4)] → k x4 x5 = some res → W p l e (rmX 1 22) s m args below meth c H locs 0 0 (QI wC 82 g res u below args s) (F0 m 58 ls [])) :
    ∀ (n : Nat) (x4 x5 : Int32) (H : Heap) (locs : List Loc) (ls : Array Slot), Zx wC g (Aw 82 g s.heap.size) s H locs u → lv_has ls 6 [(0, .ref (g.2.2 53)), (2, .int x2), (3, .int x3), (4, .int x4), (5, .int x5)] → L_X0_falsesOf_18 k u x2 x3 n x4 x5 = some res → W p l e (rmX 1 22) s m args below meth c H locs 0 0 (QI wC 82 g res u below args s) (F0 m 18 ls []) := by
  have hx := C.1
  have hb := C.2.1
  intro n
  induction n with
  | zero =>
    intro x4 x5 H locs ls Z hl hf
    rw [L_X0_falsesOf_18.eq_1] at hf
    cases hf
  | succ n ih =>
    intro x4 x5 H locs ls Z hl hf
    rw [L_X0_falsesOf_18.eq_2] at hf
    refine lv_iload hx hb dX0_falsesOf_18 (lv_at hl 4 rfl) ?_
    refine lv_aload_n hx hb dX0_falsesOf_20 rfl (lv_at hl 0 rfl) ?_
    refine gC_53_5 C Z (fl_of C mw_276) dX0_falsesOf_21 (x := (u.1 14)) rfl ?_
    refine lv_icmp_ge (tgt := 58) hx hb dX0_falsesOf_24 (by decide) (fun hc24 => ?_) (fun hc24 => ?_)
    · rw [if_pos hc24] at hf
      exact hk _ _ H locs ls Z (lv_sub hl [3] rfl) hf
    · rw [if_neg hc24] at hf
      refine lv_iload_n hx hb dX0_falsesOf_27 rfl (lv_at hl 1 rfl) ?_
      refine lv_iload_n hx hb dX0_falsesOf_28 rfl (lv_at hl 2 rfl) ?_
      refine lv_aload_n hx hb dX0_falsesOf_29 rfl (lv_at hl 0 rfl) ?_
      refine gC_53_4 C Z (fl_of C mw_275) dX0_falsesOf_30 ?_
      refine lv_iload hx hb dX0_falsesOf_33 (lv_at hl 4 rfl) ?_
      by_cases ho35 : oob x5 6 = true
      · rw [if_pos ho35] at hf; cases hf
      rw [if_neg ho35] at hf
      refine r_ald C Z (aC_57 g _ (f := (u.2.1 42)) rfl) ho35 rfl dX0_falsesOf_35 (x := ((u.2.1 42) (Int32.toNatClampNeg x5))) rfl ?_
      obtain ⟨r36, hr36, hf⟩ := Option.bind_eq_some_iff.mp hf
      refine call_si (As := [.int x2, .int x3, .int ((u.2.1 42) (Int32.toNatClampNeg x5))]) (rest := []) C Z (c_X7_placeBy l hr36) mf_X7_placeBy (ml_nest C nw_61) rfl ⟨rfl, rfl, by decide, by decide⟩ rfl hl.1 (Nat.le_of_ble_eq_true rfl) dX0_falsesOf_36 (fun H locs Z => ?_)
      refine lv_aload_n hx hb dX0_falsesOf_39 rfl (lv_at hl 0 rfl) ?_
      refine gC_53_3 C Z (fl_of C mw_274) dX0_falsesOf_40 ?_
      refine lv_iload hx hb dX0_falsesOf_43 (lv_at hl 4 rfl) ?_
      refine r_ald C Z (aC_56 g _ (f := (u.2.1 41)) rfl) ho35 rfl dX0_falsesOf_45 (x := ((u.2.1 41) (Int32.toNatClampNeg x5))) rfl ?_
      refine lv_icmp_eq (tgt := 52) hx hb dX0_falsesOf_46 (by decide) (fun hc46 => ?_) (fun hc46 => ?_)
      · rw [if_pos hc46] at hf
        refine lv_iinc (v := (x5 + 1)) (lv' := [(5, .int (x5 + 1)), (0, .ref (g.2.2 53)), (2, .int x2), (3, .int x3), (4, .int x4)]) hx hb dX0_falsesOf_52 hl (k := 4) rfl rfl (by decide) rfl (fun ls hl => ?_)
        refine lv_goto (tgt := 18) hx hb dX0_falsesOf_55 (by decide) ?_
        exact ih _ _ _ _ _ Z (lv_sub hl [1, 2, 3, 4, 0] rfl) hf
      · rw [if_neg hc46] at hf
        refine lv_iinc (v := (x4 + 1)) (lv' := [(4, .int (x4 + 1)), (0, .ref (g.2.2 53)), (2, .int x2), (3, .int x3), (5, .int x5)]) hx hb dX0_falsesOf_49 hl (k := 3) rfl rfl (by decide) rfl (fun ls hl => ?_)
        refine lv_iinc (v := (x5 + 1)) (lv' := [(5, .int (x5 + 1)), (4, .int (x4 + 1)), (0, .ref (g.2.2 53)), (2, .int x2), (3, .int x3)]) hx hb dX0_falsesOf_52 hl (k := 4) rfl rfl (by decide) rfl (fun ls hl => ?_)
        refine lv_goto (tgt := 18) hx hb dX0_falsesOf_55 (by decide) ?_
        exact ih _ _ _ _ _ Z (lv_sub hl [2, 3, 4, 1, 0] rfl) hf
def f_X0_falsesOf (u : St) (x1 : Int32) : Option (Int32) :=
  L_X0_falsesOf_18 (fun x4 x5 =>
    some x4) u (x1 / 10) ((x1 - (x1 / 10) * 10) - 3) FU 0 0
set_option maxHeartbeats 4000000 in
set_option maxRecDepth 100000 in
theorem c_X0_falsesOf (l : Launch) {g : Gx} {u : St} {x1 : Int32} {res : Int32} (hf : f_X0_falsesOf u x1 = some res) : CI wC 82 l yX0_falsesOf (wsY yX0_falsesOf cX0_falsesOf 6 (some .int)) (rmX 1 22) g [.ref (g.2.2 53), .int x1] u res u := by
  refine CI_start (by decide +kernel) rfl (Nat.le_of_ble_eq_true rfl) (fun {p e s m args below meth c ls} C Z hl => ?_)
  have hl : lv_has ls 6 [(0, .ref (g.2.2 53)), (1, .int x1)] := hl
  have hx := C.1
  have hb := C.2.1
  unfold f_X0_falsesOf at hf
  refine lv_iload_n hx hb dX0_falsesOf_0 rfl (lv_at hl 1 rfl) ?_
  refine lv_bipush (v := 10) hx hb dX0_falsesOf_1 (by decide +kernel) ?_
  refine lv_idiv hx hb dX0_falsesOf_3 (by decide) ?_
  refine lv_istore_n (lv' := [(2, .int (x1 / 10)), (0, .ref (g.2.2 53)), (1, .int x1)]) hx hb dX0_falsesOf_4 rfl hl (by decide) rfl (fun ls hl => ?_)
  refine lv_iload_n hx hb dX0_falsesOf_5 rfl (lv_at hl 2 rfl) ?_
  refine lv_bipush (v := 10) hx hb dX0_falsesOf_6 (by decide +kernel) ?_
  refine lv_irem hx hb dX0_falsesOf_8 (by decide) ?_
  refine lv_iconst (v := 3) hx hb dX0_falsesOf_9 (by decide +kernel) ?_
  refine lv_isub hx hb dX0_falsesOf_10 ?_
  refine lv_istore_n (lv' := [(3, .int ((x1 - (x1 / 10) * 10) - 3)), (2, .int (x1 / 10)), (0, .ref (g.2.2 53)), (1, .int x1)]) hx hb dX0_falsesOf_11 rfl hl (by decide) rfl (fun ls hl => ?_)
  refine lv_iconst (v := 0) hx hb dX0_falsesOf_12 (by decide +kernel) ?_
  refine lv_istore (lv' := [(4, .int 0), (3, .int ((x1 - (x1 / 10) * 10) - 3)), (2, .int (x1 / 10)), (0, .ref (g.2.2 53)), (1, .int x1)]) hx hb dX0_falsesOf_13 hl (by decide) rfl (fun ls hl => ?_)
  refine lv_iconst (v := 0) hx hb dX0_falsesOf_15 (by decide +kernel) ?_
  refine lv_istore (lv' := [(5, .int 0), (4, .int 0), (3, .int ((x1 - (x1 / 10) * 10) - 3)), (2, .int (x1 / 10)), (0, .ref (g.2.2 53)), (1, .int x1)]) hx hb dX0_falsesOf_16 hl (by decide) rfl (fun ls hl => ?_)
  refine b_X0_falsesOf_18 C (fun x4 x5 H locs ls Z hl hf => ?_) FU _ _ _ _ _ Z (lv_sub hl [4, 3, 2, 1, 0] rfl) hf
  refine lv_iload hx hb dX0_falsesOf_58 (lv_at hl 0 rfl) ?_
  have hf := Option.some.inj hf
  subst hf
  exact ret_i C Z dX0_falsesOf_60
def L_X0_wayCount_12 (k : Int32 → Int32 → Option (Int32)) (u : St) (x2 : Int32) : Nat → Int32 → Int32 → Option (Int32)
  | 0, _, _ => none
  | n + 1, x1, x3 =>
    if 6 < x3 then
      k x1 x3
    else
      Option.bind (f_X0_falsesOf u ((10 * x2) + x3)) fun r25 =>
      if r25 = 0 then
        L_X0_wayCount_12 k u x2 n (x1 + 1) (x3 + 1)
      else
        L_X0_wayCount_12 k u x2 n x1 (x3 + 1)
set_option maxHeartbeats 4000000 in
set_option maxRecDepth 100000 in
theorem b_X0_wayCount_12 {p : Program} {l : Launch} {e : Env} {s : State} {m : MethodId} {args : Array Value} {below : List Frame} {meth : Method} {c : Code} {g : Gx} {u : St} {x2 : Int32} {res : Int32} {k : Int32 → Int32 → Option (Int32)} (C : Cx p s m meth c args cX0_wayCount RX0 4 (some .int) 82 g)
    (hk : ∀ (x1 x3 : Int32) (H : Heap) (locs : List Loc) (ls : Array Slot), Zx wC g (Aw 82 g s.heap.size) s H locs u → lv_has ls 4 [(0, .ref (g.2.2 53)), (1, .int x1), (2, .int x2)] → k x1 x3 = some res → W p l e (rmX 2 47) s m args below meth c H locs 0 0 (QI wC 82 g res u below args s) (F0 m 40 ls [])) :
    ∀ (n : Nat) (x1 x3 : Int32) (H : Heap) (locs : List Loc) (ls : Array Slot), Zx wC g (Aw 82 g s.heap.size) s H locs u → lv_has ls 4 [(0, .ref (g.2.2 53)), (1, .int x1), (2, .int x2), (3, .int x3)] → L_X0_wayCount_12 k u x2 n x1 x3 = some res → W p l e (rmX 2 47) s m args below meth c H locs 0 0 (QI wC 82 g res u below args s) (F0 m 12 ls []) := by
  have hx := C.1
  have hb := C.2.1
  intro n
  induction n with
  | zero =>
    intro x1 x3 H locs ls Z hl hf
    rw [L_X0_wayCount_12.eq_1] at hf
    cases hf
  | succ n ih =>
    intro x1 x3 H locs ls Z hl hf
    rw [L_X0_wayCount_12.eq_2] at hf
    refine lv_iload_n hx hb dX0_wayCount_12 rfl (lv_at hl 3 rfl) ?_
    refine lv_bipush (v := 6) hx hb dX0_wayCount_13 (by decide +kernel) ?_
    refine lv_icmp_gt (tgt := 40) hx hb dX0_wayCount_15 (by decide) (fun hc15 => ?_) (fun hc15 => ?_)
    · rw [if_pos hc15] at hf
      exact hk _ _ H locs ls Z (lv_sub hl [0, 1, 2] rfl) hf
    · rw [if_neg hc15] at hf
      refine lv_aload_n hx hb dX0_wayCount_18 rfl (lv_at hl 0 rfl) ?_
      refine lv_bipush (v := 10) hx hb dX0_wayCount_19 (by decide +kernel) ?_
      refine lv_iload_n hx hb dX0_wayCount_21 rfl (lv_at hl 2 rfl) ?_
      refine lv_imul hx hb dX0_wayCount_22 ?_
      refine lv_iload_n hx hb dX0_wayCount_23 rfl (lv_at hl 3 rfl) ?_
      refine lv_iadd hx hb dX0_wayCount_24 ?_
      obtain ⟨r25, hr25, hf⟩ := Option.bind_eq_some_iff.mp hf
      refine call_vi (As := [.int ((10 * x2) + x3)]) (rest := []) C Z (c_X0_falsesOf l hr25) mf_X0_falsesOf (ml_of C mw_731) rfl (oC_53 g _) rfl ⟨rfl, rfl, by decide, by decide⟩ rfl hl.1 (Nat.le_of_ble_eq_true rfl) dX0_wayCount_25 (fun H locs Z => ?_)
      refine lv_if_ne (tgt := 34) hx hb dX0_wayCount_28 (by decide) (fun hc28 => ?_) (fun hc28 => ?_)
      · rw [if_neg hc28] at hf
        refine lv_iinc (v := (x3 + 1)) (lv' := [(3, .int (x3 + 1)), (0, .ref (g.2.2 53)), (1, .int x1), (2, .int x2)]) hx hb dX0_wayCount_34 hl (k := 3) rfl rfl (by decide) rfl (fun ls hl => ?_)
        refine lv_goto (tgt := 12) hx hb dX0_wayCount_37 (by decide) ?_
        exact ih _ _ _ _ _ Z (lv_sub hl [1, 2, 3, 0] rfl) hf
      · rw [if_pos hc28] at hf
        refine lv_iinc (v := (x1 + 1)) (lv' := [(1, .int (x1 + 1)), (0, .ref (g.2.2 53)), (2, .int x2), (3, .int x3)]) hx hb dX0_wayCount_31 hl (k := 1) rfl rfl (by decide) rfl (fun ls hl => ?_)
        refine lv_iinc (v := (x3 + 1)) (lv' := [(3, .int (x3 + 1)), (1, .int (x1 + 1)), (0, .ref (g.2.2 53)), (2, .int x2)]) hx hb dX0_wayCount_34 hl (k := 3) rfl rfl (by decide) rfl (fun ls hl => ?_)
        refine lv_goto (tgt := 12) hx hb dX0_wayCount_37 (by decide) ?_
        exact ih _ _ _ _ _ Z (lv_sub hl [2, 1, 3, 0] rfl) hf
def L_X0_wayCount_4 (k : Int32 → Int32 → Option (Int32)) (u : St) : Nat → Int32 → Int32 → Option (Int32)
  | 0, _, _ => none
  | n + 1, x1, x2 =>
    if 24 ≤ x2 then
      k x1 x2
    else
      L_X0_wayCount_12 (fun x1 x3 =>
        L_X0_wayCount_4 k u n x1 (x2 + 1)) u x2 FU x1 0
set_option maxHeartbeats 4000000 in
set_option maxRecDepth 100000 in
theorem b_X0_wayCount_4 {p : Program} {l : Launch} {e : Env} {s : State} {m : MethodId} {args : Array Value} {below : List Frame} {meth : Method} {c : Code} {g : Gx} {u : St} {res : Int32} {k : Int32 → Int32 → Option (Int32)} (C : Cx p s m meth c args cX0_wayCount RX0 4 (some .int) 82 g)
    (hk : ∀ (x1 x2 : Int32) (H : Heap) (locs : List Loc) (ls : Array Slot), Zx wC g (Aw 82 g s.heap.size) s H locs u → lv_has ls 4 [(1, .int x1)] → k x1 x2 = some res → W p l e (rmX 2 47) s m args below meth c H locs 0 0 (QI wC 82 g res u below args s) (F0 m 46 ls [])) :
    ∀ (n : Nat) (x1 x2 : Int32) (H : Heap) (locs : List Loc) (ls : Array Slot), Zx wC g (Aw 82 g s.heap.size) s H locs u → lv_has ls 4 [(0, .ref (g.2.2 53)), (1, .int x1), (2, .int x2)] → L_X0_wayCount_4 k u n x1 x2 = some res → W p l e (rmX 2 47) s m args below meth c H locs 0 0 (QI wC 82 g res u below args s) (F0 m 4 ls []) := by
  have hx := C.1
  have hb := C.2.1
  intro n
  induction n with
  | zero =>
    intro x1 x2 H locs ls Z hl hf
    rw [L_X0_wayCount_4.eq_1] at hf
    cases hf
  | succ n ih =>
    intro x1 x2 H locs ls Z hl hf
    rw [L_X0_wayCount_4.eq_2] at hf
    refine lv_iload_n hx hb dX0_wayCount_4 rfl (lv_at hl 2 rfl) ?_
    refine lv_bipush (v := 24) hx hb dX0_wayCount_5 (by decide +kernel) ?_
    refine lv_icmp_ge (tgt := 46) hx hb dX0_wayCount_7 (by decide) (fun hc7 => ?_) (fun hc7 => ?_)
    · rw [if_pos hc7] at hf
      exact hk _ _ H locs ls Z (lv_sub hl [1] rfl) hf
    · rw [if_neg hc7] at hf
      refine lv_iconst (v := 0) hx hb dX0_wayCount_10 (by decide +kernel) ?_
      refine lv_istore_n (lv' := [(3, .int 0), (0, .ref (g.2.2 53)), (1, .int x1), (2, .int x2)]) hx hb dX0_wayCount_11 rfl hl (by decide) rfl (fun ls hl => ?_)
      refine b_X0_wayCount_12 C (fun x1 x3 H locs ls Z hl hf => ?_) FU _ _ _ _ _ Z (lv_sub hl [1, 2, 3, 0] rfl) hf
      refine lv_iinc (v := (x2 + 1)) (lv' := [(2, .int (x2 + 1)), (0, .ref (g.2.2 53)), (1, .int x1)]) hx hb dX0_wayCount_40 hl (k := 2) rfl rfl (by decide) rfl (fun ls hl => ?_)
      refine lv_goto (tgt := 4) hx hb dX0_wayCount_43 (by decide) ?_
      exact ih _ _ _ _ _ Z (lv_sub hl [1, 2, 0] rfl) hf
def f_X0_wayCount (u : St) : Option (Int32) :=
  L_X0_wayCount_4 (fun x1 x2 =>
    some x1) u FU 0 0
set_option maxHeartbeats 4000000 in
set_option maxRecDepth 100000 in
theorem c_X0_wayCount (l : Launch) {g : Gx} {u : St} {res : Int32} (hf : f_X0_wayCount u = some res) : CI wC 82 l yX0_wayCount (wsY yX0_wayCount cX0_wayCount 4 (some .int)) (rmX 2 47) g [.ref (g.2.2 53)] u res u := by
  refine CI_start (by decide +kernel) rfl (Nat.le_of_ble_eq_true rfl) (fun {p e s m args below meth c ls} C Z hl => ?_)
  have hl : lv_has ls 4 [(0, .ref (g.2.2 53))] := hl
  have hx := C.1
  have hb := C.2.1
  unfold f_X0_wayCount at hf
  refine lv_iconst (v := 0) hx hb dX0_wayCount_0 (by decide +kernel) ?_
  refine lv_istore_n (lv' := [(1, .int 0), (0, .ref (g.2.2 53))]) hx hb dX0_wayCount_1 rfl hl (by decide) rfl (fun ls hl => ?_)
  refine lv_iconst (v := 0) hx hb dX0_wayCount_2 (by decide +kernel) ?_
  refine lv_istore_n (lv' := [(2, .int 0), (1, .int 0), (0, .ref (g.2.2 53))]) hx hb dX0_wayCount_3 rfl hl (by decide) rfl (fun ls hl => ?_)
  refine b_X0_wayCount_4 C (fun x1 x2 H locs ls Z hl hf => ?_) FU _ _ _ _ _ Z (lv_sub hl [2, 1, 0] rfl) hf
  refine lv_iload_n hx hb dX0_wayCount_46 rfl (lv_at hl 0 rfl) ?_
  have hf := Option.some.inj hf
  subst hf
  exact ret_i C Z dX0_wayCount_47
def L_X0_bestWay_12 (k : Int32 → Int32 → Option (Int32)) (u : St) (x2 : Int32) : Nat → Int32 → Int32 → Option (Int32)
  | 0, _, _ => none
  | n + 1, x1, x3 =>
    if 6 < x3 then
      k x1 x3
    else
      Option.bind (f_X0_falsesOf u ((10 * x2) + x3)) fun r29 =>
      Option.bind (f_X0_falsesOf u x1) fun r34 =>
      if r34 ≤ r29 then
        L_X0_bestWay_12 k u x2 n x1 (x3 + 1)
      else
        L_X0_bestWay_12 k u x2 n ((10 * x2) + x3) (x3 + 1)
set_option maxHeartbeats 4000000 in
set_option maxRecDepth 100000 in
theorem b_X0_bestWay_12 {p : Program} {l : Launch} {e : Env} {s : State} {m : MethodId} {args : Array Value} {below : List Frame} {meth : Method} {c : Code} {g : Gx} {u : St} {x2 : Int32} {res : Int32} {k : Int32 → Int32 → Option (Int32)} (C : Cx p s m meth c args cX0_bestWay RX0 5 (some .int) 82 g)
    (hk : ∀ (x1 x3 : Int32) (H : Heap) (locs : List Loc) (ls : Array Slot), Zx wC g (Aw 82 g s.heap.size) s H locs u → lv_has ls 5 [(0, .ref (g.2.2 53)), (1, .int x1), (2, .int x2)] → k x1 x3 = some res → W p l e (rmX 2 47) s m args below meth c H locs 0 0 (QI wC 82 g res u below args s) (F0 m 49 ls [])) :
    ∀ (n : Nat) (x1 x3 : Int32) (H : Heap) (locs : List Loc) (ls : Array Slot), Zx wC g (Aw 82 g s.heap.size) s H locs u → lv_has ls 5 [(0, .ref (g.2.2 53)), (1, .int x1), (2, .int x2), (3, .int x3)] → L_X0_bestWay_12 k u x2 n x1 x3 = some res → W p l e (rmX 2 47) s m args below meth c H locs 0 0 (QI wC 82 g res u below args s) (F0 m 12 ls []) := by
  have hx := C.1
  have hb := C.2.1
  intro n
  induction n with
  | zero =>
    intro x1 x3 H locs ls Z hl hf
    rw [L_X0_bestWay_12.eq_1] at hf
    cases hf
  | succ n ih =>
    intro x1 x3 H locs ls Z hl hf
    rw [L_X0_bestWay_12.eq_2] at hf
    refine lv_iload_n hx hb dX0_bestWay_12 rfl (lv_at hl 3 rfl) ?_
    refine lv_bipush (v := 6) hx hb dX0_bestWay_13 (by decide +kernel) ?_
    refine lv_icmp_gt (tgt := 49) hx hb dX0_bestWay_15 (by decide) (fun hc15 => ?_) (fun hc15 => ?_)
    · rw [if_pos hc15] at hf
      exact hk _ _ H locs ls Z (lv_sub hl [0, 1, 2] rfl) hf
    · rw [if_neg hc15] at hf
      refine lv_bipush (v := 10) hx hb dX0_bestWay_18 (by decide +kernel) ?_
      refine lv_iload_n hx hb dX0_bestWay_20 rfl (lv_at hl 2 rfl) ?_
      refine lv_imul hx hb dX0_bestWay_21 ?_
      refine lv_iload_n hx hb dX0_bestWay_22 rfl (lv_at hl 3 rfl) ?_
      refine lv_iadd hx hb dX0_bestWay_23 ?_
      refine lv_istore (lv' := [(4, .int ((10 * x2) + x3)), (0, .ref (g.2.2 53)), (1, .int x1), (2, .int x2), (3, .int x3)]) hx hb dX0_bestWay_24 hl (by decide) rfl (fun ls hl => ?_)
      refine lv_aload_n hx hb dX0_bestWay_26 rfl (lv_at hl 1 rfl) ?_
      refine lv_iload hx hb dX0_bestWay_27 (lv_at hl 0 rfl) ?_
      obtain ⟨r29, hr29, hf⟩ := Option.bind_eq_some_iff.mp hf
      refine call_vi (As := [.int ((10 * x2) + x3)]) (rest := []) C Z (c_X0_falsesOf l hr29) mf_X0_falsesOf (ml_of C mw_731) rfl (oC_53 g _) rfl ⟨rfl, rfl, by decide, by decide⟩ rfl hl.1 (Nat.le_of_ble_eq_true rfl) dX0_bestWay_29 (fun H locs Z => ?_)
      refine lv_aload_n hx hb dX0_bestWay_32 rfl (lv_at hl 1 rfl) ?_
      refine lv_iload_n hx hb dX0_bestWay_33 rfl (lv_at hl 2 rfl) ?_
      obtain ⟨r34, hr34, hf⟩ := Option.bind_eq_some_iff.mp hf
      refine call_vi (As := [.int x1]) (rest := [.int r29]) C Z (c_X0_falsesOf l hr34) mf_X0_falsesOf (ml_of C mw_731) rfl (oC_53 g _) rfl ⟨rfl, rfl, by decide, by decide⟩ rfl hl.1 (Nat.le_of_ble_eq_true rfl) dX0_bestWay_34 (fun H locs Z => ?_)
      refine lv_icmp_ge (tgt := 43) hx hb dX0_bestWay_37 (by decide) (fun hc37 => ?_) (fun hc37 => ?_)
      · rw [if_pos hc37] at hf
        refine lv_iinc (v := (x3 + 1)) (lv' := [(3, .int (x3 + 1)), (4, .int ((10 * x2) + x3)), (0, .ref (g.2.2 53)), (1, .int x1), (2, .int x2)]) hx hb dX0_bestWay_43 hl (k := 4) rfl rfl (by decide) rfl (fun ls hl => ?_)
        refine lv_goto (tgt := 12) hx hb dX0_bestWay_46 (by decide) ?_
        exact ih _ _ _ _ _ Z (lv_sub hl [2, 3, 4, 0] rfl) hf
      · rw [if_neg hc37] at hf
        refine lv_iload hx hb dX0_bestWay_40 (lv_at hl 0 rfl) ?_
        refine lv_istore_n (lv' := [(1, .int ((10 * x2) + x3)), (4, .int ((10 * x2) + x3)), (0, .ref (g.2.2 53)), (2, .int x2), (3, .int x3)]) hx hb dX0_bestWay_42 rfl hl (by decide) rfl (fun ls hl => ?_)
        refine lv_iinc (v := (x3 + 1)) (lv' := [(3, .int (x3 + 1)), (1, .int ((10 * x2) + x3)), (4, .int ((10 * x2) + x3)), (0, .ref (g.2.2 53)), (2, .int x2)]) hx hb dX0_bestWay_43 hl (k := 4) rfl rfl (by decide) rfl (fun ls hl => ?_)
        refine lv_goto (tgt := 12) hx hb dX0_bestWay_46 (by decide) ?_
        exact ih _ _ _ _ _ Z (lv_sub hl [3, 1, 4, 0] rfl) hf
def L_X0_bestWay_4 (k : Int32 → Int32 → Option (Int32)) (u : St) : Nat → Int32 → Int32 → Option (Int32)
  | 0, _, _ => none
  | n + 1, x1, x2 =>
    if 24 ≤ x2 then
      k x1 x2
    else
      L_X0_bestWay_12 (fun x1 x3 =>
        L_X0_bestWay_4 k u n x1 (x2 + 1)) u x2 FU x1 0
set_option maxHeartbeats 4000000 in
set_option maxRecDepth 100000 in
theorem b_X0_bestWay_4 {p : Program} {l : Launch} {e : Env} {s : State} {m : MethodId} {args : Array Value} {below : List Frame} {meth : Method} {c : Code} {g : Gx} {u : St} {res : Int32} {k : Int32 → Int32 → Option (Int32)} (C : Cx p s m meth c args cX0_bestWay RX0 5 (some .int) 82 g)
    (hk : ∀ (x1 x2 : Int32) (H : Heap) (locs : List Loc) (ls : Array Slot), Zx wC g (Aw 82 g s.heap.size) s H locs u → lv_has ls 5 [(1, .int x1)] → k x1 x2 = some res → W p l e (rmX 2 47) s m args below meth c H locs 0 0 (QI wC 82 g res u below args s) (F0 m 55 ls [])) :
    ∀ (n : Nat) (x1 x2 : Int32) (H : Heap) (locs : List Loc) (ls : Array Slot), Zx wC g (Aw 82 g s.heap.size) s H locs u → lv_has ls 5 [(0, .ref (g.2.2 53)), (1, .int x1), (2, .int x2)] → L_X0_bestWay_4 k u n x1 x2 = some res → W p l e (rmX 2 47) s m args below meth c H locs 0 0 (QI wC 82 g res u below args s) (F0 m 4 ls []) := by
  have hx := C.1
  have hb := C.2.1
  intro n
  induction n with
  | zero =>
    intro x1 x2 H locs ls Z hl hf
    rw [L_X0_bestWay_4.eq_1] at hf
    cases hf
  | succ n ih =>
    intro x1 x2 H locs ls Z hl hf
    rw [L_X0_bestWay_4.eq_2] at hf
    refine lv_iload_n hx hb dX0_bestWay_4 rfl (lv_at hl 2 rfl) ?_
    refine lv_bipush (v := 24) hx hb dX0_bestWay_5 (by decide +kernel) ?_
    refine lv_icmp_ge (tgt := 55) hx hb dX0_bestWay_7 (by decide) (fun hc7 => ?_) (fun hc7 => ?_)
    · rw [if_pos hc7] at hf
      exact hk _ _ H locs ls Z (lv_sub hl [1] rfl) hf
    · rw [if_neg hc7] at hf
      refine lv_iconst (v := 0) hx hb dX0_bestWay_10 (by decide +kernel) ?_
      refine lv_istore_n (lv' := [(3, .int 0), (0, .ref (g.2.2 53)), (1, .int x1), (2, .int x2)]) hx hb dX0_bestWay_11 rfl hl (by decide) rfl (fun ls hl => ?_)
      refine b_X0_bestWay_12 C (fun x1 x3 H locs ls Z hl hf => ?_) FU _ _ _ _ _ Z (lv_sub hl [1, 2, 3, 0] rfl) hf
      refine lv_iinc (v := (x2 + 1)) (lv' := [(2, .int (x2 + 1)), (0, .ref (g.2.2 53)), (1, .int x1)]) hx hb dX0_bestWay_49 hl (k := 2) rfl rfl (by decide) rfl (fun ls hl => ?_)
      refine lv_goto (tgt := 4) hx hb dX0_bestWay_52 (by decide) ?_
      exact ih _ _ _ _ _ Z (lv_sub hl [1, 2, 0] rfl) hf
def f_X0_bestWay (u : St) : Option (Int32) :=
  L_X0_bestWay_4 (fun x1 x2 =>
    some x1) u FU 0 0
set_option maxHeartbeats 4000000 in
set_option maxRecDepth 100000 in
theorem c_X0_bestWay (l : Launch) {g : Gx} {u : St} {res : Int32} (hf : f_X0_bestWay u = some res) : CI wC 82 l yX0_bestWay (wsY yX0_bestWay cX0_bestWay 5 (some .int)) (rmX 2 47) g [.ref (g.2.2 53)] u res u := by
  refine CI_start (by decide +kernel) rfl (Nat.le_of_ble_eq_true rfl) (fun {p e s m args below meth c ls} C Z hl => ?_)
  have hl : lv_has ls 5 [(0, .ref (g.2.2 53))] := hl
  have hx := C.1
  have hb := C.2.1
  unfold f_X0_bestWay at hf
  refine lv_iconst (v := 0) hx hb dX0_bestWay_0 (by decide +kernel) ?_
  refine lv_istore_n (lv' := [(1, .int 0), (0, .ref (g.2.2 53))]) hx hb dX0_bestWay_1 rfl hl (by decide) rfl (fun ls hl => ?_)
  refine lv_iconst (v := 0) hx hb dX0_bestWay_2 (by decide +kernel) ?_
  refine lv_istore_n (lv' := [(2, .int 0), (1, .int 0), (0, .ref (g.2.2 53))]) hx hb dX0_bestWay_3 rfl hl (by decide) rfl (fun ls hl => ?_)
  refine b_X0_bestWay_4 C (fun x1 x2 H locs ls Z hl hf => ?_) FU _ _ _ _ _ Z (lv_sub hl [2, 1, 0] rfl) hf
  refine lv_iload_n hx hb dX0_bestWay_55 rfl (lv_at hl 0 rfl) ?_
  have hf := Option.some.inj hf
  subst hf
  exact ret_i C Z dX0_bestWay_56
