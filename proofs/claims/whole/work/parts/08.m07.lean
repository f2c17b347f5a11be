def f_X8_takesNumber (u : St) (x1 x2 : Int32) : Option (Int32 × St) :=
  if (u.1 10) = 0 then
    if (u.1 8) = 2 then
      Option.bind (f_X8_in (u.1 9) x1 x2) fun r21 =>
      if r21 = 0 then
        some (0, (sI u 10 1))
      else
        Option.bind (f_X8_next (sI u 10 0)) fun r57 =>
        some ((u.1 9), r57)
    else
      some (0, (sI u 10 1))
  else
    some (0, (sI u 10 1))
set_option maxHeartbeats 4000000 in
set_option maxRecDepth 100000 in
theorem c_X8_takesNumber (l : Launch) {g : Gx} {u : St} {x1 x2 : Int32} {res : Int32 × St} (hf : f_X8_takesNumber u x1 x2 = some res) : CI wM 22 l yX8_takesNumber (wsY yX8_takesNumber cX8_takesNumber 5 (some .int)) (rmX 3 63) g [.ref (g.2.2 0), .int x1, .int x2] u res.1 res.2 := by
  refine CI_start (by decide +kernel) rfl (Nat.le_of_ble_eq_true rfl) (fun {p e s m args below meth c ls} C Z hl => ?_)
  have hl : lv_has ls 5 [(0, .ref (g.2.2 0)), (1, .int x1), (2, .int x2)] := hl
  have hx := C.1
  have hb := C.2.1
  unfold f_X8_takesNumber at hf
  refine lv_aload_n hx hb dX8_takesNumber_0 rfl (lv_at hl 0 rfl) ?_
  refine gM_0_24 C Z (fl_of C mw_841) dX8_takesNumber_1 (x := (u.1 10)) rfl ?_
  refine lv_if_ne (tgt := 31) hx hb dX8_takesNumber_4 (by decide) (fun hc4 => ?_) (fun hc4 => ?_)
  · rw [if_neg hc4] at hf
    refine lv_iconst (v := 0) hx hb dX8_takesNumber_31 (by decide +kernel) ?_
    refine lv_istore_n (lv' := [(3, .int 0), (0, .ref (g.2.2 0)), (1, .int x1), (2, .int x2)]) hx hb dX8_takesNumber_32 rfl hl (by decide) rfl (fun ls hl => ?_)
    refine lv_aload_n hx hb dX8_takesNumber_33 rfl (lv_at hl 1 rfl) ?_
    refine lv_iload_n hx hb dX8_takesNumber_34 rfl (lv_at hl 0 rfl) ?_
    refine lv_if_ne (tgt := 42) hx hb dX8_takesNumber_35 (by decide) (fun hq => absurd hq (by decide)) (fun _ => ?_)
    refine lv_iconst (v := 1) hx hb dX8_takesNumber_38 (by decide +kernel) ?_
    refine lv_goto (tgt := 43) hx hb dX8_takesNumber_39 (by decide) ?_
    refine pM_0_24 C Z (fl_of C mw_841) (by decide) dX8_takesNumber_43 (fun H locs Z => ?_)
    refine lv_aload_n hx hb dX8_takesNumber_46 rfl (lv_at hl 1 rfl) ?_
    refine gM_0_23 C Z (fl_of C mw_840) dX8_takesNumber_47 (x := (u.1 9)) rfl ?_
    refine lv_istore (lv' := [(4, .int (u.1 9)), (3, .int 0), (0, .ref (g.2.2 0)), (1, .int x1), (2, .int x2)]) hx hb dX8_takesNumber_50 hl (by decide) rfl (fun ls hl => ?_)
    refine lv_iload_n hx hb dX8_takesNumber_52 rfl (lv_at hl 1 rfl) ?_
    refine lv_if_eq (tgt := 60) hx hb dX8_takesNumber_53 (by decide) (fun _ => ?_) (fun hq => absurd (by decide) hq)
    refine lv_iload_n hx hb dX8_takesNumber_60 rfl (lv_at hl 1 rfl) ?_
    refine lv_if_eq (tgt := 69) hx hb dX8_takesNumber_61 (by decide) (fun _ => ?_) (fun hq => absurd (by decide) hq)
    refine lv_iconst (v := 0) hx hb dX8_takesNumber_69 (by decide +kernel) ?_
    have hf := Option.some.inj hf
    subst hf
    exact ret_i C Z dX8_takesNumber_70
  · rw [if_pos hc4] at hf
    refine lv_aload_n hx hb dX8_takesNumber_7 rfl (lv_at hl 0 rfl) ?_
    refine gM_0_22 C Z (fl_of C mw_839) dX8_takesNumber_8 (x := (u.1 8)) rfl ?_
    refine lv_iconst (v := 2) hx hb dX8_takesNumber_11 (by decide +kernel) ?_
    refine lv_icmp_ne (tgt := 31) hx hb dX8_takesNumber_12 (by decide) (fun hc12 => ?_) (fun hc12 => ?_)
    · rw [if_neg hc12] at hf
      refine lv_iconst (v := 0) hx hb dX8_takesNumber_31 (by decide +kernel) ?_
      refine lv_istore_n (lv' := [(3, .int 0), (0, .ref (g.2.2 0)), (1, .int x1), (2, .int x2)]) hx hb dX8_takesNumber_32 rfl hl (by decide) rfl (fun ls hl => ?_)
      refine lv_aload_n hx hb dX8_takesNumber_33 rfl (lv_at hl 1 rfl) ?_
      refine lv_iload_n hx hb dX8_takesNumber_34 rfl (lv_at hl 0 rfl) ?_
      refine lv_if_ne (tgt := 42) hx hb dX8_takesNumber_35 (by decide) (fun hq => absurd hq (by decide)) (fun _ => ?_)
      refine lv_iconst (v := 1) hx hb dX8_takesNumber_38 (by decide +kernel) ?_
      refine lv_goto (tgt := 43) hx hb dX8_takesNumber_39 (by decide) ?_
      refine pM_0_24 C Z (fl_of C mw_841) (by decide) dX8_takesNumber_43 (fun H locs Z => ?_)
      refine lv_aload_n hx hb dX8_takesNumber_46 rfl (lv_at hl 1 rfl) ?_
      refine gM_0_23 C Z (fl_of C mw_840) dX8_takesNumber_47 (x := (u.1 9)) rfl ?_
      refine lv_istore (lv' := [(4, .int (u.1 9)), (3, .int 0), (0, .ref (g.2.2 0)), (1, .int x1), (2, .int x2)]) hx hb dX8_takesNumber_50 hl (by decide) rfl (fun ls hl => ?_)
      refine lv_iload_n hx hb dX8_takesNumber_52 rfl (lv_at hl 1 rfl) ?_
      refine lv_if_eq (tgt := 60) hx hb dX8_takesNumber_53 (by decide) (fun _ => ?_) (fun hq => absurd (by decide) hq)
      refine lv_iload_n hx hb dX8_takesNumber_60 rfl (lv_at hl 1 rfl) ?_
      refine lv_if_eq (tgt := 69) hx hb dX8_takesNumber_61 (by decide) (fun _ => ?_) (fun hq => absurd (by decide) hq)
      refine lv_iconst (v := 0) hx hb dX8_takesNumber_69 (by decide +kernel) ?_
      have hf := Option.some.inj hf
      subst hf
      exact ret_i C Z dX8_takesNumber_70
    · rw [if_pos hc12] at hf
      refine lv_aload_n hx hb dX8_takesNumber_15 rfl (lv_at hl 0 rfl) ?_
      refine gM_0_23 C Z (fl_of C mw_840) dX8_takesNumber_16 (x := (u.1 9)) rfl ?_
      refine lv_iload_n hx hb dX8_takesNumber_19 rfl (lv_at hl 1 rfl) ?_
      refine lv_iload_n hx hb dX8_takesNumber_20 rfl (lv_at hl 2 rfl) ?_
      obtain ⟨r21, hr21, hf⟩ := Option.bind_eq_some_iff.mp hf
      refine call_si (As := [.int (u.1 9), .int x1, .int x2]) (rest := []) C Z (c_X8_in l hr21) mf_X8_in (ml_of C mw_934) rfl ⟨rfl, rfl, by decide, by decide⟩ rfl hl.1 (Nat.le_of_ble_eq_true rfl) dX8_takesNumber_21 (fun H locs Z => ?_)
      refine lv_if_eq (tgt := 31) hx hb dX8_takesNumber_24 (by decide) (fun hc24 => ?_) (fun hc24 => ?_)
      · rw [if_pos hc24] at hf
        refine lv_iconst (v := 0) hx hb dX8_takesNumber_31 (by decide +kernel) ?_
        refine lv_istore_n (lv' := [(3, .int 0), (0, .ref (g.2.2 0)), (1, .int x1), (2, .int x2)]) hx hb dX8_takesNumber_32 rfl hl (by decide) rfl (fun ls hl => ?_)
        refine lv_aload_n hx hb dX8_takesNumber_33 rfl (lv_at hl 1 rfl) ?_
        refine lv_iload_n hx hb dX8_takesNumber_34 rfl (lv_at hl 0 rfl) ?_
        refine lv_if_ne (tgt := 42) hx hb dX8_takesNumber_35 (by decide) (fun hq => absurd hq (by decide)) (fun _ => ?_)
        refine lv_iconst (v := 1) hx hb dX8_takesNumber_38 (by decide +kernel) ?_
        refine lv_goto (tgt := 43) hx hb dX8_takesNumber_39 (by decide) ?_
        refine pM_0_24 C Z (fl_of C mw_841) (by decide) dX8_takesNumber_43 (fun H locs Z => ?_)
        refine lv_aload_n hx hb dX8_takesNumber_46 rfl (lv_at hl 1 rfl) ?_
        refine gM_0_23 C Z (fl_of C mw_840) dX8_takesNumber_47 (x := (u.1 9)) rfl ?_
        refine lv_istore (lv' := [(4, .int (u.1 9)), (3, .int 0), (0, .ref (g.2.2 0)), (1, .int x1), (2, .int x2)]) hx hb dX8_takesNumber_50 hl (by decide) rfl (fun ls hl => ?_)
        refine lv_iload_n hx hb dX8_takesNumber_52 rfl (lv_at hl 1 rfl) ?_
        refine lv_if_eq (tgt := 60) hx hb dX8_takesNumber_53 (by decide) (fun _ => ?_) (fun hq => absurd (by decide) hq)
        refine lv_iload_n hx hb dX8_takesNumber_60 rfl (lv_at hl 1 rfl) ?_
        refine lv_if_eq (tgt := 69) hx hb dX8_takesNumber_61 (by decide) (fun _ => ?_) (fun hq => absurd (by decide) hq)
        refine lv_iconst (v := 0) hx hb dX8_takesNumber_69 (by decide +kernel) ?_
        have hf := Option.some.inj hf
        subst hf
        exact ret_i C Z dX8_takesNumber_70
      · rw [if_neg hc24] at hf
        refine lv_iconst (v := 1) hx hb dX8_takesNumber_27 (by decide +kernel) ?_
        refine lv_goto (tgt := 32) hx hb dX8_takesNumber_28 (by decide) ?_
        refine lv_istore_n (lv' := [(3, .int 1), (0, .ref (g.2.2 0)), (1, .int x1), (2, .int x2)]) hx hb dX8_takesNumber_32 rfl hl (by decide) rfl (fun ls hl => ?_)
        refine lv_aload_n hx hb dX8_takesNumber_33 rfl (lv_at hl 1 rfl) ?_
        refine lv_iload_n hx hb dX8_takesNumber_34 rfl (lv_at hl 0 rfl) ?_
        refine lv_if_ne (tgt := 42) hx hb dX8_takesNumber_35 (by decide) (fun _ => ?_) (fun hq => absurd hq (by decide))
        refine lv_iconst (v := 0) hx hb dX8_takesNumber_42 (by decide +kernel) ?_
        refine pM_0_24 C Z (fl_of C mw_841) (by decide) dX8_takesNumber_43 (fun H locs Z => ?_)
        refine lv_aload_n hx hb dX8_takesNumber_46 rfl (lv_at hl 1 rfl) ?_
        refine gM_0_23 C Z (fl_of C mw_840) dX8_takesNumber_47 (x := (u.1 9)) rfl ?_
        refine lv_istore (lv' := [(4, .int (u.1 9)), (3, .int 1), (0, .ref (g.2.2 0)), (1, .int x1), (2, .int x2)]) hx hb dX8_takesNumber_50 hl (by decide) rfl (fun ls hl => ?_)
        refine lv_iload_n hx hb dX8_takesNumber_52 rfl (lv_at hl 1 rfl) ?_
        refine lv_if_eq (tgt := 60) hx hb dX8_takesNumber_53 (by decide) (fun hq => absurd hq (by decide)) (fun _ => ?_)
        refine lv_aload_n hx hb dX8_takesNumber_56 rfl (lv_at hl 2 rfl) ?_
        obtain ⟨r57, hr57, hf⟩ := Option.bind_eq_some_iff.mp hf
        refine call_vv (As := []) (rest := []) C Z (c_X8_next l hr57) mf_X8_next (ml_of C mw_945) rfl (oM_0 g _) rfl ⟨rfl, rfl, by decide, by decide⟩ rfl hl.1 (Nat.le_of_ble_eq_true rfl) dX8_takesNumber_57 (fun H locs Z => ?_)
        refine lv_iload_n hx hb dX8_takesNumber_60 rfl (lv_at hl 1 rfl) ?_
        refine lv_if_eq (tgt := 69) hx hb dX8_takesNumber_61 (by decide) (fun hq => absurd hq (by decide)) (fun _ => ?_)
        refine lv_iload hx hb dX8_takesNumber_64 (lv_at hl 0 rfl) ?_
        refine lv_goto (tgt := 70) hx hb dX8_takesNumber_66 (by decide) ?_
        have hf := Option.some.inj hf
        subst hf
        exact ret_i C Z dX8_takesNumber_70
def f_X8_readCock (u : St) : Option (St) :=
  Option.bind (f_X8_takesNumber u 0 23) fun r12 =>
  if oob (u.1 12) 5 then none else
  Option.bind (f_X8_takesNumber (sA r12.2 14 (upd (r12.2.2.1 14) (Int32.toNatClampNeg (u.1 12)) r12.1)) 1 5) fun r27 =>
  if oob (r12.2.1 12) 5 then none else
  Option.bind (f_X8_takesNumber (sA r27.2 15 (upd (r27.2.2.1 15) (Int32.toNatClampNeg (r12.2.1 12)) r27.1)) 0 1) fun r42 =>
  if oob (r27.2.1 12) 5 then none else
  Option.bind (f_X8_takesNumber (sA r42.2 16 (upd (r42.2.2.1 16) (Int32.toNatClampNeg (r27.2.1 12)) r42.1)) 0 9) fun r58 =>
  if oob (r42.2.1 12) 5 then none else
  some (sI (sA r58.2 17 (upd (r58.2.2.1 17) (Int32.toNatClampNeg (r42.2.1 12)) r58.1)) 12 ((r58.2.1 12) + 1))
set_option maxHeartbeats 4000000 in
set_option maxRecDepth 100000 in
theorem c_X8_readCock (l : Launch) {g : Gx} {u : St} {res : St} (hf : f_X8_readCock u = some res) : CV wM 22 l yX8_readCock (wsY yX8_readCock cX8_readCock 1 (none)) (rmX 4 87) g [.ref (g.2.2 0)] u res := by
  refine CV_start (by decide +kernel) rfl (Nat.le_of_ble_eq_true rfl) (fun {p e s m args below meth c ls} C Z hl => ?_)
  have hl : lv_has ls 1 [(0, .ref (g.2.2 0))] := hl
  have hx := C.1
  have hb := C.2.1
  unfold f_X8_readCock at hf
  refine lv_aload_n hx hb dX8_readCock_0 rfl (lv_at hl 0 rfl) ?_
  refine gM_0_28 C Z (fl_of C mw_845) dX8_readCock_1 ?_
  refine lv_aload_n hx hb dX8_readCock_4 rfl (lv_at hl 0 rfl) ?_
  refine gM_0_27 C Z (fl_of C mw_844) dX8_readCock_5 (x := (u.1 12)) rfl ?_
  refine lv_aload_n hx hb dX8_readCock_8 rfl (lv_at hl 0 rfl) ?_
  refine lv_iconst (v := 0) hx hb dX8_readCock_9 (by decide +kernel) ?_
  refine lv_bipush (v := 23) hx hb dX8_readCock_10 (by decide +kernel) ?_
  obtain ⟨r12, hr12, hf⟩ := Option.bind_eq_some_iff.mp hf
  refine call_vi (As := [.int 0, .int 23]) (rest := [.int (u.1 12), .ref (g.2.2 15)]) C Z (c_X8_takesNumber l hr12) mf_X8_takesNumber (ml_of C mw_975) rfl (oM_0 g _) rfl ⟨rfl, rfl, by decide, by decide⟩ rfl hl.1 (Nat.le_of_ble_eq_true rfl) dX8_readCock_12 (fun H locs Z => ?_)
  by_cases ho15 : oob (u.1 12) 5 = true
  · rw [if_pos ho15] at hf; cases hf
  rw [if_neg ho15] at hf
  refine r_ast C wokM Z (aM_15 g _ (f := (r12.2.2.1 14)) rfl) ho15 rfl (sM_15 g _ _) dX8_readCock_15 (fun H locs Z => ?_)
  refine lv_aload_n hx hb dX8_readCock_16 rfl (lv_at hl 0 rfl) ?_
  refine gM_0_29 C Z (fl_of C mw_846) dX8_readCock_17 ?_
  refine lv_aload_n hx hb dX8_readCock_20 rfl (lv_at hl 0 rfl) ?_
  refine gM_0_27 C Z (fl_of C mw_844) dX8_readCock_21 (x := (r12.2.1 12)) rfl ?_
  refine lv_aload_n hx hb dX8_readCock_24 rfl (lv_at hl 0 rfl) ?_
  refine lv_iconst (v := 1) hx hb dX8_readCock_25 (by decide +kernel) ?_
  refine lv_iconst (v := 5) hx hb dX8_readCock_26 (by decide +kernel) ?_
  obtain ⟨r27, hr27, hf⟩ := Option.bind_eq_some_iff.mp hf
  refine call_vi (As := [.int 1, .int 5]) (rest := [.int (r12.2.1 12), .ref (g.2.2 16)]) C Z (c_X8_takesNumber l hr27) mf_X8_takesNumber (ml_of C mw_975) rfl (oM_0 g _) rfl ⟨rfl, rfl, by decide, by decide⟩ rfl hl.1 (Nat.le_of_ble_eq_true rfl) dX8_readCock_27 (fun H locs Z => ?_)
  by_cases ho30 : oob (r12.2.1 12) 5 = true
  · rw [if_pos ho30] at hf; cases hf
  rw [if_neg ho30] at hf
  refine r_ast C wokM Z (aM_16 g _ (f := (r27.2.2.1 15)) rfl) ho30 rfl (sM_16 g _ _) dX8_readCock_30 (fun H locs Z => ?_)
  refine lv_aload_n hx hb dX8_readCock_31 rfl (lv_at hl 0 rfl) ?_
  refine gM_0_30 C Z (fl_of C mw_847) dX8_readCock_32 ?_
  refine lv_aload_n hx hb dX8_readCock_35 rfl (lv_at hl 0 rfl) ?_
  refine gM_0_27 C Z (fl_of C mw_844) dX8_readCock_36 (x := (r27.2.1 12)) rfl ?_
  refine lv_aload_n hx hb dX8_readCock_39 rfl (lv_at hl 0 rfl) ?_
  refine lv_iconst (v := 0) hx hb dX8_readCock_40 (by decide +kernel) ?_
  refine lv_iconst (v := 1) hx hb dX8_readCock_41 (by decide +kernel) ?_
  obtain ⟨r42, hr42, hf⟩ := Option.bind_eq_some_iff.mp hf
  refine call_vi (As := [.int 0, .int 1]) (rest := [.int (r27.2.1 12), .ref (g.2.2 17)]) C Z (c_X8_takesNumber l hr42) mf_X8_takesNumber (ml_of C mw_975) rfl (oM_0 g _) rfl ⟨rfl, rfl, by decide, by decide⟩ rfl hl.1 (Nat.le_of_ble_eq_true rfl) dX8_readCock_42 (fun H locs Z => ?_)
  by_cases ho45 : oob (r27.2.1 12) 5 = true
  · rw [if_pos ho45] at hf; cases hf
  rw [if_neg ho45] at hf
  refine r_ast C wokM Z (aM_17 g _ (f := (r42.2.2.1 16)) rfl) ho45 rfl (sM_17 g _ _) dX8_readCock_45 (fun H locs Z => ?_)
  refine lv_aload_n hx hb dX8_readCock_46 rfl (lv_at hl 0 rfl) ?_
  refine gM_0_31 C Z (fl_of C mw_848) dX8_readCock_47 ?_
  refine lv_aload_n hx hb dX8_readCock_50 rfl (lv_at hl 0 rfl) ?_
  refine gM_0_27 C Z (fl_of C mw_844) dX8_readCock_51 (x := (r42.2.1 12)) rfl ?_
  refine lv_aload_n hx hb dX8_readCock_54 rfl (lv_at hl 0 rfl) ?_
  refine lv_iconst (v := 0) hx hb dX8_readCock_55 (by decide +kernel) ?_
  refine lv_bipush (v := 9) hx hb dX8_readCock_56 (by decide +kernel) ?_
  obtain ⟨r58, hr58, hf⟩ := Option.bind_eq_some_iff.mp hf
  refine call_vi (As := [.int 0, .int 9]) (rest := [.int (r42.2.1 12), .ref (g.2.2 18)]) C Z (c_X8_takesNumber l hr58) mf_X8_takesNumber (ml_of C mw_975) rfl (oM_0 g _) rfl ⟨rfl, rfl, by decide, by decide⟩ rfl hl.1 (Nat.le_of_ble_eq_true rfl) dX8_readCock_58 (fun H locs Z => ?_)
  by_cases ho61 : oob (r42.2.1 12) 5 = true
  · rw [if_pos ho61] at hf; cases hf
  rw [if_neg ho61] at hf
  refine r_ast C wokM Z (aM_18 g _ (f := (r58.2.2.1 17)) rfl) ho61 rfl (sM_18 g _ _) dX8_readCock_61 (fun H locs Z => ?_)
  refine lv_aload_n hx hb dX8_readCock_62 rfl (lv_at hl 0 rfl) ?_
  refine lv_dup hx hb dX8_readCock_63 rfl ?_
  refine gM_0_27 C Z (fl_of C mw_844) dX8_readCock_64 (x := (r58.2.1 12)) rfl ?_
  refine lv_iconst (v := 1) hx hb dX8_readCock_67 (by decide +kernel) ?_
  refine lv_iadd hx hb dX8_readCock_68 ?_
  refine pM_0_27 C Z (fl_of C mw_844) dX8_readCock_69 (fun H locs Z => ?_)
  have hf := Option.some.inj hf
  subst hf
  exact ret_v C Z dX8_readCock_72
def f_X8_readOne (u : St) : Option (St) :=
  Option.bind (f_X8_takesNumber u 0 23) fun r12 =>
  if oob (u.1 13) 4 then none else
  Option.bind (f_X8_takesNumber (sA r12.2 18 (upd (r12.2.2.1 18) (Int32.toNatClampNeg (u.1 13)) r12.1)) 0 6) fun r28 =>
  if oob (r12.2.1 13) 4 then none else
  some (sI (sA r28.2 19 (upd (r28.2.2.1 19) (Int32.toNatClampNeg (r12.2.1 13)) (r28.1 - 3))) 13 ((r28.2.1 13) + 1))
set_option maxHeartbeats 4000000 in
set_option maxRecDepth 100000 in
theorem c_X8_readOne (l : Launch) {g : Gx} {u : St} {res : St} (hf : f_X8_readOne u = some res) : CV wM 22 l yX8_readOne (wsY yX8_readOne cX8_readOne 1 (none)) (rmX 4 87) g [.ref (g.2.2 0)] u res := by
  refine CV_start (by decide +kernel) rfl (Nat.le_of_ble_eq_true rfl) (fun {p e s m args below meth c ls} C Z hl => ?_)
  have hl : lv_has ls 1 [(0, .ref (g.2.2 0))] := hl
  have hx := C.1
  have hb := C.2.1
  unfold f_X8_readOne at hf
  refine lv_aload_n hx hb dX8_readOne_0 rfl (lv_at hl 0 rfl) ?_
  refine gM_0_33 C Z (fl_of C mw_850) dX8_readOne_1 ?_
  refine lv_aload_n hx hb dX8_readOne_4 rfl (lv_at hl 0 rfl) ?_
  refine gM_0_32 C Z (fl_of C mw_849) dX8_readOne_5 (x := (u.1 13)) rfl ?_
  refine lv_aload_n hx hb dX8_readOne_8 rfl (lv_at hl 0 rfl) ?_
  refine lv_iconst (v := 0) hx hb dX8_readOne_9 (by decide +kernel) ?_
  refine lv_bipush (v := 23) hx hb dX8_readOne_10 (by decide +kernel) ?_
  obtain ⟨r12, hr12, hf⟩ := Option.bind_eq_some_iff.mp hf
  refine call_vi (As := [.int 0, .int 23]) (rest := [.int (u.1 13), .ref (g.2.2 19)]) C Z (c_X8_takesNumber l hr12) mf_X8_takesNumber (ml_of C mw_975) rfl (oM_0 g _) rfl ⟨rfl, rfl, by decide, by decide⟩ rfl hl.1 (Nat.le_of_ble_eq_true rfl) dX8_readOne_12 (fun H locs Z => ?_)
  by_cases ho15 : oob (u.1 13) 4 = true
  · rw [if_pos ho15] at hf; cases hf
  rw [if_neg ho15] at hf
  refine r_ast C wokM Z (aM_19 g _ (f := (r12.2.2.1 18)) rfl) ho15 rfl (sM_19 g _ _) dX8_readOne_15 (fun H locs Z => ?_)
  refine lv_aload_n hx hb dX8_readOne_16 rfl (lv_at hl 0 rfl) ?_
  refine gM_0_34 C Z (fl_of C mw_851) dX8_readOne_17 ?_
  refine lv_aload_n hx hb dX8_readOne_20 rfl (lv_at hl 0 rfl) ?_
  refine gM_0_32 C Z (fl_of C mw_849) dX8_readOne_21 (x := (r12.2.1 13)) rfl ?_
  refine lv_aload_n hx hb dX8_readOne_24 rfl (lv_at hl 0 rfl) ?_
  refine lv_iconst (v := 0) hx hb dX8_readOne_25 (by decide +kernel) ?_
  refine lv_bipush (v := 6) hx hb dX8_readOne_26 (by decide +kernel) ?_
  obtain ⟨r28, hr28, hf⟩ := Option.bind_eq_some_iff.mp hf
  refine call_vi (As := [.int 0, .int 6]) (rest := [.int (r12.2.1 13), .ref (g.2.2 20)]) C Z (c_X8_takesNumber l hr28) mf_X8_takesNumber (ml_of C mw_975) rfl (oM_0 g _) rfl ⟨rfl, rfl, by decide, by decide⟩ rfl hl.1 (Nat.le_of_ble_eq_true rfl) dX8_readOne_28 (fun H locs Z => ?_)
  refine lv_iconst (v := 3) hx hb dX8_readOne_31 (by decide +kernel) ?_
  refine lv_isub hx hb dX8_readOne_32 ?_
  by_cases ho33 : oob (r12.2.1 13) 4 = true
  · rw [if_pos ho33] at hf; cases hf
  rw [if_neg ho33] at hf
  refine r_ast C wokM Z (aM_20 g _ (f := (r28.2.2.1 19)) rfl) ho33 rfl (sM_20 g _ _) dX8_readOne_33 (fun H locs Z => ?_)
  refine lv_aload_n hx hb dX8_readOne_34 rfl (lv_at hl 0 rfl) ?_
  refine lv_dup hx hb dX8_readOne_35 rfl ?_
  refine gM_0_32 C Z (fl_of C mw_849) dX8_readOne_36 (x := (r28.2.1 13)) rfl ?_
  refine lv_iconst (v := 1) hx hb dX8_readOne_39 (by decide +kernel) ?_
  refine lv_iadd hx hb dX8_readOne_40 ?_
  refine pM_0_32 C Z (fl_of C mw_849) dX8_readOne_41 (fun H locs Z => ?_)
  have hf := Option.some.inj hf
  subst hf
  exact ret_v C Z dX8_readOne_44
def f_X8_readRoof (u : St) : Option (St) :=
  Option.bind (f_X8_takesNumber u 0 23) fun r4 =>
  Option.bind (f_X8_takesNumber r4.2 0 9) fun r17 =>
  if oob r4.1 24 then none else
  some (sA r17.2 13 (upd (r17.2.2.1 13) (Int32.toNatClampNeg r4.1) r17.1))
set_option maxHeartbeats 4000000 in
set_option maxRecDepth 100000 in
theorem c_X8_readRoof (l : Launch) {g : Gx} {u : St} {res : St} (hf : f_X8_readRoof u = some res) : CV wM 22 l yX8_readRoof (wsY yX8_readRoof cX8_readRoof 2 (none)) (rmX 4 87) g [.ref (g.2.2 0)] u res := by
  refine CV_start (by decide +kernel) rfl (Nat.le_of_ble_eq_true rfl) (fun {p e s m args below meth c ls} C Z hl => ?_)
  have hl : lv_has ls 2 [(0, .ref (g.2.2 0))] := hl
  have hx := C.1
  have hb := C.2.1
  unfold f_X8_readRoof at hf
  refine lv_aload_n hx hb dX8_readRoof_0 rfl (lv_at hl 0 rfl) ?_
  refine lv_iconst (v := 0) hx hb dX8_readRoof_1 (by decide +kernel) ?_
  refine lv_bipush (v := 23) hx hb dX8_readRoof_2 (by decide +kernel) ?_
  obtain ⟨r4, hr4, hf⟩ := Option.bind_eq_some_iff.mp hf
  refine call_vi (As := [.int 0, .int 23]) (rest := []) C Z (c_X8_takesNumber l hr4) mf_X8_takesNumber (ml_of C mw_975) rfl (oM_0 g _) rfl ⟨rfl, rfl, by decide, by decide⟩ rfl hl.1 (Nat.le_of_ble_eq_true rfl) dX8_readRoof_4 (fun H locs Z => ?_)
  refine lv_istore_n (lv' := [(1, .int r4.1), (0, .ref (g.2.2 0))]) hx hb dX8_readRoof_7 rfl hl (by decide) rfl (fun ls hl => ?_)
  refine lv_aload_n hx hb dX8_readRoof_8 rfl (lv_at hl 1 rfl) ?_
  refine gM_0_26 C Z (fl_of C mw_843) dX8_readRoof_9 ?_
  refine lv_iload_n hx hb dX8_readRoof_12 rfl (lv_at hl 0 rfl) ?_
  refine lv_aload_n hx hb dX8_readRoof_13 rfl (lv_at hl 1 rfl) ?_
  refine lv_iconst (v := 0) hx hb dX8_readRoof_14 (by decide +kernel) ?_
  refine lv_bipush (v := 9) hx hb dX8_readRoof_15 (by decide +kernel) ?_
  obtain ⟨r17, hr17, hf⟩ := Option.bind_eq_some_iff.mp hf
  refine call_vi (As := [.int 0, .int 9]) (rest := [.int r4.1, .ref (g.2.2 14)]) C Z (c_X8_takesNumber l hr17) mf_X8_takesNumber (ml_of C mw_975) rfl (oM_0 g _) rfl ⟨rfl, rfl, by decide, by decide⟩ rfl hl.1 (Nat.le_of_ble_eq_true rfl) dX8_readRoof_17 (fun H locs Z => ?_)
  by_cases ho20 : oob r4.1 24 = true
  · rw [if_pos ho20] at hf; cases hf
  rw [if_neg ho20] at hf
  refine r_ast C wokM Z (aM_14 g _ (f := (r17.2.2.1 13)) rfl) ho20 rfl (sM_14 g _ _) dX8_readRoof_20 (fun H locs Z => ?_)
  have hf := Option.some.inj hf
  subst hf
  exact ret_v C Z dX8_readRoof_21
def f_X8_readSmoke (u : St) : Option (St) :=
  Option.bind (f_X8_takesNumber u 0 23) fun r16 =>
  if oob (3 * (u.1 14)) 12 then none else
  Option.bind (f_X8_takesNumber (sA r16.2 20 (upd (r16.2.2.1 20) (Int32.toNatClampNeg (3 * (u.1 14))) r16.1)) 0 29) fun r31 =>
  if oob ((3 * (u.1 14)) + 1) 12 then none else
  Option.bind (f_X8_takesNumber (sA r31.2 20 (upd (r31.2.2.1 20) (Int32.toNatClampNeg ((3 * (u.1 14)) + 1)) r31.1)) ((upd (r31.2.2.1 20) (Int32.toNatClampNeg ((3 * (u.1 14)) + 1)) r31.1) (Int32.toNatClampNeg ((3 * (u.1 14)) + 1))) 29) fun r53 =>
  if oob ((3 * (u.1 14)) + 2) 12 then none else
  some (sI (sA r53.2 20 (upd (r53.2.2.1 20) (Int32.toNatClampNeg ((3 * (u.1 14)) + 2)) r53.1)) 14 ((r53.2.1 14) + 1))
set_option maxHeartbeats 4000000 in
set_option maxRecDepth 100000 in
theorem c_X8_readSmoke (l : Launch) {g : Gx} {u : St} {res : St} (hf : f_X8_readSmoke u = some res) : CV wM 22 l yX8_readSmoke (wsY yX8_readSmoke cX8_readSmoke 2 (none)) (rmX 4 87) g [.ref (g.2.2 0)] u res := by
  refine CV_start (by decide +kernel) rfl (Nat.le_of_ble_eq_true rfl) (fun {p e s m args below meth c ls} C Z hl => ?_)
  have hl : lv_has ls 2 [(0, .ref (g.2.2 0))] := hl
  have hx := C.1
  have hb := C.2.1
  unfold f_X8_readSmoke at hf
  refine lv_iconst (v := 3) hx hb dX8_readSmoke_0 (by decide +kernel) ?_
  refine lv_aload_n hx hb dX8_readSmoke_1 rfl (lv_at hl 0 rfl) ?_
  refine gM_0_35 C Z (fl_of C mw_852) dX8_readSmoke_2 (x := (u.1 14)) rfl ?_
  refine lv_imul hx hb dX8_readSmoke_5 ?_
  refine lv_istore_n (lv' := [(1, .int (3 * (u.1 14))), (0, .ref (g.2.2 0))]) hx hb dX8_readSmoke_6 rfl hl (by decide) rfl (fun ls hl => ?_)
  refine lv_aload_n hx hb dX8_readSmoke_7 rfl (lv_at hl 1 rfl) ?_
  refine gM_0_36 C Z (fl_of C mw_853) dX8_readSmoke_8 ?_
  refine lv_iload_n hx hb dX8_readSmoke_11 rfl (lv_at hl 0 rfl) ?_
  refine lv_aload_n hx hb dX8_readSmoke_12 rfl (lv_at hl 1 rfl) ?_
  refine lv_iconst (v := 0) hx hb dX8_readSmoke_13 (by decide +kernel) ?_
  refine lv_bipush (v := 23) hx hb dX8_readSmoke_14 (by decide +kernel) ?_
  obtain ⟨r16, hr16, hf⟩ := Option.bind_eq_some_iff.mp hf
  refine call_vi (As := [.int 0, .int 23]) (rest := [.int (3 * (u.1 14)), .ref (g.2.2 21)]) C Z (c_X8_takesNumber l hr16) mf_X8_takesNumber (ml_of C mw_975) rfl (oM_0 g _) rfl ⟨rfl, rfl, by decide, by decide⟩ rfl hl.1 (Nat.le_of_ble_eq_true rfl) dX8_readSmoke_16 (fun H locs Z => ?_)
  by_cases ho19 : oob (3 * (u.1 14)) 12 = true
  · rw [if_pos ho19] at hf; cases hf
  rw [if_neg ho19] at hf
  refine r_ast C wokM Z (aM_21 g _ (f := (r16.2.2.1 20)) rfl) ho19 rfl (sM_21 g _ _) dX8_readSmoke_19 (fun H locs Z => ?_)
  refine lv_aload_n hx hb dX8_readSmoke_20 rfl (lv_at hl 1 rfl) ?_
  refine gM_0_36 C Z (fl_of C mw_853) dX8_readSmoke_21 ?_
  refine lv_iload_n hx hb dX8_readSmoke_24 rfl (lv_at hl 0 rfl) ?_
  refine lv_iconst (v := 1) hx hb dX8_readSmoke_25 (by decide +kernel) ?_
  refine lv_iadd hx hb dX8_readSmoke_26 ?_
  refine lv_aload_n hx hb dX8_readSmoke_27 rfl (lv_at hl 1 rfl) ?_
  refine lv_iconst (v := 0) hx hb dX8_readSmoke_28 (by decide +kernel) ?_
  refine lv_bipush (v := 29) hx hb dX8_readSmoke_29 (by decide +kernel) ?_
  obtain ⟨r31, hr31, hf⟩ := Option.bind_eq_some_iff.mp hf
  refine call_vi (As := [.int 0, .int 29]) (rest := [.int ((3 * (u.1 14)) + 1), .ref (g.2.2 21)]) C Z (c_X8_takesNumber l hr31) mf_X8_takesNumber (ml_of C mw_975) rfl (oM_0 g _) rfl ⟨rfl, rfl, by decide, by decide⟩ rfl hl.1 (Nat.le_of_ble_eq_true rfl) dX8_readSmoke_31 (fun H locs Z => ?_)
  by_cases ho34 : oob ((3 * (u.1 14)) + 1) 12 = true
  · rw [if_pos ho34] at hf; cases hf
  rw [if_neg ho34] at hf
  refine r_ast C wokM Z (aM_21 g _ (f := (r31.2.2.1 20)) rfl) ho34 rfl (sM_21 g _ _) dX8_readSmoke_34 (fun H locs Z => ?_)
  refine lv_aload_n hx hb dX8_readSmoke_35 rfl (lv_at hl 1 rfl) ?_
  refine gM_0_36 C Z (fl_of C mw_853) dX8_readSmoke_36 ?_
  refine lv_iload_n hx hb dX8_readSmoke_39 rfl (lv_at hl 0 rfl) ?_
  refine lv_iconst (v := 2) hx hb dX8_readSmoke_40 (by decide +kernel) ?_
  refine lv_iadd hx hb dX8_readSmoke_41 ?_
  refine lv_aload_n hx hb dX8_readSmoke_42 rfl (lv_at hl 1 rfl) ?_
  refine lv_aload_n hx hb dX8_readSmoke_43 rfl (lv_at hl 1 rfl) ?_
  refine gM_0_36 C Z (fl_of C mw_853) dX8_readSmoke_44 ?_
  refine lv_iload_n hx hb dX8_readSmoke_47 rfl (lv_at hl 0 rfl) ?_
  refine lv_iconst (v := 1) hx hb dX8_readSmoke_48 (by decide +kernel) ?_
  refine lv_iadd hx hb dX8_readSmoke_49 ?_
  refine r_ald C Z (aM_21 g _ (f := (upd (r31.2.2.1 20) (Int32.toNatClampNeg ((3 * (u.1 14)) + 1)) r31.1)) rfl) ho34 rfl dX8_readSmoke_50 (x := ((upd (r31.2.2.1 20) (Int32.toNatClampNeg ((3 * (u.1 14)) + 1)) r31.1) (Int32.toNatClampNeg ((3 * (u.1 14)) + 1)))) rfl ?_
  refine lv_bipush (v := 29) hx hb dX8_readSmoke_51 (by decide +kernel) ?_
  obtain ⟨r53, hr53, hf⟩ := Option.bind_eq_some_iff.mp hf
  refine call_vi (As := [.int ((upd (r31.2.2.1 20) (Int32.toNatClampNeg ((3 * (u.1 14)) + 1)) r31.1) (Int32.toNatClampNeg ((3 * (u.1 14)) + 1))), .int 29]) (rest := [.int ((3 * (u.1 14)) + 2), .ref (g.2.2 21)]) C Z (c_X8_takesNumber l hr53) mf_X8_takesNumber (ml_of C mw_975) rfl (oM_0 g _) rfl ⟨rfl, rfl, by decide, by decide⟩ rfl hl.1 (Nat.le_of_ble_eq_true rfl) dX8_readSmoke_53 (fun H locs Z => ?_)
  by_cases ho56 : oob ((3 * (u.1 14)) + 2) 12 = true
  · rw [if_pos ho56] at hf; cases hf
  rw [if_neg ho56] at hf
  refine r_ast C wokM Z (aM_21 g _ (f := (r53.2.2.1 20)) rfl) ho56 rfl (sM_21 g _ _) dX8_readSmoke_56 (fun H locs Z => ?_)
  refine lv_aload_n hx hb dX8_readSmoke_57 rfl (lv_at hl 1 rfl) ?_
  refine lv_dup hx hb dX8_readSmoke_58 rfl ?_
  refine gM_0_35 C Z (fl_of C mw_852) dX8_readSmoke_59 (x := (r53.2.1 14)) rfl ?_
  refine lv_iconst (v := 1) hx hb dX8_readSmoke_62 (by decide +kernel) ?_
  refine lv_iadd hx hb dX8_readSmoke_63 ?_
  refine pM_0_35 C Z (fl_of C mw_852) dX8_readSmoke_64 (fun H locs Z => ?_)
  have hf := Option.some.inj hf
  subst hf
  exact ret_v C Z dX8_readSmoke_67
def f_X8_readBody (u : St) (x1 : Int32) : Option (St) :=
  if x1 = 99 then
    Option.bind (f_X8_readCock u) fun r44 =>
    some r44
  else
  if x1 = 112 then
    Option.bind (f_X8_readOne u) fun r51 =>
    some r51
  else
  if x1 = 114 then
    Option.bind (f_X8_readRoof u) fun r37 =>
    some r37
  else
  Option.bind (f_X8_readSmoke u) fun r58 =>
  some r58
set_option maxHeartbeats 4000000 in
set_option maxRecDepth 100000 in
theorem c_X8_readBody (l : Launch) {g : Gx} {u : St} {x1 : Int32} {res : St} (hf : f_X8_readBody u x1 = some res) : CV wM 22 l yX8_readBody (wsY yX8_readBody cX8_readBody 2 (none)) (rmX 5 108) g [.ref (g.2.2 0), .int x1] u res := by
  refine CV_start (by decide +kernel) rfl (Nat.le_of_ble_eq_true rfl) (fun {p e s m args below meth c ls} C Z hl => ?_)
  have hl : lv_has ls 2 [(0, .ref (g.2.2 0)), (1, .int x1)] := hl
  have hx := C.1
  have hb := C.2.1
  unfold f_X8_readBody at hf
  refine lv_iload_n hx hb dX8_readBody_0 rfl (lv_at hl 1 rfl) ?_
  by_cases hs1_99 : x1 = 99
  · rw [if_pos hs1_99] at hf
    refine lv_lookup (tgt := 43) hx hb dX8_readBody_1 (by decide) (by rw [hs1_99]; first | done | rfl) (by decide) ?_
    refine lv_aload_n hx hb dX8_readBody_43 rfl (lv_at hl 0 rfl) ?_
    obtain ⟨r44, hr44, hf⟩ := Option.bind_eq_some_iff.mp hf
    refine call_vv (As := []) (rest := []) C Z (c_X8_readCock l hr44) mf_X8_readCock (ml_of C mw_979) rfl (oM_0 g _) rfl ⟨rfl, rfl, by decide, by decide⟩ rfl hl.1 (Nat.le_of_ble_eq_true rfl) dX8_readBody_44 (fun H locs Z => ?_)
    refine lv_goto (tgt := 61) hx hb dX8_readBody_47 (by decide) ?_
    have hf := Option.some.inj hf
    subst hf
    exact ret_v C Z dX8_readBody_61
  rw [if_neg hs1_99] at hf
  by_cases hs1_112 : x1 = 112
  · rw [if_pos hs1_112] at hf
    refine lv_lookup (tgt := 50) hx hb dX8_readBody_1 (by decide) (by rw [hs1_112]; first | done | rfl) (by decide) ?_
    refine lv_aload_n hx hb dX8_readBody_50 rfl (lv_at hl 0 rfl) ?_
    obtain ⟨r51, hr51, hf⟩ := Option.bind_eq_some_iff.mp hf
    refine call_vv (As := []) (rest := []) C Z (c_X8_readOne l hr51) mf_X8_readOne (ml_of C mw_983) rfl (oM_0 g _) rfl ⟨rfl, rfl, by decide, by decide⟩ rfl hl.1 (Nat.le_of_ble_eq_true rfl) dX8_readBody_51 (fun H locs Z => ?_)
    refine lv_goto (tgt := 61) hx hb dX8_readBody_54 (by decide) ?_
    have hf := Option.some.inj hf
    subst hf
    exact ret_v C Z dX8_readBody_61
  rw [if_neg hs1_112] at hf
  by_cases hs1_114 : x1 = 114
  · rw [if_pos hs1_114] at hf
    refine lv_lookup (tgt := 36) hx hb dX8_readBody_1 (by decide) (by rw [hs1_114]; first | done | rfl) (by decide) ?_
    refine lv_aload_n hx hb dX8_readBody_36 rfl (lv_at hl 0 rfl) ?_
    obtain ⟨r37, hr37, hf⟩ := Option.bind_eq_some_iff.mp hf
    refine call_vv (As := []) (rest := []) C Z (c_X8_readRoof l hr37) mf_X8_readRoof (ml_of C mw_971) rfl (oM_0 g _) rfl ⟨rfl, rfl, by decide, by decide⟩ rfl hl.1 (Nat.le_of_ble_eq_true rfl) dX8_readBody_37 (fun H locs Z => ?_)
    refine lv_goto (tgt := 61) hx hb dX8_readBody_40 (by decide) ?_
    have hf := Option.some.inj hf
    subst hf
    exact ret_v C Z dX8_readBody_61
  rw [if_neg hs1_114] at hf
  refine lv_lookup (tgt := 57) (off := 56) hx hb dX8_readBody_1 (by decide) (by show Op.lookupswitch.offset [(99, 42), (112, 49), (114, 35)] 56 _ = _; rw [lv_osw hs1_99 (by decide), lv_osw hs1_112 (by decide), lv_osw hs1_114 (by decide)]; rfl) (by decide) ?_
  refine lv_aload_n hx hb dX8_readBody_57 rfl (lv_at hl 0 rfl) ?_
  obtain ⟨r58, hr58, hf⟩ := Option.bind_eq_some_iff.mp hf
  refine call_vv (As := []) (rest := []) C Z (c_X8_readSmoke l hr58) mf_X8_readSmoke (ml_of C mw_987) rfl (oM_0 g _) rfl ⟨rfl, rfl, by decide, by decide⟩ rfl hl.1 (Nat.le_of_ble_eq_true rfl) dX8_readBody_58 (fun H locs Z => ?_)
  have hf := Option.some.inj hf
  subst hf
  exact ret_v C Z dX8_readBody_61
