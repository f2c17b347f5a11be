def f_X7_isWithin (x0 x1 x2 : Int32) : Option (Int32) :=
  if x0 < x1 then
    some 0
  else
    if x2 < x0 then
      some 0
    else
      some 1
set_option maxHeartbeats 4000000 in
set_option maxRecDepth 100000 in
theorem c_X7_isWithin (l : Launch) {g : Gx} {u : St} {x0 x1 x2 : Int32} {res : Int32} (hf : f_X7_isWithin x0 x1 x2 = some res) : CI wC 82 l yX7_isWithin (wsY yX7_isWithin cX7_isWithin 3 (some .boolean)) (rmX 0 0) g [.int x0, .int x1, .int x2] u res u := by
  refine CI_start (by decide +kernel) rfl (Nat.le_of_ble_eq_true rfl) (fun {p e s m args below meth c ls} C Z hl => ?_)
  have hl : lv_has ls 3 [(0, .int x0), (1, .int x1), (2, .int x2)] := hl
  have hx := C.1
  have hb := C.2.1
  unfold f_X7_isWithin at hf
  refine lv_iload_n hx hb dX7_isWithin_0 rfl (lv_at hl 1 rfl) ?_
  refine lv_iload_n hx hb dX7_isWithin_1 rfl (lv_at hl 0 rfl) ?_
  refine lv_icmp_gt (tgt := 14) hx hb dX7_isWithin_2 (by decide) (fun hc2 => ?_) (fun hc2 => ?_)
  · rw [if_pos hc2] at hf
    refine lv_iconst (v := 0) hx hb dX7_isWithin_14 (by decide +kernel) ?_
    have hf := Option.some.inj hf
    subst hf
    exact ret_z C Z rfl dX7_isWithin_15
  · rw [if_neg hc2] at hf
    refine lv_iload_n hx hb dX7_isWithin_5 rfl (lv_at hl 0 rfl) ?_
    refine lv_iload_n hx hb dX7_isWithin_6 rfl (lv_at hl 2 rfl) ?_
    refine lv_icmp_gt (tgt := 14) hx hb dX7_isWithin_7 (by decide) (fun hc7 => ?_) (fun hc7 => ?_)
    · rw [if_pos hc7] at hf
      refine lv_iconst (v := 0) hx hb dX7_isWithin_14 (by decide +kernel) ?_
      have hf := Option.some.inj hf
      subst hf
      exact ret_z C Z rfl dX7_isWithin_15
    · rw [if_neg hc7] at hf
      refine lv_iconst (v := 1) hx hb dX7_isWithin_10 (by decide +kernel) ?_
      refine lv_goto (tgt := 15) hx hb dX7_isWithin_11 (by decide) ?_
      have hf := Option.some.inj hf
      subst hf
      exact ret_z C Z rfl dX7_isWithin_15
def f_X5_append (u : St) (x1 : Int32) : Option (Int32 × St) :=
  if (u.1 0) < 150 then
    if oob (u.1 0) 150 then none else
    some (1, (sI (sA u 0 (upd (u.2.1 0) (Int32.toNatClampNeg (u.1 0)) x1)) 0 ((u.1 0) + 1)))
  else
    some (0, u)
set_option maxHeartbeats 4000000 in
set_option maxRecDepth 100000 in
theorem c_X5_append (l : Launch) {g : Gx} {u : St} {x1 : Int32} {res : Int32 × St} (hf : f_X5_append u x1 = some res) : CI wC 82 l yX5_append (wsY yX5_append cX5_append 2 (some .boolean)) (rmX 0 0) g [.ref (g.2.2 1), .int x1] u res.1 res.2 := by
  refine CI_start (by decide +kernel) rfl (Nat.le_of_ble_eq_true rfl) (fun {p e s m args below meth c ls} C Z hl => ?_)
  have hl : lv_has ls 2 [(0, .ref (g.2.2 1)), (1, .int x1)] := hl
  have hx := C.1
  have hb := C.2.1
  unfold f_X5_append at hf
  refine lv_aload_n hx hb dX5_append_0 rfl (lv_at hl 0 rfl) ?_
  refine gC_1_1 C Z (fl_of C mw_126) dX5_append_1 (x := (u.1 0)) rfl ?_
  refine lv_sipush (v := 150) hx hb dX5_append_4 (by decide +kernel) ?_
  refine lv_icmp_lt (tgt := 12) hx hb dX5_append_7 (by decide) (fun hc7 => ?_) (fun hc7 => ?_)
  · rw [if_pos hc7] at hf
    refine lv_aload_n hx hb dX5_append_12 rfl (lv_at hl 0 rfl) ?_
    refine gC_1_0 C Z (fl_of C mw_125) dX5_append_13 ?_
    refine lv_aload_n hx hb dX5_append_16 rfl (lv_at hl 0 rfl) ?_
    refine gC_1_1 C Z (fl_of C mw_126) dX5_append_17 (x := (u.1 0)) rfl ?_
    refine lv_iload_n hx hb dX5_append_20 rfl (lv_at hl 1 rfl) ?_
    by_cases ho21 : oob (u.1 0) 150 = true
    · rw [if_pos ho21] at hf; cases hf
    rw [if_neg ho21] at hf
    refine r_ast C wokC Z (aC_2 g _ (f := (u.2.1 0)) rfl) ho21 rfl (sC_2 g _ _) dX5_append_21 (fun H locs Z => ?_)
    refine lv_aload_n hx hb dX5_append_22 rfl (lv_at hl 0 rfl) ?_
    refine lv_dup hx hb dX5_append_23 rfl ?_
    refine gC_1_1 C Z (fl_of C mw_126) dX5_append_24 (x := (u.1 0)) rfl ?_
    refine lv_iconst (v := 1) hx hb dX5_append_27 (by decide +kernel) ?_
    refine lv_iadd hx hb dX5_append_28 ?_
    refine pC_1_1 C Z (fl_of C mw_126) dX5_append_29 (fun H locs Z => ?_)
    refine lv_iconst (v := 1) hx hb dX5_append_32 (by decide +kernel) ?_
    have hf := Option.some.inj hf
    subst hf
    exact ret_z C Z rfl dX5_append_33
  · rw [if_neg hc7] at hf
    refine lv_iconst (v := 0) hx hb dX5_append_10 (by decide +kernel) ?_
    have hf := Option.some.inj hf
    subst hf
    exact ret_z C Z rfl dX5_append_11
def f_X7_type (u : St) (x1 : Int32) : Option (Int32 × St) :=
  Option.bind (f_X7_isWithin x1 0 255) fun r5 =>
  if r5 = 0 then
    some ((-1), u)
  else
    Option.bind (f_X5_append u x1) fun r18 =>
    if r18.1 = 0 then
      some ((-3), r18.2)
    else
      some ((r18.2.1 0), r18.2)
set_option maxHeartbeats 4000000 in
set_option maxRecDepth 100000 in
theorem c_X7_type (l : Launch) {g : Gx} {u : St} {x1 : Int32} {res : Int32 × St} (hf : f_X7_type u x1 = some res) : CI wC 82 l yX7_type (wsY yX7_type cX7_type 2 (some .int)) (rmX 1 22) g [.ref (g.2.2 0), .int x1] u res.1 res.2 := by
  refine CI_start (by decide +kernel) rfl (Nat.le_of_ble_eq_true rfl) (fun {p e s m args below meth c ls} C Z hl => ?_)
  have hl : lv_has ls 2 [(0, .ref (g.2.2 0)), (1, .int x1)] := hl
  have hx := C.1
  have hb := C.2.1
  unfold f_X7_type at hf
  refine lv_iload_n hx hb dX7_type_0 rfl (lv_at hl 1 rfl) ?_
  refine lv_iconst (v := 0) hx hb dX7_type_1 (by decide +kernel) ?_
  refine lv_sipush (v := 255) hx hb dX7_type_2 (by decide +kernel) ?_
  obtain ⟨r5, hr5, hf⟩ := Option.bind_eq_some_iff.mp hf
  refine call_si (As := [.int x1, .int 0, .int 255]) (rest := []) C Z (c_X7_isWithin l hr5) mf_X7_isWithin (ml_of C mw_331) rfl ⟨rfl, rfl, by decide, by decide⟩ rfl hl.1 (Nat.le_of_ble_eq_true rfl) dX7_type_5 (fun H locs Z => ?_)
  refine lv_if_ne (tgt := 13) hx hb dX7_type_8 (by decide) (fun hc8 => ?_) (fun hc8 => ?_)
  · rw [if_neg hc8] at hf
    refine lv_aload_n hx hb dX7_type_13 rfl (lv_at hl 0 rfl) ?_
    refine gC_0_0 C Z (fl_of C mw_305) dX7_type_14 ?_
    refine lv_iload_n hx hb dX7_type_17 rfl (lv_at hl 1 rfl) ?_
    obtain ⟨r18, hr18, hf⟩ := Option.bind_eq_some_iff.mp hf
    refine call_vi (As := [.int x1]) (rest := []) C Z (c_X5_append l hr18) mf_X5_append (ml_nest C nw_9) rfl (oC_1 g _) rfl ⟨rfl, rfl, by decide, by decide⟩ rfl hl.1 (Nat.le_of_ble_eq_true rfl) dX7_type_18 (fun H locs Z => ?_)
    refine lv_if_eq (tgt := 34) hx hb dX7_type_21 (by decide) (fun hc21 => ?_) (fun hc21 => ?_)
    · rw [if_pos hc21] at hf
      refine lv_bipush (v := (-3)) hx hb dX7_type_34 (by decide +kernel) ?_
      have hf := Option.some.inj hf
      subst hf
      exact ret_i C Z dX7_type_36
    · rw [if_neg hc21] at hf
      refine lv_aload_n hx hb dX7_type_24 rfl (lv_at hl 0 rfl) ?_
      refine gC_0_0 C Z (fl_of C mw_305) dX7_type_25 ?_
      refine gC_1_1 C Z (fl_nest C nw_69) dX7_type_28 (x := (r18.2.1 0)) rfl ?_
      refine lv_goto (tgt := 36) hx hb dX7_type_31 (by decide) ?_
      have hf := Option.some.inj hf
      subst hf
      exact ret_i C Z dX7_type_36
  · rw [if_pos hc8] at hf
    refine lv_iconst (v := (-1)) hx hb dX7_type_11 (by decide +kernel) ?_
    have hf := Option.some.inj hf
    subst hf
    exact ret_i C Z dX7_type_12
def f_X8_in (x0 x1 x2 : Int32) : Option (Int32) :=
  if x0 < x1 then
    some 0
  else
    if x2 < x0 then
      some 0
    else
      some 1
set_option maxHeartbeats 4000000 in
set_option maxRecDepth 100000 in
theorem c_X8_in (l : Launch) {g : Gx} {u : St} {x0 x1 x2 : Int32} {res : Int32} (hf : f_X8_in x0 x1 x2 = some res) : CI wM 22 l yX8_in (wsY yX8_in cX8_in 3 (some .boolean)) (rmX 0 0) g [.int x0, .int x1, .int x2] u res u := by
  refine CI_start (by decide +kernel) rfl (Nat.le_of_ble_eq_true rfl) (fun {p e s m args below meth c ls} C Z hl => ?_)
  have hl : lv_has ls 3 [(0, .int x0), (1, .int x1), (2, .int x2)] := hl
  have hx := C.1
  have hb := C.2.1
  unfold f_X8_in at hf
  refine lv_iload_n hx hb dX8_in_0 rfl (lv_at hl 0 rfl) ?_
  refine lv_iload_n hx hb dX8_in_1 rfl (lv_at hl 1 rfl) ?_
  refine lv_icmp_lt (tgt := 14) hx hb dX8_in_2 (by decide) (fun hc2 => ?_) (fun hc2 => ?_)
  · rw [if_pos hc2] at hf
    refine lv_iconst (v := 0) hx hb dX8_in_14 (by decide +kernel) ?_
    have hf := Option.some.inj hf
    subst hf
    exact ret_z C Z rfl dX8_in_15
  · rw [if_neg hc2] at hf
    refine lv_iload_n hx hb dX8_in_5 rfl (lv_at hl 0 rfl) ?_
    refine lv_iload_n hx hb dX8_in_6 rfl (lv_at hl 2 rfl) ?_
    refine lv_icmp_gt (tgt := 14) hx hb dX8_in_7 (by decide) (fun hc7 => ?_) (fun hc7 => ?_)
    · rw [if_pos hc7] at hf
      refine lv_iconst (v := 0) hx hb dX8_in_14 (by decide +kernel) ?_
      have hf := Option.some.inj hf
      subst hf
      exact ret_z C Z rfl dX8_in_15
    · rw [if_neg hc7] at hf
      refine lv_iconst (v := 1) hx hb dX8_in_10 (by decide +kernel) ?_
      refine lv_goto (tgt := 15) hx hb dX8_in_11 (by decide) ?_
      have hf := Option.some.inj hf
      subst hf
      exact ret_z C Z rfl dX8_in_15
def f_X8_type (u : St) (x1 : Int32) : Option (Int32 × St) :=
  Option.bind (f_X8_in x1 0 255) fun r5 =>
  if r5 = 0 then
    some ((-1), u)
  else
    if (u.1 5) = 150 then
      some ((-3), u)
    else
      if oob (u.1 5) 150 then none else
      some (((u.1 5) + 1), (sI (sA u 12 (upd (u.2.1 12) (Int32.toNatClampNeg (u.1 5)) x1)) 5 ((u.1 5) + 1)))
set_option maxHeartbeats 4000000 in
set_option maxRecDepth 100000 in
theorem c_X8_type (l : Launch) {g : Gx} {u : St} {x1 : Int32} {res : Int32 × St} (hf : f_X8_type u x1 = some res) : CI wM 22 l yX8_type (wsY yX8_type cX8_type 2 (some .int)) (rmX 1 22) g [.ref (g.2.2 0), .int x1] u res.1 res.2 := by
  refine CI_start (by decide +kernel) rfl (Nat.le_of_ble_eq_true rfl) (fun {p e s m args below meth c ls} C Z hl => ?_)
  have hl : lv_has ls 2 [(0, .ref (g.2.2 0)), (1, .int x1)] := hl
  have hx := C.1
  have hb := C.2.1
  unfold f_X8_type at hf
  refine lv_iload_n hx hb dX8_type_0 rfl (lv_at hl 1 rfl) ?_
  refine lv_iconst (v := 0) hx hb dX8_type_1 (by decide +kernel) ?_
  refine lv_sipush (v := 255) hx hb dX8_type_2 (by decide +kernel) ?_
  obtain ⟨r5, hr5, hf⟩ := Option.bind_eq_some_iff.mp hf
  refine call_si (As := [.int x1, .int 0, .int 255]) (rest := []) C Z (c_X8_in l hr5) mf_X8_in (ml_of C mw_934) rfl ⟨rfl, rfl, by decide, by decide⟩ rfl hl.1 (Nat.le_of_ble_eq_true rfl) dX8_type_5 (fun H locs Z => ?_)
  refine lv_if_ne (tgt := 13) hx hb dX8_type_8 (by decide) (fun hc8 => ?_) (fun hc8 => ?_)
  · rw [if_neg hc8] at hf
    refine lv_aload_n hx hb dX8_type_13 rfl (lv_at hl 0 rfl) ?_
    refine gM_0_19 C Z (fl_of C mw_836) dX8_type_14 (x := (u.1 5)) rfl ?_
    refine lv_sipush (v := 150) hx hb dX8_type_17 (by decide +kernel) ?_
    refine lv_icmp_ne (tgt := 26) hx hb dX8_type_20 (by decide) (fun hc20 => ?_) (fun hc20 => ?_)
    · rw [if_neg hc20] at hf
      refine lv_aload_n hx hb dX8_type_26 rfl (lv_at hl 0 rfl) ?_
      refine gM_0_18 C Z (fl_of C mw_835) dX8_type_27 ?_
      refine lv_aload_n hx hb dX8_type_30 rfl (lv_at hl 0 rfl) ?_
      refine gM_0_19 C Z (fl_of C mw_836) dX8_type_31 (x := (u.1 5)) rfl ?_
      refine lv_iload_n hx hb dX8_type_34 rfl (lv_at hl 1 rfl) ?_
      by_cases ho35 : oob (u.1 5) 150 = true
      · rw [if_pos ho35] at hf; cases hf
      rw [if_neg ho35] at hf
      refine r_ast C wokM Z (aM_13 g _ (f := (u.2.1 12)) rfl) ho35 rfl (sM_13 g _ _) dX8_type_35 (fun H locs Z => ?_)
      refine lv_aload_n hx hb dX8_type_36 rfl (lv_at hl 0 rfl) ?_
      refine lv_dup hx hb dX8_type_37 rfl ?_
      refine gM_0_19 C Z (fl_of C mw_836) dX8_type_38 (x := (u.1 5)) rfl ?_
      refine lv_iconst (v := 1) hx hb dX8_type_41 (by decide +kernel) ?_
      refine lv_iadd hx hb dX8_type_42 ?_
      refine pM_0_19 C Z (fl_of C mw_836) dX8_type_43 (fun H locs Z => ?_)
      refine lv_aload_n hx hb dX8_type_46 rfl (lv_at hl 0 rfl) ?_
      refine gM_0_19 C Z (fl_of C mw_836) dX8_type_47 (x := ((u.1 5) + 1)) rfl ?_
      have hf := Option.some.inj hf
      subst hf
      exact ret_i C Z dX8_type_50
    · rw [if_pos hc20] at hf
      refine lv_bipush (v := (-3)) hx hb dX8_type_23 (by decide +kernel) ?_
      have hf := Option.some.inj hf
      subst hf
      exact ret_i C Z dX8_type_25
  · rw [if_pos hc8] at hf
    refine lv_iconst (v := (-1)) hx hb dX8_type_11 (by decide +kernel) ?_
    have hf := Option.some.inj hf
    subst hf
    exact ret_i C Z dX8_type_12
def f_X5_empty (u : St) : Option (St) :=
  some (sI u 0 0)
set_option maxHeartbeats 4000000 in
set_option maxRecDepth 100000 in
theorem c_X5_empty (l : Launch) {g : Gx} {u : St} {res : St} (hf : f_X5_empty u = some res) : CV wC 82 l yX5_empty (wsY yX5_empty cX5_empty 1 (none)) (rmX 0 0) g [.ref (g.2.2 1)] u res := by
  refine CV_start (by decide +kernel) rfl (Nat.le_of_ble_eq_true rfl) (fun {p e s m args below meth c ls} C Z hl => ?_)
  have hl : lv_has ls 1 [(0, .ref (g.2.2 1))] := hl
  have hx := C.1
  have hb := C.2.1
  unfold f_X5_empty at hf
  refine lv_aload_n hx hb dX5_empty_0 rfl (lv_at hl 0 rfl) ?_
  refine lv_iconst (v := 0) hx hb dX5_empty_1 (by decide +kernel) ?_
  refine pC_1_1 C Z (fl_of C mw_126) dX5_empty_2 (fun H locs Z => ?_)
  have hf := Option.some.inj hf
  subst hf
  exact ret_v C Z dX5_empty_5
def f_X7_clear (u : St) : Option (Int32 × St) :=
  Option.bind (f_X5_empty u) fun r12 =>
  some ((u.1 0), r12)
set_option maxHeartbeats 4000000 in
set_option maxRecDepth 100000 in
theorem c_X7_clear (l : Launch) {g : Gx} {u : St} {res : Int32 × St} (hf : f_X7_clear u = some res) : CI wC 82 l yX7_clear (wsY yX7_clear cX7_clear 2 (some .int)) (rmX 1 20) g [.ref (g.2.2 0)] u res.1 res.2 := by
  refine CI_start (by decide +kernel) rfl (Nat.le_of_ble_eq_true rfl) (fun {p e s m args below meth c ls} C Z hl => ?_)
  have hl : lv_has ls 2 [(0, .ref (g.2.2 0))] := hl
  have hx := C.1
  have hb := C.2.1
  unfold f_X7_clear at hf
  refine lv_aload_n hx hb dX7_clear_0 rfl (lv_at hl 0 rfl) ?_
  refine gC_0_0 C Z (fl_of C mw_305) dX7_clear_1 ?_
  refine gC_1_1 C Z (fl_nest C nw_69) dX7_clear_4 (x := (u.1 0)) rfl ?_
  refine lv_istore_n (lv' := [(1, .int (u.1 0)), (0, .ref (g.2.2 0))]) hx hb dX7_clear_7 rfl hl (by decide) rfl (fun ls hl => ?_)
  refine lv_aload_n hx hb dX7_clear_8 rfl (lv_at hl 1 rfl) ?_
  refine gC_0_0 C Z (fl_of C mw_305) dX7_clear_9 ?_
  obtain ⟨r12, hr12, hf⟩ := Option.bind_eq_some_iff.mp hf
  refine call_vv (As := []) (rest := []) C Z (c_X5_empty l hr12) mf_X5_empty (ml_nest C nw_10) rfl (oC_1 g _) rfl ⟨rfl, rfl, by decide, by decide⟩ rfl hl.1 (Nat.le_of_ble_eq_true rfl) dX7_clear_12 (fun H locs Z => ?_)
  refine lv_iload_n hx hb dX7_clear_15 rfl (lv_at hl 0 rfl) ?_
  have hf := Option.some.inj hf
  subst hf
  exact ret_i C Z dX7_clear_16
def f_X8_clear (u : St) : Option (Int32 × St) :=
  some ((u.1 5), (sI u 5 0))
set_option maxHeartbeats 4000000 in
set_option maxRecDepth 100000 in
theorem c_X8_clear (l : Launch) {g : Gx} {u : St} {res : Int32 × St} (hf : f_X8_clear u = some res) : CI wM 22 l yX8_clear (wsY yX8_clear cX8_clear 2 (some .int)) (rmX 0 0) g [.ref (g.2.2 0)] u res.1 res.2 := by
  refine CI_start (by decide +kernel) rfl (Nat.le_of_ble_eq_true rfl) (fun {p e s m args below meth c ls} C Z hl => ?_)
  have hl : lv_has ls 2 [(0, .ref (g.2.2 0))] := hl
  have hx := C.1
  have hb := C.2.1
  unfold f_X8_clear at hf
  refine lv_aload_n hx hb dX8_clear_0 rfl (lv_at hl 0 rfl) ?_
  refine gM_0_19 C Z (fl_of C mw_836) dX8_clear_1 (x := (u.1 5)) rfl ?_
  refine lv_istore_n (lv' := [(1, .int (u.1 5)), (0, .ref (g.2.2 0))]) hx hb dX8_clear_4 rfl hl (by decide) rfl (fun ls hl => ?_)
  refine lv_aload_n hx hb dX8_clear_5 rfl (lv_at hl 1 rfl) ?_
  refine lv_iconst (v := 0) hx hb dX8_clear_6 (by decide +kernel) ?_
  refine pM_0_19 C Z (fl_of C mw_836) dX8_clear_7 (fun H locs Z => ?_)
  refine lv_iload_n hx hb dX8_clear_10 rfl (lv_at hl 0 rfl) ?_
  have hf := Option.some.inj hf
  subst hf
  exact ret_i C Z dX8_clear_11
def f_X1_empty (u : St) : Option (St) :=
  some (sI (sI (sI (sA u 1 (fun _ => 0)) 4 0) 5 0) 6 0)
set_option maxHeartbeats 4000000 in
set_option maxRecDepth 100000 in
theorem c_X1_empty (l : Launch) {g : Gx} {u : St} {res : St} (hf : f_X1_empty u = some res) : CV wC 82 l yX1_empty (wsY yX1_empty cX1_empty 1 (none)) (rmX 1 23) g [.ref (g.2.2 4)] u res := by
  refine CV_start (by decide +kernel) rfl (Nat.le_of_ble_eq_true rfl) (fun {p e s m args below meth c ls} C Z hl => ?_)
  have hl : lv_has ls 1 [(0, .ref (g.2.2 4))] := hl
  have hx := C.1
  have hb := C.2.1
  unfold f_X1_empty at hf
  refine lv_aload_n hx hb dX1_empty_0 rfl (lv_at hl 0 rfl) ?_
  refine gC_4_0 C Z (fl_of C mw_159) dX1_empty_1 ?_
  refine lv_iconst (v := 0) hx hb dX1_empty_4 (by decide +kernel) ?_
  refine call_sv (As := [.ref (g.2.2 5), .int 0]) (rest := []) C Z (c_fill l (q := 5) (j := 1) (N := 24) (a := g.2.2 5) (fun u => aC_5 g u rfl) (fun u f => sC_5 g u f) (by decide) 0) mf_J7_fill_53178 (ml_of C mw_358) rfl ⟨rfl, rfl, by decide, by decide⟩ rfl hl.1 (Nat.le_of_ble_eq_true rfl) dX1_empty_5 (fun H locs Z => ?_)
  refine lv_aload_n hx hb dX1_empty_8 rfl (lv_at hl 0 rfl) ?_
  refine lv_iconst (v := 0) hx hb dX1_empty_9 (by decide +kernel) ?_
  refine pC_4_4 C Z (fl_of C mw_169) dX1_empty_10 (fun H locs Z => ?_)
  refine lv_aload_n hx hb dX1_empty_13 rfl (lv_at hl 0 rfl) ?_
  refine lv_iconst (v := 0) hx hb dX1_empty_14 (by decide +kernel) ?_
  refine pC_4_5 C Z (fl_of C mw_173) dX1_empty_15 (fun H locs Z => ?_)
  refine lv_aload_n hx hb dX1_empty_18 rfl (lv_at hl 0 rfl) ?_
  refine lv_iconst (v := 0) hx hb dX1_empty_19 (by decide +kernel) ?_
  refine pC_4_6 C Z (fl_of C mw_177) dX1_empty_20 (fun H locs Z => ?_)
  have hf := Option.some.inj hf
  subst hf
  exact ret_v C Z dX1_empty_23
def f_X5_rewind (u : St) : Option (St) :=
  some (sI u 1 0)
set_option maxHeartbeats 4000000 in
set_option maxRecDepth 100000 in
theorem c_X5_rewind (l : Launch) {g : Gx} {u : St} {res : St} (hf : f_X5_rewind u = some res) : CV wC 82 l yX5_rewind (wsY yX5_rewind cX5_rewind 1 (none)) (rmX 0 0) g [.ref (g.2.2 1)] u res := by
  refine CV_start (by decide +kernel) rfl (Nat.le_of_ble_eq_true rfl) (fun {p e s m args below meth c ls} C Z hl => ?_)
  have hl : lv_has ls 1 [(0, .ref (g.2.2 1))] := hl
  have hx := C.1
  have hb := C.2.1
  unfold f_X5_rewind at hf
  refine lv_aload_n hx hb dX5_rewind_0 rfl (lv_at hl 0 rfl) ?_
  refine lv_iconst (v := 0) hx hb dX5_rewind_1 (by decide +kernel) ?_
  refine pC_1_2 C Z (fl_of C mw_128) dX5_rewind_2 (fun H locs Z => ?_)
  have hf := Option.some.inj hf
  subst hf
  exact ret_v C Z dX5_rewind_5
def f_X5_isLetter (x0 : Int32) : Option (Int32) :=
  if x0 < 97 then
    some 0
  else
    if 122 < x0 then
      some 0
    else
      some 1
set_option maxHeartbeats 4000000 in
set_option maxRecDepth 100000 in
theorem c_X5_isLetter (l : Launch) {g : Gx} {u : St} {x0 : Int32} {res : Int32} (hf : f_X5_isLetter x0 = some res) : CI wC 82 l yX5_isLetter (wsY yX5_isLetter cX5_isLetter 1 (some .boolean)) (rmX 0 0) g [.int x0] u res u := by
  refine CI_start (by decide +kernel) rfl (Nat.le_of_ble_eq_true rfl) (fun {p e s m args below meth c ls} C Z hl => ?_)
  have hl : lv_has ls 1 [(0, .int x0)] := hl
  have hx := C.1
  have hb := C.2.1
  unfold f_X5_isLetter at hf
  refine lv_bipush (v := 97) hx hb dX5_isLetter_0 (by decide +kernel) ?_
  refine lv_iload_n hx hb dX5_isLetter_2 rfl (lv_at hl 0 rfl) ?_
  refine lv_icmp_gt (tgt := 16) hx hb dX5_isLetter_3 (by decide) (fun hc3 => ?_) (fun hc3 => ?_)
  · rw [if_pos hc3] at hf
    refine lv_iconst (v := 0) hx hb dX5_isLetter_16 (by decide +kernel) ?_
    have hf := Option.some.inj hf
    subst hf
    exact ret_z C Z rfl dX5_isLetter_17
  · rw [if_neg hc3] at hf
    refine lv_iload_n hx hb dX5_isLetter_6 rfl (lv_at hl 0 rfl) ?_
    refine lv_bipush (v := 122) hx hb dX5_isLetter_7 (by decide +kernel) ?_
    refine lv_icmp_gt (tgt := 16) hx hb dX5_isLetter_9 (by decide) (fun hc9 => ?_) (fun hc9 => ?_)
    · rw [if_pos hc9] at hf
      refine lv_iconst (v := 0) hx hb dX5_isLetter_16 (by decide +kernel) ?_
      have hf := Option.some.inj hf
      subst hf
      exact ret_z C Z rfl dX5_isLetter_17
    · rw [if_neg hc9] at hf
      refine lv_iconst (v := 1) hx hb dX5_isLetter_12 (by decide +kernel) ?_
      refine lv_goto (tgt := 17) hx hb dX5_isLetter_13 (by decide) ?_
      have hf := Option.some.inj hf
      subst hf
      exact ret_z C Z rfl dX5_isLetter_17
def f_X5_isDigit (x0 : Int32) : Option (Int32) :=
  if x0 < 48 then
    some 0
  else
    if 57 < x0 then
      some 0
    else
      some 1
set_option maxHeartbeats 4000000 in
set_option maxRecDepth 100000 in
theorem c_X5_isDigit (l : Launch) {g : Gx} {u : St} {x0 : Int32} {res : Int32} (hf : f_X5_isDigit x0 = some res) : CI wC 82 l yX5_isDigit (wsY yX5_isDigit cX5_isDigit 1 (some .boolean)) (rmX 0 0) g [.int x0] u res u := by
  refine CI_start (by decide +kernel) rfl (Nat.le_of_ble_eq_true rfl) (fun {p e s m args below meth c ls} C Z hl => ?_)
  have hl : lv_has ls 1 [(0, .int x0)] := hl
  have hx := C.1
  have hb := C.2.1
  unfold f_X5_isDigit at hf
  refine lv_bipush (v := 48) hx hb dX5_isDigit_0 (by decide +kernel) ?_
  refine lv_iload_n hx hb dX5_isDigit_2 rfl (lv_at hl 0 rfl) ?_
  refine lv_icmp_gt (tgt := 16) hx hb dX5_isDigit_3 (by decide) (fun hc3 => ?_) (fun hc3 => ?_)
  · rw [if_pos hc3] at hf
    refine lv_iconst (v := 0) hx hb dX5_isDigit_16 (by decide +kernel) ?_
    have hf := Option.some.inj hf
    subst hf
    exact ret_z C Z rfl dX5_isDigit_17
  · rw [if_neg hc3] at hf
    refine lv_iload_n hx hb dX5_isDigit_6 rfl (lv_at hl 0 rfl) ?_
    refine lv_bipush (v := 57) hx hb dX5_isDigit_7 (by decide +kernel) ?_
    refine lv_icmp_gt (tgt := 16) hx hb dX5_isDigit_9 (by decide) (fun hc9 => ?_) (fun hc9 => ?_)
    · rw [if_pos hc9] at hf
      refine lv_iconst (v := 0) hx hb dX5_isDigit_16 (by decide +kernel) ?_
      have hf := Option.some.inj hf
      subst hf
      exact ret_z C Z rfl dX5_isDigit_17
    · rw [if_neg hc9] at hf
      refine lv_iconst (v := 1) hx hb dX5_isDigit_12 (by decide +kernel) ?_
      refine lv_goto (tgt := 17) hx hb dX5_isDigit_13 (by decide) ?_
      have hf := Option.some.inj hf
      subst hf
      exact ret_z C Z rfl dX5_isDigit_17
