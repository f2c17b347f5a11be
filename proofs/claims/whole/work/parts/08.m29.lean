def f_X7_forget (u : St) : Option (Int32 × St) :=
  Option.bind (f_X0_drop u) fun r20 =>
  some (((u.1 13) + (u.1 14)), r20)
set_option maxHeartbeats 4000000 in
set_option maxRecDepth 100000 in
theorem c_X7_forget (l : Launch) {g : Gx} {u : St} {res : Int32 × St} (hf : f_X7_forget u = some res) : CI wC 82 l yX7_forget (wsY yX7_forget cX7_forget 2 (some .int)) (rmX 1 20) g [.ref (g.2.2 0)] u res.1 res.2 := by
  refine CI_start (by decide +kernel) rfl (Nat.le_of_ble_eq_true rfl) (fun {p e s m args below meth c ls} C Z hl => ?_)
  have hl : lv_has ls 2 [(0, .ref (g.2.2 0))] := hl
  have hx := C.1
  have hb := C.2.1
  unfold f_X7_forget at hf
  refine lv_aload_n hx hb dX7_forget_0 rfl (lv_at hl 0 rfl) ?_
  refine gC_0_3 C Z (fl_of C mw_308) dX7_forget_1 ?_
  refine gC_53_2 C Z (fl_nest C nw_101) dX7_forget_4 (x := (u.1 13)) rfl ?_
  refine lv_aload_n hx hb dX7_forget_7 rfl (lv_at hl 0 rfl) ?_
  refine gC_0_3 C Z (fl_of C mw_308) dX7_forget_8 ?_
  refine gC_53_5 C Z (fl_nest C nw_102) dX7_forget_11 (x := (u.1 14)) rfl ?_
  refine lv_iadd hx hb dX7_forget_14 ?_
  refine lv_istore_n (lv' := [(1, .int ((u.1 13) + (u.1 14))), (0, .ref (g.2.2 0))]) hx hb dX7_forget_15 rfl hl (by decide) rfl (fun ls hl => ?_)
  refine lv_aload_n hx hb dX7_forget_16 rfl (lv_at hl 1 rfl) ?_
  refine gC_0_3 C Z (fl_of C mw_308) dX7_forget_17 ?_
  obtain ⟨r20, hr20, hf⟩ := Option.bind_eq_some_iff.mp hf
  refine call_vv (As := []) (rest := []) C Z (c_X0_drop l hr20) mf_X0_drop (ml_nest C nw_23) rfl (oC_53 g _) rfl ⟨rfl, rfl, by decide, by decide⟩ rfl hl.1 (Nat.le_of_ble_eq_true rfl) dX7_forget_20 (fun H locs Z => ?_)
  refine lv_iload_n hx hb dX7_forget_23 rfl (lv_at hl 0 rfl) ?_
  have hf := Option.some.inj hf
  subst hf
  exact ret_i C Z dX7_forget_24
def f_X8_forget (u : St) : Option (Int32 × St) :=
  some (((u.1 3) + (u.1 4)), (sI (sI u 3 0) 4 0))
set_option maxHeartbeats 4000000 in
set_option maxRecDepth 100000 in
theorem c_X8_forget (l : Launch) {g : Gx} {u : St} {res : Int32 × St} (hf : f_X8_forget u = some res) : CI wM 22 l yX8_forget (wsY yX8_forget cX8_forget 2 (some .int)) (rmX 0 0) g [.ref (g.2.2 0)] u res.1 res.2 := by
  refine CI_start (by decide +kernel) rfl (Nat.le_of_ble_eq_true rfl) (fun {p e s m args below meth c ls} C Z hl => ?_)
  have hl : lv_has ls 2 [(0, .ref (g.2.2 0))] := hl
  have hx := C.1
  have hb := C.2.1
  unfold f_X8_forget at hf
  refine lv_aload_n hx hb dX8_forget_0 rfl (lv_at hl 0 rfl) ?_
  refine gM_0_13 C Z (fl_of C mw_830) dX8_forget_1 (x := (u.1 3)) rfl ?_
  refine lv_aload_n hx hb dX8_forget_4 rfl (lv_at hl 0 rfl) ?_
  refine gM_0_15 C Z (fl_of C mw_832) dX8_forget_5 (x := (u.1 4)) rfl ?_
  refine lv_iadd hx hb dX8_forget_8 ?_
  refine lv_istore_n (lv' := [(1, .int ((u.1 3) + (u.1 4))), (0, .ref (g.2.2 0))]) hx hb dX8_forget_9 rfl hl (by decide) rfl (fun ls hl => ?_)
  refine lv_aload_n hx hb dX8_forget_10 rfl (lv_at hl 1 rfl) ?_
  refine lv_iconst (v := 0) hx hb dX8_forget_11 (by decide +kernel) ?_
  refine pM_0_13 C Z (fl_of C mw_830) dX8_forget_12 (fun H locs Z => ?_)
  refine lv_aload_n hx hb dX8_forget_15 rfl (lv_at hl 1 rfl) ?_
  refine lv_iconst (v := 0) hx hb dX8_forget_16 (by decide +kernel) ?_
  refine pM_0_15 C Z (fl_of C mw_832) dX8_forget_17 (fun H locs Z => ?_)
  refine lv_iload_n hx hb dX8_forget_20 rfl (lv_at hl 0 rfl) ?_
  have hf := Option.some.inj hf
  subst hf
  exact ret_i C Z dX8_forget_21
def f_X2_markAsCock (u : St) (x2 : Int32) : Option (Int32 × St) :=
  Option.bind (f_X6_eyeOf (sJ u (u.2.2 + 1)) x2) fun r12 =>
  some (r12, (sJ u (u.2.2 + 1)))
set_option maxHeartbeats 4000000 in
set_option maxRecDepth 100000 in
theorem c_X2_markAsCock (l : Launch) {g : Gx} {u : St} {x2 : Int32} {res : Int32 × St} (hf : f_X2_markAsCock u x2 = some res) : CI wC 82 l yX2_markAsCock (wsY yX2_markAsCock cX2_markAsCock 3 (some .int)) (rmX 1 21) g [.ref (g.2.2 58), .ref (g.2.2 23), .int x2] u res.1 res.2 := by
  refine CI_start (by decide +kernel) rfl (Nat.le_of_ble_eq_true rfl) (fun {p e s m args below meth c ls} C Z hl => ?_)
  have hl : lv_has ls 3 [(0, .ref (g.2.2 58)), (1, .ref (g.2.2 23)), (2, .int x2)] := hl
  have hx := C.1
  have hb := C.2.1
  unfold f_X2_markAsCock at hf
  refine lv_aload_n hx hb dX2_markAsCock_0 rfl (lv_at hl 0 rfl) ?_
  refine lv_dup hx hb dX2_markAsCock_1 rfl ?_
  refine gC_58_0 C Z (fl_of C mw_297) dX2_markAsCock_2 (x := u.2.2) rfl ?_
  refine lv_lconst (v := 1) hx hb dX2_markAsCock_5 (by decide +kernel) ?_
  refine lv_ladd hx hb dX2_markAsCock_6 ?_
  refine pC_58_0 C Z (fl_of C mw_297) dX2_markAsCock_7 (fun H locs Z => ?_)
  refine lv_aload_n hx hb dX2_markAsCock_10 rfl (lv_at hl 1 rfl) ?_
  refine lv_iload_n hx hb dX2_markAsCock_11 rfl (lv_at hl 2 rfl) ?_
  obtain ⟨r12, hr12, hf⟩ := Option.bind_eq_some_iff.mp hf
  refine call_vi (As := [.int x2]) (rest := []) C Z (c_X6_eyeOf l hr12) mf_X6_eyeOf (ml_nest C nw_65) rfl (oC_23 g _) rfl ⟨rfl, rfl, by decide, by decide⟩ rfl hl.1 (Nat.le_of_ble_eq_true rfl) dX2_markAsCock_12 (fun H locs Z => ?_)
  have hf := Option.some.inj hf
  subst hf
  exact ret_i C Z dX2_markAsCock_15
def f_X2_markAsGold (u : St) (x2 : Int32) : Option (Int32 × St) :=
  Option.bind (f_X2_markAsCock (sJ u (u.2.2 + 10)) x2) fun r15 =>
  Option.bind (f_X3_tellingOf r15.2 x2) fun r23 =>
  some ((r15.1 + r23), r15.2)
set_option maxHeartbeats 4000000 in
set_option maxRecDepth 100000 in
theorem c_X2_markAsGold (l : Launch) {g : Gx} {u : St} {x2 : Int32} {res : Int32 × St} (hf : f_X2_markAsGold u x2 = some res) : CI wC 82 l yX2_markAsGold (wsY yX2_markAsGold cX2_markAsGold 3 (some .int)) (rmX 2 43) g [.ref (g.2.2 58), .ref (g.2.2 23), .int x2] u res.1 res.2 := by
  refine CI_start (by decide +kernel) rfl (Nat.le_of_ble_eq_true rfl) (fun {p e s m args below meth c ls} C Z hl => ?_)
  have hl : lv_has ls 3 [(0, .ref (g.2.2 58)), (1, .ref (g.2.2 23)), (2, .int x2)] := hl
  have hx := C.1
  have hb := C.2.1
  unfold f_X2_markAsGold at hf
  refine lv_aload_n hx hb dX2_markAsGold_0 rfl (lv_at hl 0 rfl) ?_
  refine lv_dup hx hb dX2_markAsGold_1 rfl ?_
  refine gC_58_0 C Z (fl_of C mw_297) dX2_markAsGold_2 (x := u.2.2) rfl ?_
  refine lv_ldc2 (v := 10) hx hb C.2.2.2.1 (C.2.2.2.2.1 _ mw_766) dX2_markAsGold_5 ?_
  refine lv_ladd hx hb dX2_markAsGold_8 ?_
  refine pC_58_0 C Z (fl_of C mw_297) dX2_markAsGold_9 (fun H locs Z => ?_)
  refine lv_aload_n hx hb dX2_markAsGold_12 rfl (lv_at hl 0 rfl) ?_
  refine lv_aload_n hx hb dX2_markAsGold_13 rfl (lv_at hl 1 rfl) ?_
  refine lv_iload_n hx hb dX2_markAsGold_14 rfl (lv_at hl 2 rfl) ?_
  obtain ⟨r15, hr15, hf⟩ := Option.bind_eq_some_iff.mp hf
  refine call_vi (As := [.ref (g.2.2 23), .int x2]) (rest := []) C Z (c_X2_markAsCock l hr15) mf_X2_markAsCock (ml_of C mw_757) rfl (oC_58 g _) rfl ⟨rfl, rfl, by decide, by decide⟩ rfl hl.1 (Nat.le_of_ble_eq_true rfl) dX2_markAsGold_15 (fun H locs Z => ?_)
  refine lv_aload_n hx hb dX2_markAsGold_18 rfl (lv_at hl 1 rfl) ?_
  refine gC_23_1 C Z (fl_nest C nw_99) dX2_markAsGold_19 ?_
  refine lv_iload_n hx hb dX2_markAsGold_22 rfl (lv_at hl 2 rfl) ?_
  obtain ⟨r23, hr23, hf⟩ := Option.bind_eq_some_iff.mp hf
  refine call_vi (As := [.int x2]) (rest := [.int r15.1]) C Z (c_X3_tellingOf l hr23) mf_X3_tellingOf (ml_nest C nw_66) rfl (oC_42 g _) rfl ⟨rfl, rfl, by decide, by decide⟩ rfl hl.1 (Nat.le_of_ble_eq_true rfl) dX2_markAsGold_23 (fun H locs Z => ?_)
  refine lv_iadd hx hb dX2_markAsGold_26 ?_
  have hf := Option.some.inj hf
  subst hf
  exact ret_i C Z dX2_markAsGold_27
def f_X2_markAsIron (u : St) (x2 : Int32) : Option (Int32 × St) :=
  Option.bind (f_X2_markAsCock (sJ u (u.2.2 + 100)) x2) fun r15 =>
  if oob x2 5 then none else
  some ((r15.1 - ((r15.2.2.1 (17 + (Int32.toNatClampNeg x2))) 0)), r15.2)
set_option maxHeartbeats 4000000 in
set_option maxRecDepth 100000 in
theorem c_X2_markAsIron (l : Launch) {g : Gx} {u : St} {x2 : Int32} {res : Int32 × St} (hf : f_X2_markAsIron u x2 = some res) : CI wC 82 l yX2_markAsIron (wsY yX2_markAsIron cX2_markAsIron 3 (some .int)) (rmX 2 43) g [.ref (g.2.2 58), .ref (g.2.2 23), .int x2] u res.1 res.2 := by
  refine CI_start (by decide +kernel) rfl (Nat.le_of_ble_eq_true rfl) (fun {p e s m args below meth c ls} C Z hl => ?_)
  have hl : lv_has ls 3 [(0, .ref (g.2.2 58)), (1, .ref (g.2.2 23)), (2, .int x2)] := hl
  have hx := C.1
  have hb := C.2.1
  unfold f_X2_markAsIron at hf
  refine lv_aload_n hx hb dX2_markAsIron_0 rfl (lv_at hl 0 rfl) ?_
  refine lv_dup hx hb dX2_markAsIron_1 rfl ?_
  refine gC_58_0 C Z (fl_of C mw_297) dX2_markAsIron_2 (x := u.2.2) rfl ?_
  refine lv_ldc2 (v := 100) hx hb C.2.2.2.1 (C.2.2.2.2.1 _ mw_772) dX2_markAsIron_5 ?_
  refine lv_ladd hx hb dX2_markAsIron_8 ?_
  refine pC_58_0 C Z (fl_of C mw_297) dX2_markAsIron_9 (fun H locs Z => ?_)
  refine lv_aload_n hx hb dX2_markAsIron_12 rfl (lv_at hl 0 rfl) ?_
  refine lv_aload_n hx hb dX2_markAsIron_13 rfl (lv_at hl 1 rfl) ?_
  refine lv_iload_n hx hb dX2_markAsIron_14 rfl (lv_at hl 2 rfl) ?_
  obtain ⟨r15, hr15, hf⟩ := Option.bind_eq_some_iff.mp hf
  refine call_vi (As := [.ref (g.2.2 23), .int x2]) (rest := []) C Z (c_X2_markAsCock l hr15) mf_X2_markAsCock (ml_of C mw_757) rfl (oC_58 g _) rfl ⟨rfl, rfl, by decide, by decide⟩ rfl hl.1 (Nat.le_of_ble_eq_true rfl) dX2_markAsIron_15 (fun H locs Z => ?_)
  refine lv_aload_n hx hb dX2_markAsIron_18 rfl (lv_at hl 1 rfl) ?_
  refine gC_23_0 C Z (fl_nest C nw_97) dX2_markAsIron_19 ?_
  refine gC_24_1 C Z (fl_nest C nw_75) dX2_markAsIron_22 ?_
  refine lv_iload_n hx hb dX2_markAsIron_25 rfl (lv_at hl 2 rfl) ?_
  by_cases ho26 : oob x2 5 = true
  · rw [if_pos ho26] at hf; cases hf
  rw [if_neg ho26] at hf
  refine r_aldr C Z (aC_26 g _) ho26 dX2_markAsIron_26 (b := g.2.2 (27 + (Int32.toNatClampNeg x2))) rfl ?_
  refine lv_iconst (v := 0) hx hb dX2_markAsIron_27 (by decide +kernel) ?_
  refine r_ald C Z (arC_26 g _ (oob_lt ho26) (f := (r15.2.2.1 (17 + (Int32.toNatClampNeg x2)))) rfl) (by decide) (k := 0) (by decide) dX2_markAsIron_28 (x := ((r15.2.2.1 (17 + (Int32.toNatClampNeg x2))) 0)) rfl ?_
  refine lv_isub hx hb dX2_markAsIron_29 ?_
  have hf := Option.some.inj hf
  subst hf
  exact ret_i C Z dX2_markAsIron_30
def f_X2_markAsDean (u : St) (x2 : Int32) : Option (Int32 × St) :=
  Option.bind (f_X2_markAsGold (sJ u (u.2.2 + 1000)) x2) fun r15 =>
  some ((r15.1 * 2), r15.2)
set_option maxHeartbeats 4000000 in
set_option maxRecDepth 100000 in
theorem c_X2_markAsDean (l : Launch) {g : Gx} {u : St} {x2 : Int32} {res : Int32 × St} (hf : f_X2_markAsDean u x2 = some res) : CI wC 82 l yX2_markAsDean (wsY yX2_markAsDean cX2_markAsDean 3 (some .int)) (rmX 3 65) g [.ref (g.2.2 58), .ref (g.2.2 23), .int x2] u res.1 res.2 := by
  refine CI_start (by decide +kernel) rfl (Nat.le_of_ble_eq_true rfl) (fun {p e s m args below meth c ls} C Z hl => ?_)
  have hl : lv_has ls 3 [(0, .ref (g.2.2 58)), (1, .ref (g.2.2 23)), (2, .int x2)] := hl
  have hx := C.1
  have hb := C.2.1
  unfold f_X2_markAsDean at hf
  refine lv_aload_n hx hb dX2_markAsDean_0 rfl (lv_at hl 0 rfl) ?_
  refine lv_dup hx hb dX2_markAsDean_1 rfl ?_
  refine gC_58_0 C Z (fl_of C mw_297) dX2_markAsDean_2 (x := u.2.2) rfl ?_
  refine lv_ldc2 (v := 1000) hx hb C.2.2.2.1 (C.2.2.2.2.1 _ mw_777) dX2_markAsDean_5 ?_
  refine lv_ladd hx hb dX2_markAsDean_8 ?_
  refine pC_58_0 C Z (fl_of C mw_297) dX2_markAsDean_9 (fun H locs Z => ?_)
  refine lv_aload_n hx hb dX2_markAsDean_12 rfl (lv_at hl 0 rfl) ?_
  refine lv_aload_n hx hb dX2_markAsDean_13 rfl (lv_at hl 1 rfl) ?_
  refine lv_iload_n hx hb dX2_markAsDean_14 rfl (lv_at hl 2 rfl) ?_
  obtain ⟨r15, hr15, hf⟩ := Option.bind_eq_some_iff.mp hf
  refine call_vi (As := [.ref (g.2.2 23), .int x2]) (rest := []) C Z (c_X2_markAsGold l hr15) mf_X2_markAsGold (ml_of C mw_762) rfl (oC_58 g _) rfl ⟨rfl, rfl, by decide, by decide⟩ rfl hl.1 (Nat.le_of_ble_eq_true rfl) dX2_markAsDean_15 (fun H locs Z => ?_)
  refine lv_iconst (v := 2) hx hb dX2_markAsDean_18 (by decide +kernel) ?_
  refine lv_imul hx hb dX2_markAsDean_19 ?_
  have hf := Option.some.inj hf
  subst hf
  exact ret_i C Z dX2_markAsDean_20
def f_X2_markAsBarn (u : St) (x2 : Int32) : Option (Int32 × St) :=
  Option.bind (f_X2_markAsIron (sJ u (u.2.2 + 10000)) x2) fun r15 =>
  some ((r15.1 + x2), r15.2)
set_option maxHeartbeats 4000000 in
set_option maxRecDepth 100000 in
theorem c_X2_markAsBarn (l : Launch) {g : Gx} {u : St} {x2 : Int32} {res : Int32 × St} (hf : f_X2_markAsBarn u x2 = some res) : CI wC 82 l yX2_markAsBarn (wsY yX2_markAsBarn cX2_markAsBarn 3 (some .int)) (rmX 3 65) g [.ref (g.2.2 58), .ref (g.2.2 23), .int x2] u res.1 res.2 := by
  refine CI_start (by decide +kernel) rfl (Nat.le_of_ble_eq_true rfl) (fun {p e s m args below meth c ls} C Z hl => ?_)
  have hl : lv_has ls 3 [(0, .ref (g.2.2 58)), (1, .ref (g.2.2 23)), (2, .int x2)] := hl
  have hx := C.1
  have hb := C.2.1
  unfold f_X2_markAsBarn at hf
  refine lv_aload_n hx hb dX2_markAsBarn_0 rfl (lv_at hl 0 rfl) ?_
  refine lv_dup hx hb dX2_markAsBarn_1 rfl ?_
  refine gC_58_0 C Z (fl_of C mw_297) dX2_markAsBarn_2 (x := u.2.2) rfl ?_
  refine lv_ldc2 (v := 10000) hx hb C.2.2.2.1 (C.2.2.2.2.1 _ mw_782) dX2_markAsBarn_5 ?_
  refine lv_ladd hx hb dX2_markAsBarn_8 ?_
  refine pC_58_0 C Z (fl_of C mw_297) dX2_markAsBarn_9 (fun H locs Z => ?_)
  refine lv_aload_n hx hb dX2_markAsBarn_12 rfl (lv_at hl 0 rfl) ?_
  refine lv_aload_n hx hb dX2_markAsBarn_13 rfl (lv_at hl 1 rfl) ?_
  refine lv_iload_n hx hb dX2_markAsBarn_14 rfl (lv_at hl 2 rfl) ?_
  obtain ⟨r15, hr15, hf⟩ := Option.bind_eq_some_iff.mp hf
  refine call_vi (As := [.ref (g.2.2 23), .int x2]) (rest := []) C Z (c_X2_markAsIron l hr15) mf_X2_markAsIron (ml_of C mw_768) rfl (oC_58 g _) rfl ⟨rfl, rfl, by decide, by decide⟩ rfl hl.1 (Nat.le_of_ble_eq_true rfl) dX2_markAsBarn_15 (fun H locs Z => ?_)
  refine lv_iload_n hx hb dX2_markAsBarn_18 rfl (lv_at hl 2 rfl) ?_
  refine lv_iadd hx hb dX2_markAsBarn_19 ?_
  have hf := Option.some.inj hf
  subst hf
  exact ret_i C Z dX2_markAsBarn_20
def f_X2_markAsZinc (u : St) (x2 : Int32) : Option (Int32 × St) :=
  Option.bind (f_X2_markAsCock (sJ u (u.2.2 + 100000)) x2) fun r15 =>
  some ((r15.1 + (r15.2.1 10)), r15.2)
set_option maxHeartbeats 4000000 in
set_option maxRecDepth 100000 in
theorem c_X2_markAsZinc (l : Launch) {g : Gx} {u : St} {x2 : Int32} {res : Int32 × St} (hf : f_X2_markAsZinc u x2 = some res) : CI wC 82 l yX2_markAsZinc (wsY yX2_markAsZinc cX2_markAsZinc 3 (some .int)) (rmX 2 43) g [.ref (g.2.2 58), .ref (g.2.2 23), .int x2] u res.1 res.2 := by
  refine CI_start (by decide +kernel) rfl (Nat.le_of_ble_eq_true rfl) (fun {p e s m args below meth c ls} C Z hl => ?_)
  have hl : lv_has ls 3 [(0, .ref (g.2.2 58)), (1, .ref (g.2.2 23)), (2, .int x2)] := hl
  have hx := C.1
  have hb := C.2.1
  unfold f_X2_markAsZinc at hf
  refine lv_aload_n hx hb dX2_markAsZinc_0 rfl (lv_at hl 0 rfl) ?_
  refine lv_dup hx hb dX2_markAsZinc_1 rfl ?_
  refine gC_58_0 C Z (fl_of C mw_297) dX2_markAsZinc_2 (x := u.2.2) rfl ?_
  refine lv_ldc2 (v := 100000) hx hb C.2.2.2.1 (C.2.2.2.2.1 _ mw_787) dX2_markAsZinc_5 ?_
  refine lv_ladd hx hb dX2_markAsZinc_8 ?_
  refine pC_58_0 C Z (fl_of C mw_297) dX2_markAsZinc_9 (fun H locs Z => ?_)
  refine lv_aload_n hx hb dX2_markAsZinc_12 rfl (lv_at hl 0 rfl) ?_
  refine lv_aload_n hx hb dX2_markAsZinc_13 rfl (lv_at hl 1 rfl) ?_
  refine lv_iload_n hx hb dX2_markAsZinc_14 rfl (lv_at hl 2 rfl) ?_
  obtain ⟨r15, hr15, hf⟩ := Option.bind_eq_some_iff.mp hf
  refine call_vi (As := [.ref (g.2.2 23), .int x2]) (rest := []) C Z (c_X2_markAsCock l hr15) mf_X2_markAsCock (ml_of C mw_757) rfl (oC_58 g _) rfl ⟨rfl, rfl, by decide, by decide⟩ rfl hl.1 (Nat.le_of_ble_eq_true rfl) dX2_markAsZinc_15 (fun H locs Z => ?_)
  refine lv_aload_n hx hb dX2_markAsZinc_18 rfl (lv_at hl 1 rfl) ?_
  refine gC_23_1 C Z (fl_nest C nw_99) dX2_markAsZinc_19 ?_
  refine gC_42_0 C Z (fl_nest C nw_88) dX2_markAsZinc_22 (x := (r15.2.1 10)) rfl ?_
  refine lv_iadd hx hb dX2_markAsZinc_25 ?_
  have hf := Option.some.inj hf
  subst hf
  exact ret_i C Z dX2_markAsZinc_26
def f_X2_markAs (u : St) (x1 x3 : Int32) : Option (Int32 × St) :=
  if x1 = 0 then
    Option.bind (f_X2_markAsCock u x3) fun r43 =>
    some (r43.1, r43.2)
  else
  if x1 = 1 then
    Option.bind (f_X2_markAsGold u x3) fun r50 =>
    some (r50.1, r50.2)
  else
  if x1 = 2 then
    Option.bind (f_X2_markAsIron u x3) fun r57 =>
    some (r57.1, r57.2)
  else
  if x1 = 3 then
    Option.bind (f_X2_markAsDean u x3) fun r64 =>
    some (r64.1, r64.2)
  else
  if x1 = 4 then
    Option.bind (f_X2_markAsBarn u x3) fun r71 =>
    some (r71.1, r71.2)
  else
  if x1 = 5 then
    Option.bind (f_X2_markAsZinc u x3) fun r78 =>
    some (r78.1, r78.2)
  else
  some ((-1000000), u)
set_option maxHeartbeats 4000000 in
set_option maxRecDepth 100000 in
theorem c_X2_markAs (l : Launch) {g : Gx} {u : St} {x1 x3 : Int32} {res : Int32 × St} (hf : f_X2_markAs u x1 x3 = some res) : CI wC 82 l yX2_markAs (wsY yX2_markAs cX2_markAs 4 (some .int)) (rmX 4 87) g [.ref (g.2.2 58), .int x1, .ref (g.2.2 23), .int x3] u res.1 res.2 := by
  refine CI_start (by decide +kernel) rfl (Nat.le_of_ble_eq_true rfl) (fun {p e s m args below meth c ls} C Z hl => ?_)
  have hl : lv_has ls 4 [(0, .ref (g.2.2 58)), (1, .int x1), (2, .ref (g.2.2 23)), (3, .int x3)] := hl
  have hx := C.1
  have hb := C.2.1
  unfold f_X2_markAs at hf
  refine lv_iload_n hx hb dX2_markAs_0 rfl (lv_at hl 1 rfl) ?_
  by_cases hs1_0 : x1 = 0
  · rw [if_pos hs1_0] at hf
    refine lv_tableIn (tgt := 40) hx hb dX2_markAs_1 (by rw [hs1_0]; decide) (by rw [hs1_0]; decide) (by rw [hs1_0]; first | done | rfl) (by decide) ?_
    refine lv_aload_n hx hb dX2_markAs_40 rfl (lv_at hl 0 rfl) ?_
    refine lv_aload_n hx hb dX2_markAs_41 rfl (lv_at hl 2 rfl) ?_
    refine lv_iload_n hx hb dX2_markAs_42 rfl (lv_at hl 3 rfl) ?_
    obtain ⟨r43, hr43, hf⟩ := Option.bind_eq_some_iff.mp hf
    refine call_vi (As := [.ref (g.2.2 23), .int x3]) (rest := []) C Z (c_X2_markAsCock l hr43) mf_X2_markAsCock (ml_of C mw_757) rfl (oC_58 g _) rfl ⟨rfl, rfl, by decide, by decide⟩ rfl hl.1 (Nat.le_of_ble_eq_true rfl) dX2_markAs_43 (fun H locs Z => ?_)
    have hf := Option.some.inj hf
    subst hf
    exact ret_i C Z dX2_markAs_46
  rw [if_neg hs1_0] at hf
  by_cases hs1_1 : x1 = 1
  · rw [if_pos hs1_1] at hf
    refine lv_tableIn (tgt := 47) hx hb dX2_markAs_1 (by rw [hs1_1]; decide) (by rw [hs1_1]; decide) (by rw [hs1_1]; first | done | rfl) (by decide) ?_
    refine lv_aload_n hx hb dX2_markAs_47 rfl (lv_at hl 0 rfl) ?_
    refine lv_aload_n hx hb dX2_markAs_48 rfl (lv_at hl 2 rfl) ?_
    refine lv_iload_n hx hb dX2_markAs_49 rfl (lv_at hl 3 rfl) ?_
    obtain ⟨r50, hr50, hf⟩ := Option.bind_eq_some_iff.mp hf
    refine call_vi (As := [.ref (g.2.2 23), .int x3]) (rest := []) C Z (c_X2_markAsGold l hr50) mf_X2_markAsGold (ml_of C mw_762) rfl (oC_58 g _) rfl ⟨rfl, rfl, by decide, by decide⟩ rfl hl.1 (Nat.le_of_ble_eq_true rfl) dX2_markAs_50 (fun H locs Z => ?_)
    have hf := Option.some.inj hf
    subst hf
    exact ret_i C Z dX2_markAs_53
  rw [if_neg hs1_1] at hf
  by_cases hs1_2 : x1 = 2
  · rw [if_pos hs1_2] at hf
    refine lv_tableIn (tgt := 54) hx hb dX2_markAs_1 (by rw [hs1_2]; decide) (by rw [hs1_2]; decide) (by rw [hs1_2]; first | done | rfl) (by decide) ?_
    refine lv_aload_n hx hb dX2_markAs_54 rfl (lv_at hl 0 rfl) ?_
    refine lv_aload_n hx hb dX2_markAs_55 rfl (lv_at hl 2 rfl) ?_
    refine lv_iload_n hx hb dX2_markAs_56 rfl (lv_at hl 3 rfl) ?_
    obtain ⟨r57, hr57, hf⟩ := Option.bind_eq_some_iff.mp hf
    refine call_vi (As := [.ref (g.2.2 23), .int x3]) (rest := []) C Z (c_X2_markAsIron l hr57) mf_X2_markAsIron (ml_of C mw_768) rfl (oC_58 g _) rfl ⟨rfl, rfl, by decide, by decide⟩ rfl hl.1 (Nat.le_of_ble_eq_true rfl) dX2_markAs_57 (fun H locs Z => ?_)
    have hf := Option.some.inj hf
    subst hf
    exact ret_i C Z dX2_markAs_60
  rw [if_neg hs1_2] at hf
  by_cases hs1_3 : x1 = 3
  · rw [if_pos hs1_3] at hf
    refine lv_tableIn (tgt := 61) hx hb dX2_markAs_1 (by rw [hs1_3]; decide) (by rw [hs1_3]; decide) (by rw [hs1_3]; first | done | rfl) (by decide) ?_
    refine lv_aload_n hx hb dX2_markAs_61 rfl (lv_at hl 0 rfl) ?_
    refine lv_aload_n hx hb dX2_markAs_62 rfl (lv_at hl 2 rfl) ?_
    refine lv_iload_n hx hb dX2_markAs_63 rfl (lv_at hl 3 rfl) ?_
    obtain ⟨r64, hr64, hf⟩ := Option.bind_eq_some_iff.mp hf
    refine call_vi (As := [.ref (g.2.2 23), .int x3]) (rest := []) C Z (c_X2_markAsDean l hr64) mf_X2_markAsDean (ml_of C mw_773) rfl (oC_58 g _) rfl ⟨rfl, rfl, by decide, by decide⟩ rfl hl.1 (Nat.le_of_ble_eq_true rfl) dX2_markAs_64 (fun H locs Z => ?_)
    have hf := Option.some.inj hf
    subst hf
    exact ret_i C Z dX2_markAs_67
  rw [if_neg hs1_3] at hf
  by_cases hs1_4 : x1 = 4
  · rw [if_pos hs1_4] at hf
    refine lv_tableIn (tgt := 68) hx hb dX2_markAs_1 (by rw [hs1_4]; decide) (by rw [hs1_4]; decide) (by rw [hs1_4]; first | done | rfl) (by decide) ?_
    refine lv_aload_n hx hb dX2_markAs_68 rfl (lv_at hl 0 rfl) ?_
    refine lv_aload_n hx hb dX2_markAs_69 rfl (lv_at hl 2 rfl) ?_
    refine lv_iload_n hx hb dX2_markAs_70 rfl (lv_at hl 3 rfl) ?_
    obtain ⟨r71, hr71, hf⟩ := Option.bind_eq_some_iff.mp hf
    refine call_vi (As := [.ref (g.2.2 23), .int x3]) (rest := []) C Z (c_X2_markAsBarn l hr71) mf_X2_markAsBarn (ml_of C mw_778) rfl (oC_58 g _) rfl ⟨rfl, rfl, by decide, by decide⟩ rfl hl.1 (Nat.le_of_ble_eq_true rfl) dX2_markAs_71 (fun H locs Z => ?_)
    have hf := Option.some.inj hf
    subst hf
    exact ret_i C Z dX2_markAs_74
  rw [if_neg hs1_4] at hf
  by_cases hs1_5 : x1 = 5
  · rw [if_pos hs1_5] at hf
    refine lv_tableIn (tgt := 75) hx hb dX2_markAs_1 (by rw [hs1_5]; decide) (by rw [hs1_5]; decide) (by rw [hs1_5]; first | done | rfl) (by decide) ?_
    refine lv_aload_n hx hb dX2_markAs_75 rfl (lv_at hl 0 rfl) ?_
    refine lv_aload_n hx hb dX2_markAs_76 rfl (lv_at hl 2 rfl) ?_
    refine lv_iload_n hx hb dX2_markAs_77 rfl (lv_at hl 3 rfl) ?_
    obtain ⟨r78, hr78, hf⟩ := Option.bind_eq_some_iff.mp hf
    refine call_vi (As := [.ref (g.2.2 23), .int x3]) (rest := []) C Z (c_X2_markAsZinc l hr78) mf_X2_markAsZinc (ml_of C mw_783) rfl (oC_58 g _) rfl ⟨rfl, rfl, by decide, by decide⟩ rfl hl.1 (Nat.le_of_ble_eq_true rfl) dX2_markAs_78 (fun H locs Z => ?_)
    have hf := Option.some.inj hf
    subst hf
    exact ret_i C Z dX2_markAs_81
  rw [if_neg hs1_5] at hf
  have e1_0 := lv_neT (a := 0) hs1_0 (by decide)
  have e1_1 := lv_neT (a := 1) hs1_1 (by decide)
  have e1_2 := lv_neT (a := 2) hs1_2 (by decide)
  have e1_3 := lv_neT (a := 3) hs1_3 (by decide)
  have e1_4 := lv_neT (a := 4) hs1_4 (by decide)
  have e1_5 := lv_neT (a := 5) hs1_5 (by decide)
  refine lv_tableOut (tgt := 82) hx hb dX2_markAs_1 (by omega) (by decide) ?_
  refine lv_ldc (v := (-1000000)) hx hb C.2.2.2.1 (C.2.2.2.2.1 _ mw_788) dX2_markAs_82 ?_
  have hf := Option.some.inj hf
  subst hf
  exact ret_i C Z dX2_markAs_84
def f_X7_mark (u : St) (x1 x2 : Int32) : Option (Int32 × St) :=
  Option.bind (f_X7_isCock u x2) fun r2 =>
  if r2 = 0 then
    some ((-1000000), u)
  else
    Option.bind (f_X2_markAs u x1 x2) fun r18 =>
    some (r18.1, r18.2)
set_option maxHeartbeats 4000000 in
set_option maxRecDepth 100000 in
theorem c_X7_mark (l : Launch) {g : Gx} {u : St} {x1 x2 : Int32} {res : Int32 × St} (hf : f_X7_mark u x1 x2 = some res) : CI wC 82 l yX7_mark (wsY yX7_mark cX7_mark 3 (some .int)) (rmX 5 110) g [.ref (g.2.2 0), .int x1, .int x2] u res.1 res.2 := by
  refine CI_start (by decide +kernel) rfl (Nat.le_of_ble_eq_true rfl) (fun {p e s m args below meth c ls} C Z hl => ?_)
  have hl : lv_has ls 3 [(0, .ref (g.2.2 0)), (1, .int x1), (2, .int x2)] := hl
  have hx := C.1
  have hb := C.2.1
  unfold f_X7_mark at hf
  refine lv_aload_n hx hb dX7_mark_0 rfl (lv_at hl 0 rfl) ?_
  refine lv_iload_n hx hb dX7_mark_1 rfl (lv_at hl 2 rfl) ?_
  obtain ⟨r2, hr2, hf⟩ := Option.bind_eq_some_iff.mp hf
  refine call_vi (As := [.int x2]) (rest := []) C Z (c_X7_isCock l hr2) mf_X7_isCock (ml_of C mw_462) rfl (oC_0 g _) rfl ⟨rfl, rfl, by decide, by decide⟩ rfl hl.1 (Nat.le_of_ble_eq_true rfl) dX7_mark_2 (fun H locs Z => ?_)
  refine lv_if_eq (tgt := 24) hx hb dX7_mark_5 (by decide) (fun hc5 => ?_) (fun hc5 => ?_)
  · rw [if_pos hc5] at hf
    refine lv_ldc (v := (-1000000)) hx hb C.2.2.2.1 (C.2.2.2.2.1 _ mw_502) dX7_mark_24 ?_
    have hf := Option.some.inj hf
    subst hf
    exact ret_i C Z dX7_mark_26
  · rw [if_neg hc5] at hf
    refine lv_aload_n hx hb dX7_mark_8 rfl (lv_at hl 0 rfl) ?_
    refine gC_0_4 C Z (fl_of C mw_309) dX7_mark_9 ?_
    refine lv_iload_n hx hb dX7_mark_12 rfl (lv_at hl 1 rfl) ?_
    refine lv_aload_n hx hb dX7_mark_13 rfl (lv_at hl 0 rfl) ?_
    refine gC_0_2 C Z (fl_of C mw_307) dX7_mark_14 ?_
    refine lv_iload_n hx hb dX7_mark_17 rfl (lv_at hl 2 rfl) ?_
    obtain ⟨r18, hr18, hf⟩ := Option.bind_eq_some_iff.mp hf
    refine call_vi (As := [.int x1, .ref (g.2.2 23), .int x2]) (rest := []) C Z (c_X2_markAs l hr18) mf_X2_markAs (ml_nest C nw_64) rfl (oC_58 g _) rfl ⟨rfl, rfl, by decide, by decide⟩ rfl hl.1 (Nat.le_of_ble_eq_true rfl) dX7_mark_18 (fun H locs Z => ?_)
    refine lv_goto (tgt := 26) hx hb dX7_mark_21 (by decide) ?_
    have hf := Option.some.inj hf
    subst hf
    exact ret_i C Z dX7_mark_26
def f_X8_mark (u : St) (x1 x2 : Int32) : Option (Int32 × St) :=
  Option.bind (f_X8_in x1 0 5) fun r3 =>
  if r3 = 0 then
    some ((-1000000), u)
  else
    Option.bind (f_X8_isCock u x2) fun r11 =>
    if r11 = 0 then
      some ((-1000000), u)
    else
      Option.bind (f_X8_eye u x2) fun r22 =>
      Option.bind (f_X8_sawBy u (1 <<< (x2 &&& 31))) fun r31 =>
      if oob x2 5 then none else
      if x1 = 1 then
        some ((r22 + r31), (sJ u (u.2.2 + 11)))
      else
      if x1 = 2 then
        some ((r22 - ((u.2.1 0) (Int32.toNatClampNeg x2))), (sJ u (u.2.2 + 101)))
      else
      if x1 = 3 then
        some ((2 * (r22 + r31)), (sJ u (u.2.2 + 1011)))
      else
      if x1 = 4 then
        some (((r22 - ((u.2.1 0) (Int32.toNatClampNeg x2))) + x2), (sJ u (u.2.2 + 10101)))
      else
      if x1 = 5 then
        some ((r22 + ((u.2.1 7) 0)), (sJ u (u.2.2 + 100001)))
      else
      some (r22, (sJ u (u.2.2 + 1)))
set_option maxHeartbeats 4000000 in
set_option maxRecDepth 100000 in
theorem c_X8_mark (l : Launch) {g : Gx} {u : St} {x1 x2 : Int32} {res : Int32 × St} (hf : f_X8_mark u x1 x2 = some res) : CI wM 22 l yX8_mark (wsY yX8_mark cX8_mark 6 (some .int)) (rmX 2 47) g [.ref (g.2.2 0), .int x1, .int x2] u res.1 res.2 := by
  refine CI_start (by decide +kernel) rfl (Nat.le_of_ble_eq_true rfl) (fun {p e s m args below meth c ls} C Z hl => ?_)
  have hl : lv_has ls 6 [(0, .ref (g.2.2 0)), (1, .int x1), (2, .int x2)] := hl
  have hx := C.1
  have hb := C.2.1
  unfold f_X8_mark at hf
  refine lv_iload_n hx hb dX8_mark_0 rfl (lv_at hl 1 rfl) ?_
  refine lv_iconst (v := 0) hx hb dX8_mark_1 (by decide +kernel) ?_
  refine lv_iconst (v := 5) hx hb dX8_mark_2 (by decide +kernel) ?_
  obtain ⟨r3, hr3, hf⟩ := Option.bind_eq_some_iff.mp hf
  refine call_si (As := [.int x1, .int 0, .int 5]) (rest := []) C Z (c_X8_in l hr3) mf_X8_in (ml_of C mw_934) rfl ⟨rfl, rfl, by decide, by decide⟩ rfl hl.1 (Nat.le_of_ble_eq_true rfl) dX8_mark_3 (fun H locs Z => ?_)
  refine lv_if_eq (tgt := 17) hx hb dX8_mark_6 (by decide) (fun hc6 => ?_) (fun hc6 => ?_)
  · rw [if_pos hc6] at hf
    refine lv_ldc (v := (-1000000)) hx hb C.2.2.2.1 (C.2.2.2.2.1 _ mw_1043) dX8_mark_17 ?_
    have hf := Option.some.inj hf
    subst hf
    exact ret_i C Z dX8_mark_19
  · rw [if_neg hc6] at hf
    refine lv_aload_n hx hb dX8_mark_9 rfl (lv_at hl 0 rfl) ?_
    refine lv_iload_n hx hb dX8_mark_10 rfl (lv_at hl 2 rfl) ?_
    obtain ⟨r11, hr11, hf⟩ := Option.bind_eq_some_iff.mp hf
    refine call_vi (As := [.int x2]) (rest := []) C Z (c_X8_isCock l hr11) mf_X8_isCock (ml_of C mw_1006) rfl (oM_0 g _) rfl ⟨rfl, rfl, by decide, by decide⟩ rfl hl.1 (Nat.le_of_ble_eq_true rfl) dX8_mark_11 (fun H locs Z => ?_)
    refine lv_if_ne (tgt := 20) hx hb dX8_mark_14 (by decide) (fun hc14 => ?_) (fun hc14 => ?_)
    · rw [if_neg hc14] at hf
      refine lv_aload_n hx hb dX8_mark_20 rfl (lv_at hl 0 rfl) ?_
      refine lv_iload_n hx hb dX8_mark_21 rfl (lv_at hl 2 rfl) ?_
      obtain ⟨r22, hr22, hf⟩ := Option.bind_eq_some_iff.mp hf
      refine call_vi (As := [.int x2]) (rest := []) C Z (c_X8_eye l hr22) mf_X8_eye (ml_of C mw_1010) rfl (oM_0 g _) rfl ⟨rfl, rfl, by decide, by decide⟩ rfl hl.1 (Nat.le_of_ble_eq_true rfl) dX8_mark_22 (fun H locs Z => ?_)
      refine lv_istore_n (lv' := [(3, .int r22), (0, .ref (g.2.2 0)), (1, .int x1), (2, .int x2)]) hx hb dX8_mark_25 rfl hl (by decide) rfl (fun ls hl => ?_)
      refine lv_iload_n hx hb dX8_mark_26 rfl (lv_at hl 0 rfl) ?_
      refine lv_aload_n hx hb dX8_mark_27 rfl (lv_at hl 1 rfl) ?_
      refine lv_iconst (v := 1) hx hb dX8_mark_28 (by decide +kernel) ?_
      refine lv_iload_n hx hb dX8_mark_29 rfl (lv_at hl 3 rfl) ?_
      refine lv_ishl hx hb dX8_mark_30 ?_
      obtain ⟨r31, hr31, hf⟩ := Option.bind_eq_some_iff.mp hf
      refine call_vi (As := [.int (1 <<< (x2 &&& 31))]) (rest := [.int r22]) C Z (c_X8_sawBy l hr31) mf_X8_sawBy (ml_of C mw_1024) rfl (oM_0 g _) rfl ⟨rfl, rfl, by decide, by decide⟩ rfl hl.1 (Nat.le_of_ble_eq_true rfl) dX8_mark_31 (fun H locs Z => ?_)
      refine lv_iadd hx hb dX8_mark_34 ?_
      refine lv_istore (lv' := [(4, .int (r22 + r31)), (3, .int r22), (0, .ref (g.2.2 0)), (1, .int x1), (2, .int x2)]) hx hb dX8_mark_35 hl (by decide) rfl (fun ls hl => ?_)
      refine lv_iload_n hx hb dX8_mark_37 rfl (lv_at hl 1 rfl) ?_
      refine lv_aload_n hx hb dX8_mark_38 rfl (lv_at hl 2 rfl) ?_
      refine gM_0_1 C Z (fl_of C mw_818) dX8_mark_39 ?_
      refine lv_iload_n hx hb dX8_mark_42 rfl (lv_at hl 4 rfl) ?_
      by_cases ho43 : oob x2 5 = true
      · rw [if_pos ho43] at hf; cases hf
      rw [if_neg ho43] at hf
      refine r_ald C Z (aM_1 g _ (f := (u.2.1 0)) rfl) ho43 rfl dX8_mark_43 (x := ((u.2.1 0) (Int32.toNatClampNeg x2))) rfl ?_
      refine lv_isub hx hb dX8_mark_44 ?_
      refine lv_istore (lv' := [(5, .int (r22 - ((u.2.1 0) (Int32.toNatClampNeg x2)))), (4, .int (r22 + r31)), (3, .int r22), (0, .ref (g.2.2 0)), (1, .int x1), (2, .int x2)]) hx hb dX8_mark_45 hl (by decide) rfl (fun ls hl => ?_)
      refine lv_iload_n hx hb dX8_mark_47 rfl (lv_at hl 4 rfl) ?_
      by_cases hs48_1 : x1 = 1
      · rw [if_pos hs48_1] at hf
        refine lv_tableIn (tgt := 84) hx hb dX8_mark_48 (by rw [hs48_1]; decide) (by rw [hs48_1]; decide) (by rw [hs48_1]; first | done | rfl) (by decide) ?_
        refine lv_aload_n hx hb dX8_mark_84 rfl (lv_at hl 3 rfl) ?_
        refine lv_dup hx hb dX8_mark_85 rfl ?_
        refine gM_0_17 C Z (fl_of C mw_834) dX8_mark_86 (x := u.2.2) rfl ?_
        refine lv_ldc2 (v := 11) hx hb C.2.2.2.1 (C.2.2.2.2.1 _ mw_1186) dX8_mark_89 ?_
        refine lv_ladd hx hb dX8_mark_92 ?_
        refine pM_0_17 C Z (fl_of C mw_834) dX8_mark_93 (fun H locs Z => ?_)
        refine lv_iload hx hb dX8_mark_96 (lv_at hl 1 rfl) ?_
        have hf := Option.some.inj hf
        subst hf
        exact ret_i C Z dX8_mark_98
      rw [if_neg hs48_1] at hf
      by_cases hs48_2 : x1 = 2
      · rw [if_pos hs48_2] at hf
        refine lv_tableIn (tgt := 99) hx hb dX8_mark_48 (by rw [hs48_2]; decide) (by rw [hs48_2]; decide) (by rw [hs48_2]; first | done | rfl) (by decide) ?_
        refine lv_aload_n hx hb dX8_mark_99 rfl (lv_at hl 3 rfl) ?_
        refine lv_dup hx hb dX8_mark_100 rfl ?_
        refine gM_0_17 C Z (fl_of C mw_834) dX8_mark_101 (x := u.2.2) rfl ?_
        refine lv_ldc2 (v := 101) hx hb C.2.2.2.1 (C.2.2.2.2.1 _ mw_1187) dX8_mark_104 ?_
        refine lv_ladd hx hb dX8_mark_107 ?_
        refine pM_0_17 C Z (fl_of C mw_834) dX8_mark_108 (fun H locs Z => ?_)
        refine lv_iload hx hb dX8_mark_111 (lv_at hl 0 rfl) ?_
        have hf := Option.some.inj hf
        subst hf
        exact ret_i C Z dX8_mark_113
      rw [if_neg hs48_2] at hf
      by_cases hs48_3 : x1 = 3
      · rw [if_pos hs48_3] at hf
        refine lv_tableIn (tgt := 114) hx hb dX8_mark_48 (by rw [hs48_3]; decide) (by rw [hs48_3]; decide) (by rw [hs48_3]; first | done | rfl) (by decide) ?_
        refine lv_aload_n hx hb dX8_mark_114 rfl (lv_at hl 3 rfl) ?_
        refine lv_dup hx hb dX8_mark_115 rfl ?_
        refine gM_0_17 C Z (fl_of C mw_834) dX8_mark_116 (x := u.2.2) rfl ?_
        refine lv_ldc2 (v := 1011) hx hb C.2.2.2.1 (C.2.2.2.2.1 _ mw_1188) dX8_mark_119 ?_
        refine lv_ladd hx hb dX8_mark_122 ?_
        refine pM_0_17 C Z (fl_of C mw_834) dX8_mark_123 (fun H locs Z => ?_)
        refine lv_iconst (v := 2) hx hb dX8_mark_126 (by decide +kernel) ?_
        refine lv_iload hx hb dX8_mark_127 (lv_at hl 1 rfl) ?_
        refine lv_imul hx hb dX8_mark_129 ?_
        have hf := Option.some.inj hf
        subst hf
        exact ret_i C Z dX8_mark_130
      rw [if_neg hs48_3] at hf
      by_cases hs48_4 : x1 = 4
      · rw [if_pos hs48_4] at hf
        refine lv_tableIn (tgt := 131) hx hb dX8_mark_48 (by rw [hs48_4]; decide) (by rw [hs48_4]; decide) (by rw [hs48_4]; first | done | rfl) (by decide) ?_
        refine lv_aload_n hx hb dX8_mark_131 rfl (lv_at hl 3 rfl) ?_
        refine lv_dup hx hb dX8_mark_132 rfl ?_
        refine gM_0_17 C Z (fl_of C mw_834) dX8_mark_133 (x := u.2.2) rfl ?_
        refine lv_ldc2 (v := 10101) hx hb C.2.2.2.1 (C.2.2.2.2.1 _ mw_1189) dX8_mark_136 ?_
        refine lv_ladd hx hb dX8_mark_139 ?_
        refine pM_0_17 C Z (fl_of C mw_834) dX8_mark_140 (fun H locs Z => ?_)
        refine lv_iload hx hb dX8_mark_143 (lv_at hl 0 rfl) ?_
        refine lv_iload_n hx hb dX8_mark_145 rfl (lv_at hl 5 rfl) ?_
        refine lv_iadd hx hb dX8_mark_146 ?_
        have hf := Option.some.inj hf
        subst hf
        exact ret_i C Z dX8_mark_147
      rw [if_neg hs48_4] at hf
      by_cases hs48_5 : x1 = 5
      · rw [if_pos hs48_5] at hf
        refine lv_tableIn (tgt := 148) hx hb dX8_mark_48 (by rw [hs48_5]; decide) (by rw [hs48_5]; decide) (by rw [hs48_5]; first | done | rfl) (by decide) ?_
        refine lv_aload_n hx hb dX8_mark_148 rfl (lv_at hl 3 rfl) ?_
        refine lv_dup hx hb dX8_mark_149 rfl ?_
        refine gM_0_17 C Z (fl_of C mw_834) dX8_mark_150 (x := u.2.2) rfl ?_
        refine lv_ldc2 (v := 100001) hx hb C.2.2.2.1 (C.2.2.2.2.1 _ mw_1190) dX8_mark_153 ?_
        refine lv_ladd hx hb dX8_mark_156 ?_
        refine pM_0_17 C Z (fl_of C mw_834) dX8_mark_157 (fun H locs Z => ?_)
        refine lv_iload_n hx hb dX8_mark_160 rfl (lv_at hl 2 rfl) ?_
        refine lv_aload_n hx hb dX8_mark_161 rfl (lv_at hl 3 rfl) ?_
        refine gM_0_10 C Z (fl_of C mw_827) dX8_mark_162 ?_
        refine lv_iconst (v := 0) hx hb dX8_mark_165 (by decide +kernel) ?_
        refine r_ald C Z (aM_8 g _ (f := (u.2.1 7)) rfl) (by decide) (k := 0) (by decide) dX8_mark_166 (x := ((u.2.1 7) 0)) rfl ?_
        refine lv_iadd hx hb dX8_mark_167 ?_
        have hf := Option.some.inj hf
        subst hf
        exact ret_i C Z dX8_mark_168
      rw [if_neg hs48_5] at hf
      have e48_1 := lv_neT (a := 1) hs48_1 (by decide)
      have e48_2 := lv_neT (a := 2) hs48_2 (by decide)
      have e48_3 := lv_neT (a := 3) hs48_3 (by decide)
      have e48_4 := lv_neT (a := 4) hs48_4 (by decide)
      have e48_5 := lv_neT (a := 5) hs48_5 (by decide)
      refine lv_tableOut (tgt := 169) hx hb dX8_mark_48 (by omega) (by decide) ?_
      refine lv_aload_n hx hb dX8_mark_169 rfl (lv_at hl 3 rfl) ?_
      refine lv_dup hx hb dX8_mark_170 rfl ?_
      refine gM_0_17 C Z (fl_of C mw_834) dX8_mark_171 (x := u.2.2) rfl ?_
      refine lv_lconst (v := 1) hx hb dX8_mark_174 (by decide +kernel) ?_
      refine lv_ladd hx hb dX8_mark_175 ?_
      refine pM_0_17 C Z (fl_of C mw_834) dX8_mark_176 (fun H locs Z => ?_)
      refine lv_iload_n hx hb dX8_mark_179 rfl (lv_at hl 2 rfl) ?_
      have hf := Option.some.inj hf
      subst hf
      exact ret_i C Z dX8_mark_180
    · rw [if_pos hc14] at hf
      refine lv_ldc (v := (-1000000)) hx hb C.2.2.2.1 (C.2.2.2.2.1 _ mw_1043) dX8_mark_17 ?_
      have hf := Option.some.inj hf
      subst hf
      exact ret_i C Z dX8_mark_19
