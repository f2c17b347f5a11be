def f_X7_isIn (x0 x1 : Int32) : Option (Int32) :=
  if ((x1 >>> (x0 &&& 31)) &&& 1) = 1 then
    some 1
  else
    some 0
set_option maxHeartbeats 4000000 in
set_option maxRecDepth 100000 in
theorem c_X7_isIn (l : Launch) {g : Gx} {u : St} {x0 x1 : Int32} {res : Int32} (hf : f_X7_isIn x0 x1 = some res) : CI wC 82 l yX7_isIn (wsY yX7_isIn cX7_isIn 2 (some .boolean)) (rmX 0 0) g [.int x0, .int x1] u res u := by
  refine CI_start (by decide +kernel) rfl (Nat.le_of_ble_eq_true rfl) (fun {p e s m args below meth c ls} C Z hl => ?_)
  have hl : lv_has ls 2 [(0, .int x0), (1, .int x1)] := hl
  have hx := C.1
  have hb := C.2.1
  unfold f_X7_isIn at hf
  refine lv_iload_n hx hb dX7_isIn_0 rfl (lv_at hl 1 rfl) ?_
  refine lv_iload_n hx hb dX7_isIn_1 rfl (lv_at hl 0 rfl) ?_
  refine lv_ishr hx hb dX7_isIn_2 ?_
  refine lv_iconst (v := 1) hx hb dX7_isIn_3 (by decide +kernel) ?_
  refine lv_iand hx hb dX7_isIn_4 ?_
  refine lv_iconst (v := 1) hx hb dX7_isIn_5 (by decide +kernel) ?_
  refine lv_icmp_ne (tgt := 13) hx hb dX7_isIn_6 (by decide) (fun hc6 => ?_) (fun hc6 => ?_)
  · rw [if_neg hc6] at hf
    refine lv_iconst (v := 0) hx hb dX7_isIn_13 (by decide +kernel) ?_
    have hf := Option.some.inj hf
    subst hf
    exact ret_z C Z rfl dX7_isIn_14
  · rw [if_pos hc6] at hf
    refine lv_iconst (v := 1) hx hb dX7_isIn_9 (by decide +kernel) ?_
    refine lv_goto (tgt := 14) hx hb dX7_isIn_10 (by decide) ?_
    have hf := Option.some.inj hf
    subst hf
    exact ret_z C Z rfl dX7_isIn_14
def f_X3_isAsked (u : St) (x1 : Int32) : Option (Int32) :=
  Option.bind (f_X7_isIn x1 (u.1 11)) fun r5 =>
  if nb r5 then some r5 else none
set_option maxHeartbeats 4000000 in
set_option maxRecDepth 100000 in
theorem c_X3_isAsked (l : Launch) {g : Gx} {u : St} {x1 : Int32} {res : Int32} (hf : f_X3_isAsked u x1 = some res) : CI wC 82 l yX3_isAsked (wsY yX3_isAsked cX3_isAsked 2 (some .boolean)) (rmX 1 21) g [.ref (g.2.2 42), .int x1] u res u := by
  refine CI_start (by decide +kernel) rfl (Nat.le_of_ble_eq_true rfl) (fun {p e s m args below meth c ls} C Z hl => ?_)
  have hl : lv_has ls 2 [(0, .ref (g.2.2 42)), (1, .int x1)] := hl
  have hx := C.1
  have hb := C.2.1
  unfold f_X3_isAsked at hf
  refine lv_iload_n hx hb dX3_isAsked_0 rfl (lv_at hl 1 rfl) ?_
  refine lv_aload_n hx hb dX3_isAsked_1 rfl (lv_at hl 0 rfl) ?_
  refine gC_42_1 C Z (fl_of C mw_222) dX3_isAsked_2 (x := (u.1 11)) rfl ?_
  obtain ⟨r5, hr5, hf⟩ := Option.bind_eq_some_iff.mp hf
  refine call_si (As := [.int x1, .int (u.1 11)]) (rest := []) C Z (c_X7_isIn l hr5) mf_X7_isIn (ml_nest C nw_28) rfl ⟨rfl, rfl, by decide, by decide⟩ rfl hl.1 (Nat.le_of_ble_eq_true rfl) dX3_isAsked_5 (fun H locs Z => ?_)
  by_cases hn8 : nb r5 = true
  · rw [if_pos hn8] at hf
    have hf := Option.some.inj hf
    subst hf
    exact ret_z C Z hn8 dX3_isAsked_8
  · rw [if_neg hn8] at hf
    cases hf
def f_J6_bitCount_0f7a4 (x0 : Int32) : Option (Int32) :=
  some ((((((((x0 - (((Int32.toUInt32 x0 >>> (Int32.toUInt32 1 &&& Int32.toUInt32 31)).toInt32) &&& 1431655765)) &&& 858993459) + (((Int32.toUInt32 (x0 - (((Int32.toUInt32 x0 >>> (Int32.toUInt32 1 &&& Int32.toUInt32 31)).toInt32) &&& 1431655765)) >>> (Int32.toUInt32 2 &&& Int32.toUInt32 31)).toInt32) &&& 858993459)) + ((Int32.toUInt32 (((x0 - (((Int32.toUInt32 x0 >>> (Int32.toUInt32 1 &&& Int32.toUInt32 31)).toInt32) &&& 1431655765)) &&& 858993459) + (((Int32.toUInt32 (x0 - (((Int32.toUInt32 x0 >>> (Int32.toUInt32 1 &&& Int32.toUInt32 31)).toInt32) &&& 1431655765)) >>> (Int32.toUInt32 2 &&& Int32.toUInt32 31)).toInt32) &&& 858993459)) >>> (Int32.toUInt32 4 &&& Int32.toUInt32 31)).toInt32)) &&& 252645135) + ((Int32.toUInt32 (((((x0 - (((Int32.toUInt32 x0 >>> (Int32.toUInt32 1 &&& Int32.toUInt32 31)).toInt32) &&& 1431655765)) &&& 858993459) + (((Int32.toUInt32 (x0 - (((Int32.toUInt32 x0 >>> (Int32.toUInt32 1 &&& Int32.toUInt32 31)).toInt32) &&& 1431655765)) >>> (Int32.toUInt32 2 &&& Int32.toUInt32 31)).toInt32) &&& 858993459)) + ((Int32.toUInt32 (((x0 - (((Int32.toUInt32 x0 >>> (Int32.toUInt32 1 &&& Int32.toUInt32 31)).toInt32) &&& 1431655765)) &&& 858993459) + (((Int32.toUInt32 (x0 - (((Int32.toUInt32 x0 >>> (Int32.toUInt32 1 &&& Int32.toUInt32 31)).toInt32) &&& 1431655765)) >>> (Int32.toUInt32 2 &&& Int32.toUInt32 31)).toInt32) &&& 858993459)) >>> (Int32.toUInt32 4 &&& Int32.toUInt32 31)).toInt32)) &&& 252645135) >>> (Int32.toUInt32 8 &&& Int32.toUInt32 31)).toInt32)) + ((Int32.toUInt32 ((((((x0 - (((Int32.toUInt32 x0 >>> (Int32.toUInt32 1 &&& Int32.toUInt32 31)).toInt32) &&& 1431655765)) &&& 858993459) + (((Int32.toUInt32 (x0 - (((Int32.toUInt32 x0 >>> (Int32.toUInt32 1 &&& Int32.toUInt32 31)).toInt32) &&& 1431655765)) >>> (Int32.toUInt32 2 &&& Int32.toUInt32 31)).toInt32) &&& 858993459)) + ((Int32.toUInt32 (((x0 - (((Int32.toUInt32 x0 >>> (Int32.toUInt32 1 &&& Int32.toUInt32 31)).toInt32) &&& 1431655765)) &&& 858993459) + (((Int32.toUInt32 (x0 - (((Int32.toUInt32 x0 >>> (Int32.toUInt32 1 &&& Int32.toUInt32 31)).toInt32) &&& 1431655765)) >>> (Int32.toUInt32 2 &&& Int32.toUInt32 31)).toInt32) &&& 858993459)) >>> (Int32.toUInt32 4 &&& Int32.toUInt32 31)).toInt32)) &&& 252645135) + ((Int32.toUInt32 (((((x0 - (((Int32.toUInt32 x0 >>> (Int32.toUInt32 1 &&& Int32.toUInt32 31)).toInt32) &&& 1431655765)) &&& 858993459) + (((Int32.toUInt32 (x0 - (((Int32.toUInt32 x0 >>> (Int32.toUInt32 1 &&& Int32.toUInt32 31)).toInt32) &&& 1431655765)) >>> (Int32.toUInt32 2 &&& Int32.toUInt32 31)).toInt32) &&& 858993459)) + ((Int32.toUInt32 (((x0 - (((Int32.toUInt32 x0 >>> (Int32.toUInt32 1 &&& Int32.toUInt32 31)).toInt32) &&& 1431655765)) &&& 858993459) + (((Int32.toUInt32 (x0 - (((Int32.toUInt32 x0 >>> (Int32.toUInt32 1 &&& Int32.toUInt32 31)).toInt32) &&& 1431655765)) >>> (Int32.toUInt32 2 &&& Int32.toUInt32 31)).toInt32) &&& 858993459)) >>> (Int32.toUInt32 4 &&& Int32.toUInt32 31)).toInt32)) &&& 252645135) >>> (Int32.toUInt32 8 &&& Int32.toUInt32 31)).toInt32)) >>> (Int32.toUInt32 16 &&& Int32.toUInt32 31)).toInt32)) &&& 63)
set_option maxHeartbeats 4000000 in
set_option maxRecDepth 100000 in
theorem c_J6_bitCount_0f7a4 (l : Launch) {g : Gx} {u : St} {x0 : Int32} {res : Int32} (hf : f_J6_bitCount_0f7a4 x0 = some res) : CI wC 82 l yJ6_bitCount_0f7a4 (wsY yJ6_bitCount_0f7a4 cJ6_bitCount_0f7a4 1 (some .int)) (rmX 0 0) g [.int x0] u res u := by
  refine CI_start (by decide +kernel) rfl (Nat.le_of_ble_eq_true rfl) (fun {p e s m args below meth c ls} C Z hl => ?_)
  have hl : lv_has ls 1 [(0, .int x0)] := hl
  have hx := C.1
  have hb := C.2.1
  unfold f_J6_bitCount_0f7a4 at hf
  refine lv_iload_n hx hb dJ6_bitCount_0f7a4_0 rfl (lv_at hl 0 rfl) ?_
  refine lv_iload_n hx hb dJ6_bitCount_0f7a4_1 rfl (lv_at hl 0 rfl) ?_
  refine lv_iconst (v := 1) hx hb dJ6_bitCount_0f7a4_2 (by decide +kernel) ?_
  refine lv_iushr (v := (Int32.toUInt32 x0 >>> (Int32.toUInt32 1 &&& Int32.toUInt32 31)).toInt32) hx hb dJ6_bitCount_0f7a4_3 rfl ?_
  refine lv_ldcw (v := 1431655765) hx hb C.2.2.2.1 (C.2.2.2.2.1 _ mw_491) dJ6_bitCount_0f7a4_4 ?_
  refine lv_iand hx hb dJ6_bitCount_0f7a4_7 ?_
  refine lv_isub hx hb dJ6_bitCount_0f7a4_8 ?_
  refine lv_istore_n (lv' := [(0, .int (x0 - (((Int32.toUInt32 x0 >>> (Int32.toUInt32 1 &&& Int32.toUInt32 31)).toInt32) &&& 1431655765)))]) hx hb dJ6_bitCount_0f7a4_9 rfl hl (by decide) rfl (fun ls hl => ?_)
  refine lv_iload_n hx hb dJ6_bitCount_0f7a4_10 rfl (lv_at hl 0 rfl) ?_
  refine lv_ldcw (v := 858993459) hx hb C.2.2.2.1 (C.2.2.2.2.1 _ mw_492) dJ6_bitCount_0f7a4_11 ?_
  refine lv_iand hx hb dJ6_bitCount_0f7a4_14 ?_
  refine lv_iload_n hx hb dJ6_bitCount_0f7a4_15 rfl (lv_at hl 0 rfl) ?_
  refine lv_iconst (v := 2) hx hb dJ6_bitCount_0f7a4_16 (by decide +kernel) ?_
  refine lv_iushr (v := (Int32.toUInt32 (x0 - (((Int32.toUInt32 x0 >>> (Int32.toUInt32 1 &&& Int32.toUInt32 31)).toInt32) &&& 1431655765)) >>> (Int32.toUInt32 2 &&& Int32.toUInt32 31)).toInt32) hx hb dJ6_bitCount_0f7a4_17 rfl ?_
  refine lv_ldcw (v := 858993459) hx hb C.2.2.2.1 (C.2.2.2.2.1 _ mw_492) dJ6_bitCount_0f7a4_18 ?_
  refine lv_iand hx hb dJ6_bitCount_0f7a4_21 ?_
  refine lv_iadd hx hb dJ6_bitCount_0f7a4_22 ?_
  refine lv_istore_n (lv' := [(0, .int (((x0 - (((Int32.toUInt32 x0 >>> (Int32.toUInt32 1 &&& Int32.toUInt32 31)).toInt32) &&& 1431655765)) &&& 858993459) + (((Int32.toUInt32 (x0 - (((Int32.toUInt32 x0 >>> (Int32.toUInt32 1 &&& Int32.toUInt32 31)).toInt32) &&& 1431655765)) >>> (Int32.toUInt32 2 &&& Int32.toUInt32 31)).toInt32) &&& 858993459)))]) hx hb dJ6_bitCount_0f7a4_23 rfl hl (by decide) rfl (fun ls hl => ?_)
  refine lv_iload_n hx hb dJ6_bitCount_0f7a4_24 rfl (lv_at hl 0 rfl) ?_
  refine lv_iload_n hx hb dJ6_bitCount_0f7a4_25 rfl (lv_at hl 0 rfl) ?_
  refine lv_iconst (v := 4) hx hb dJ6_bitCount_0f7a4_26 (by decide +kernel) ?_
  refine lv_iushr (v := (Int32.toUInt32 (((x0 - (((Int32.toUInt32 x0 >>> (Int32.toUInt32 1 &&& Int32.toUInt32 31)).toInt32) &&& 1431655765)) &&& 858993459) + (((Int32.toUInt32 (x0 - (((Int32.toUInt32 x0 >>> (Int32.toUInt32 1 &&& Int32.toUInt32 31)).toInt32) &&& 1431655765)) >>> (Int32.toUInt32 2 &&& Int32.toUInt32 31)).toInt32) &&& 858993459)) >>> (Int32.toUInt32 4 &&& Int32.toUInt32 31)).toInt32) hx hb dJ6_bitCount_0f7a4_27 rfl ?_
  refine lv_iadd hx hb dJ6_bitCount_0f7a4_28 ?_
  refine lv_ldcw (v := 252645135) hx hb C.2.2.2.1 (C.2.2.2.2.1 _ mw_493) dJ6_bitCount_0f7a4_29 ?_
  refine lv_iand hx hb dJ6_bitCount_0f7a4_32 ?_
  refine lv_istore_n (lv' := [(0, .int (((((x0 - (((Int32.toUInt32 x0 >>> (Int32.toUInt32 1 &&& Int32.toUInt32 31)).toInt32) &&& 1431655765)) &&& 858993459) + (((Int32.toUInt32 (x0 - (((Int32.toUInt32 x0 >>> (Int32.toUInt32 1 &&& Int32.toUInt32 31)).toInt32) &&& 1431655765)) >>> (Int32.toUInt32 2 &&& Int32.toUInt32 31)).toInt32) &&& 858993459)) + ((Int32.toUInt32 (((x0 - (((Int32.toUInt32 x0 >>> (Int32.toUInt32 1 &&& Int32.toUInt32 31)).toInt32) &&& 1431655765)) &&& 858993459) + (((Int32.toUInt32 (x0 - (((Int32.toUInt32 x0 >>> (Int32.toUInt32 1 &&& Int32.toUInt32 31)).toInt32) &&& 1431655765)) >>> (Int32.toUInt32 2 &&& Int32.toUInt32 31)).toInt32) &&& 858993459)) >>> (Int32.toUInt32 4 &&& Int32.toUInt32 31)).toInt32)) &&& 252645135))]) hx hb dJ6_bitCount_0f7a4_33 rfl hl (by decide) rfl (fun ls hl => ?_)
  refine lv_iload_n hx hb dJ6_bitCount_0f7a4_34 rfl (lv_at hl 0 rfl) ?_
  refine lv_iload_n hx hb dJ6_bitCount_0f7a4_35 rfl (lv_at hl 0 rfl) ?_
  refine lv_bipush (v := 8) hx hb dJ6_bitCount_0f7a4_36 (by decide +kernel) ?_
  refine lv_iushr (v := (Int32.toUInt32 (((((x0 - (((Int32.toUInt32 x0 >>> (Int32.toUInt32 1 &&& Int32.toUInt32 31)).toInt32) &&& 1431655765)) &&& 858993459) + (((Int32.toUInt32 (x0 - (((Int32.toUInt32 x0 >>> (Int32.toUInt32 1 &&& Int32.toUInt32 31)).toInt32) &&& 1431655765)) >>> (Int32.toUInt32 2 &&& Int32.toUInt32 31)).toInt32) &&& 858993459)) + ((Int32.toUInt32 (((x0 - (((Int32.toUInt32 x0 >>> (Int32.toUInt32 1 &&& Int32.toUInt32 31)).toInt32) &&& 1431655765)) &&& 858993459) + (((Int32.toUInt32 (x0 - (((Int32.toUInt32 x0 >>> (Int32.toUInt32 1 &&& Int32.toUInt32 31)).toInt32) &&& 1431655765)) >>> (Int32.toUInt32 2 &&& Int32.toUInt32 31)).toInt32) &&& 858993459)) >>> (Int32.toUInt32 4 &&& Int32.toUInt32 31)).toInt32)) &&& 252645135) >>> (Int32.toUInt32 8 &&& Int32.toUInt32 31)).toInt32) hx hb dJ6_bitCount_0f7a4_38 rfl ?_
  refine lv_iadd hx hb dJ6_bitCount_0f7a4_39 ?_
  refine lv_istore_n (lv' := [(0, .int ((((((x0 - (((Int32.toUInt32 x0 >>> (Int32.toUInt32 1 &&& Int32.toUInt32 31)).toInt32) &&& 1431655765)) &&& 858993459) + (((Int32.toUInt32 (x0 - (((Int32.toUInt32 x0 >>> (Int32.toUInt32 1 &&& Int32.toUInt32 31)).toInt32) &&& 1431655765)) >>> (Int32.toUInt32 2 &&& Int32.toUInt32 31)).toInt32) &&& 858993459)) + ((Int32.toUInt32 (((x0 - (((Int32.toUInt32 x0 >>> (Int32.toUInt32 1 &&& Int32.toUInt32 31)).toInt32) &&& 1431655765)) &&& 858993459) + (((Int32.toUInt32 (x0 - (((Int32.toUInt32 x0 >>> (Int32.toUInt32 1 &&& Int32.toUInt32 31)).toInt32) &&& 1431655765)) >>> (Int32.toUInt32 2 &&& Int32.toUInt32 31)).toInt32) &&& 858993459)) >>> (Int32.toUInt32 4 &&& Int32.toUInt32 31)).toInt32)) &&& 252645135) + ((Int32.toUInt32 (((((x0 - (((Int32.toUInt32 x0 >>> (Int32.toUInt32 1 &&& Int32.toUInt32 31)).toInt32) &&& 1431655765)) &&& 858993459) + (((Int32.toUInt32 (x0 - (((Int32.toUInt32 x0 >>> (Int32.toUInt32 1 &&& Int32.toUInt32 31)).toInt32) &&& 1431655765)) >>> (Int32.toUInt32 2 &&& Int32.toUInt32 31)).toInt32) &&& 858993459)) + ((Int32.toUInt32 (((x0 - (((Int32.toUInt32 x0 >>> (Int32.toUInt32 1 &&& Int32.toUInt32 31)).toInt32) &&& 1431655765)) &&& 858993459) + (((Int32.toUInt32 (x0 - (((Int32.toUInt32 x0 >>> (Int32.toUInt32 1 &&& Int32.toUInt32 31)).toInt32) &&& 1431655765)) >>> (Int32.toUInt32 2 &&& Int32.toUInt32 31)).toInt32) &&& 858993459)) >>> (Int32.toUInt32 4 &&& Int32.toUInt32 31)).toInt32)) &&& 252645135) >>> (Int32.toUInt32 8 &&& Int32.toUInt32 31)).toInt32)))]) hx hb dJ6_bitCount_0f7a4_40 rfl hl (by decide) rfl (fun ls hl => ?_)
  refine lv_iload_n hx hb dJ6_bitCount_0f7a4_41 rfl (lv_at hl 0 rfl) ?_
  refine lv_iload_n hx hb dJ6_bitCount_0f7a4_42 rfl (lv_at hl 0 rfl) ?_
  refine lv_bipush (v := 16) hx hb dJ6_bitCount_0f7a4_43 (by decide +kernel) ?_
  refine lv_iushr (v := (Int32.toUInt32 ((((((x0 - (((Int32.toUInt32 x0 >>> (Int32.toUInt32 1 &&& Int32.toUInt32 31)).toInt32) &&& 1431655765)) &&& 858993459) + (((Int32.toUInt32 (x0 - (((Int32.toUInt32 x0 >>> (Int32.toUInt32 1 &&& Int32.toUInt32 31)).toInt32) &&& 1431655765)) >>> (Int32.toUInt32 2 &&& Int32.toUInt32 31)).toInt32) &&& 858993459)) + ((Int32.toUInt32 (((x0 - (((Int32.toUInt32 x0 >>> (Int32.toUInt32 1 &&& Int32.toUInt32 31)).toInt32) &&& 1431655765)) &&& 858993459) + (((Int32.toUInt32 (x0 - (((Int32.toUInt32 x0 >>> (Int32.toUInt32 1 &&& Int32.toUInt32 31)).toInt32) &&& 1431655765)) >>> (Int32.toUInt32 2 &&& Int32.toUInt32 31)).toInt32) &&& 858993459)) >>> (Int32.toUInt32 4 &&& Int32.toUInt32 31)).toInt32)) &&& 252645135) + ((Int32.toUInt32 (((((x0 - (((Int32.toUInt32 x0 >>> (Int32.toUInt32 1 &&& Int32.toUInt32 31)).toInt32) &&& 1431655765)) &&& 858993459) + (((Int32.toUInt32 (x0 - (((Int32.toUInt32 x0 >>> (Int32.toUInt32 1 &&& Int32.toUInt32 31)).toInt32) &&& 1431655765)) >>> (Int32.toUInt32 2 &&& Int32.toUInt32 31)).toInt32) &&& 858993459)) + ((Int32.toUInt32 (((x0 - (((Int32.toUInt32 x0 >>> (Int32.toUInt32 1 &&& Int32.toUInt32 31)).toInt32) &&& 1431655765)) &&& 858993459) + (((Int32.toUInt32 (x0 - (((Int32.toUInt32 x0 >>> (Int32.toUInt32 1 &&& Int32.toUInt32 31)).toInt32) &&& 1431655765)) >>> (Int32.toUInt32 2 &&& Int32.toUInt32 31)).toInt32) &&& 858993459)) >>> (Int32.toUInt32 4 &&& Int32.toUInt32 31)).toInt32)) &&& 252645135) >>> (Int32.toUInt32 8 &&& Int32.toUInt32 31)).toInt32)) >>> (Int32.toUInt32 16 &&& Int32.toUInt32 31)).toInt32) hx hb dJ6_bitCount_0f7a4_45 rfl ?_
  refine lv_iadd hx hb dJ6_bitCount_0f7a4_46 ?_
  refine lv_istore_n (lv' := [(0, .int (((((((x0 - (((Int32.toUInt32 x0 >>> (Int32.toUInt32 1 &&& Int32.toUInt32 31)).toInt32) &&& 1431655765)) &&& 858993459) + (((Int32.toUInt32 (x0 - (((Int32.toUInt32 x0 >>> (Int32.toUInt32 1 &&& Int32.toUInt32 31)).toInt32) &&& 1431655765)) >>> (Int32.toUInt32 2 &&& Int32.toUInt32 31)).toInt32) &&& 858993459)) + ((Int32.toUInt32 (((x0 - (((Int32.toUInt32 x0 >>> (Int32.toUInt32 1 &&& Int32.toUInt32 31)).toInt32) &&& 1431655765)) &&& 858993459) + (((Int32.toUInt32 (x0 - (((Int32.toUInt32 x0 >>> (Int32.toUInt32 1 &&& Int32.toUInt32 31)).toInt32) &&& 1431655765)) >>> (Int32.toUInt32 2 &&& Int32.toUInt32 31)).toInt32) &&& 858993459)) >>> (Int32.toUInt32 4 &&& Int32.toUInt32 31)).toInt32)) &&& 252645135) + ((Int32.toUInt32 (((((x0 - (((Int32.toUInt32 x0 >>> (Int32.toUInt32 1 &&& Int32.toUInt32 31)).toInt32) &&& 1431655765)) &&& 858993459) + (((Int32.toUInt32 (x0 - (((Int32.toUInt32 x0 >>> (Int32.toUInt32 1 &&& Int32.toUInt32 31)).toInt32) &&& 1431655765)) >>> (Int32.toUInt32 2 &&& Int32.toUInt32 31)).toInt32) &&& 858993459)) + ((Int32.toUInt32 (((x0 - (((Int32.toUInt32 x0 >>> (Int32.toUInt32 1 &&& Int32.toUInt32 31)).toInt32) &&& 1431655765)) &&& 858993459) + (((Int32.toUInt32 (x0 - (((Int32.toUInt32 x0 >>> (Int32.toUInt32 1 &&& Int32.toUInt32 31)).toInt32) &&& 1431655765)) >>> (Int32.toUInt32 2 &&& Int32.toUInt32 31)).toInt32) &&& 858993459)) >>> (Int32.toUInt32 4 &&& Int32.toUInt32 31)).toInt32)) &&& 252645135) >>> (Int32.toUInt32 8 &&& Int32.toUInt32 31)).toInt32)) + ((Int32.toUInt32 ((((((x0 - (((Int32.toUInt32 x0 >>> (Int32.toUInt32 1 &&& Int32.toUInt32 31)).toInt32) &&& 1431655765)) &&& 858993459) + (((Int32.toUInt32 (x0 - (((Int32.toUInt32 x0 >>> (Int32.toUInt32 1 &&& Int32.toUInt32 31)).toInt32) &&& 1431655765)) >>> (Int32.toUInt32 2 &&& Int32.toUInt32 31)).toInt32) &&& 858993459)) + ((Int32.toUInt32 (((x0 - (((Int32.toUInt32 x0 >>> (Int32.toUInt32 1 &&& Int32.toUInt32 31)).toInt32) &&& 1431655765)) &&& 858993459) + (((Int32.toUInt32 (x0 - (((Int32.toUInt32 x0 >>> (Int32.toUInt32 1 &&& Int32.toUInt32 31)).toInt32) &&& 1431655765)) >>> (Int32.toUInt32 2 &&& Int32.toUInt32 31)).toInt32) &&& 858993459)) >>> (Int32.toUInt32 4 &&& Int32.toUInt32 31)).toInt32)) &&& 252645135) + ((Int32.toUInt32 (((((x0 - (((Int32.toUInt32 x0 >>> (Int32.toUInt32 1 &&& Int32.toUInt32 31)).toInt32) &&& 1431655765)) &&& 858993459) + (((Int32.toUInt32 (x0 - (((Int32.toUInt32 x0 >>> (Int32.toUInt32 1 &&& Int32.toUInt32 31)).toInt32) &&& 1431655765)) >>> (Int32.toUInt32 2 &&& Int32.toUInt32 31)).toInt32) &&& 858993459)) + ((Int32.toUInt32 (((x0 - (((Int32.toUInt32 x0 >>> (Int32.toUInt32 1 &&& Int32.toUInt32 31)).toInt32) &&& 1431655765)) &&& 858993459) + (((Int32.toUInt32 (x0 - (((Int32.toUInt32 x0 >>> (Int32.toUInt32 1 &&& Int32.toUInt32 31)).toInt32) &&& 1431655765)) >>> (Int32.toUInt32 2 &&& Int32.toUInt32 31)).toInt32) &&& 858993459)) >>> (Int32.toUInt32 4 &&& Int32.toUInt32 31)).toInt32)) &&& 252645135) >>> (Int32.toUInt32 8 &&& Int32.toUInt32 31)).toInt32)) >>> (Int32.toUInt32 16 &&& Int32.toUInt32 31)).toInt32)))]) hx hb dJ6_bitCount_0f7a4_47 rfl hl (by decide) rfl (fun ls hl => ?_)
  refine lv_iload_n hx hb dJ6_bitCount_0f7a4_48 rfl (lv_at hl 0 rfl) ?_
  refine lv_bipush (v := 63) hx hb dJ6_bitCount_0f7a4_49 (by decide +kernel) ?_
  refine lv_iand hx hb dJ6_bitCount_0f7a4_51 ?_
  have hf := Option.some.inj hf
  subst hf
  exact ret_i C Z dJ6_bitCount_0f7a4_52
def L_X3_tellingOf_4 (k : Int32 → Int32 → Option (Int32)) (u : St) (x1 : Int32) : Nat → Int32 → Int32 → Option (Int32)
  | 0, _, _ => none
  | n + 1, x2, x3 =>
    if 4 ≤ x3 then
      k x2 x3
    else
      if oob x1 5 then none else
      if oob x3 4 then none else
      Option.bind (f_J6_bitCount_0f7a4 ((u.2.1 (31 + (Int32.toNatClampNeg x1))) (Int32.toNatClampNeg x3))) fun r18 =>
      L_X3_tellingOf_4 k u x1 n (x2 + r18) (x3 + 1)
set_option maxHeartbeats 4000000 in
set_option maxRecDepth 100000 in
theorem b_X3_tellingOf_4 {p : Program} {l : Launch} {e : Env} {s : State} {m : MethodId} {args : Array Value} {below : List Frame} {meth : Method} {c : Code} {g : Gx} {u : St} {x1 : Int32} {res : Int32} {k : Int32 → Int32 → Option (Int32)} (C : Cx p s m meth c args cX3_tellingOf RX3 4 (some .int) 82 g)
    (hk : ∀ (x2 x3 : Int32) (H : Heap) (locs : List Loc) (ls : Array Slot), Zx wC g (Aw 82 g s.heap.size) s H locs u → lv_has ls 4 [(2, .int x2)] → k x2 x3 = some res → W p l e (rmX 1 20) s m args below meth c H locs 0 0 (QI wC 82 g res u below args s) (F0 m 29 ls [])) :
    ∀ (n : Nat) (x2 x3 : Int32) (H : Heap) (locs : List Loc) (ls : Array Slot), Zx wC g (Aw 82 g s.heap.size) s H locs u → lv_has ls 4 [(0, .ref (g.2.2 42)), (1, .int x1), (2, .int x2), (3, .int x3)] → L_X3_tellingOf_4 k u x1 n x2 x3 = some res → W p l e (rmX 1 20) s m args below meth c H locs 0 0 (QI wC 82 g res u below args s) (F0 m 4 ls []) := by
  have hx := C.1
  have hb := C.2.1
  intro n
  induction n with
  | zero =>
    intro x2 x3 H locs ls Z hl hf
    rw [L_X3_tellingOf_4.eq_1] at hf
    cases hf
  | succ n ih =>
    intro x2 x3 H locs ls Z hl hf
    rw [L_X3_tellingOf_4.eq_2] at hf
    refine lv_iload_n hx hb dX3_tellingOf_4 rfl (lv_at hl 3 rfl) ?_
    refine lv_iconst (v := 4) hx hb dX3_tellingOf_5 (by decide +kernel) ?_
    refine lv_icmp_ge (tgt := 29) hx hb dX3_tellingOf_6 (by decide) (fun hc6 => ?_) (fun hc6 => ?_)
    · rw [if_pos hc6] at hf
      exact hk _ _ H locs ls Z (lv_sub hl [2] rfl) hf
    · rw [if_neg hc6] at hf
      refine lv_iload_n hx hb dX3_tellingOf_9 rfl (lv_at hl 2 rfl) ?_
      refine lv_aload_n hx hb dX3_tellingOf_10 rfl (lv_at hl 0 rfl) ?_
      refine gC_42_3 C Z (fl_of C mw_228) dX3_tellingOf_11 ?_
      refine lv_iload_n hx hb dX3_tellingOf_14 rfl (lv_at hl 1 rfl) ?_
      by_cases ho15 : oob x1 5 = true
      · rw [if_pos ho15] at hf; cases hf
      rw [if_neg ho15] at hf
      refine r_aldr C Z (aC_44 g _) ho15 dX3_tellingOf_15 (b := g.2.2 (45 + (Int32.toNatClampNeg x1))) rfl ?_
      refine lv_iload_n hx hb dX3_tellingOf_16 rfl (lv_at hl 3 rfl) ?_
      by_cases ho17 : oob x3 4 = true
      · rw [if_pos ho17] at hf; cases hf
      rw [if_neg ho17] at hf
      refine r_ald C Z (arC_44 g _ (oob_lt ho15) (f := (u.2.1 (31 + (Int32.toNatClampNeg x1)))) rfl) ho17 rfl dX3_tellingOf_17 (x := ((u.2.1 (31 + (Int32.toNatClampNeg x1))) (Int32.toNatClampNeg x3))) rfl ?_
      obtain ⟨r18, hr18, hf⟩ := Option.bind_eq_some_iff.mp hf
      refine call_si (As := [.int ((u.2.1 (31 + (Int32.toNatClampNeg x1))) (Int32.toNatClampNeg x3))]) (rest := [.int x2]) C Z (c_J6_bitCount_0f7a4 l hr18) mf_J6_bitCount_0f7a4 (ml_of C mw_488) rfl ⟨rfl, rfl, by decide, by decide⟩ rfl hl.1 (Nat.le_of_ble_eq_true rfl) dX3_tellingOf_18 (fun H locs Z => ?_)
      refine lv_iadd hx hb dX3_tellingOf_21 ?_
      refine lv_istore_n (lv' := [(2, .int (x2 + r18)), (0, .ref (g.2.2 42)), (1, .int x1), (3, .int x3)]) hx hb dX3_tellingOf_22 rfl hl (by decide) rfl (fun ls hl => ?_)
      refine lv_iinc (v := (x3 + 1)) (lv' := [(3, .int (x3 + 1)), (2, .int (x2 + r18)), (0, .ref (g.2.2 42)), (1, .int x1)]) hx hb dX3_tellingOf_23 hl (k := 3) rfl rfl (by decide) rfl (fun ls hl => ?_)
      refine lv_goto (tgt := 4) hx hb dX3_tellingOf_26 (by decide) ?_
      exact ih _ _ _ _ _ Z (lv_sub hl [2, 3, 1, 0] rfl) hf
def f_X3_tellingOf (u : St) (x1 : Int32) : Option (Int32) :=
  L_X3_tellingOf_4 (fun x2 x3 =>
    some x2) u x1 FU 0 0
set_option maxHeartbeats 4000000 in
set_option maxRecDepth 100000 in
theorem c_X3_tellingOf (l : Launch) {g : Gx} {u : St} {x1 : Int32} {res : Int32} (hf : f_X3_tellingOf u x1 = some res) : CI wC 82 l yX3_tellingOf (wsY yX3_tellingOf cX3_tellingOf 4 (some .int)) (rmX 1 20) g [.ref (g.2.2 42), .int x1] u res u := by
  refine CI_start (by decide +kernel) rfl (Nat.le_of_ble_eq_true rfl) (fun {p e s m args below meth c ls} C Z hl => ?_)
  have hl : lv_has ls 4 [(0, .ref (g.2.2 42)), (1, .int x1)] := hl
  have hx := C.1
  have hb := C.2.1
  unfold f_X3_tellingOf at hf
  refine lv_iconst (v := 0) hx hb dX3_tellingOf_0 (by decide +kernel) ?_
  refine lv_istore_n (lv' := [(2, .int 0), (0, .ref (g.2.2 42)), (1, .int x1)]) hx hb dX3_tellingOf_1 rfl hl (by decide) rfl (fun ls hl => ?_)
  refine lv_iconst (v := 0) hx hb dX3_tellingOf_2 (by decide +kernel) ?_
  refine lv_istore_n (lv' := [(3, .int 0), (2, .int 0), (0, .ref (g.2.2 42)), (1, .int x1)]) hx hb dX3_tellingOf_3 rfl hl (by decide) rfl (fun ls hl => ?_)
  refine b_X3_tellingOf_4 C (fun x2 x3 H locs ls Z hl hf => ?_) FU _ _ _ _ _ Z (lv_sub hl [2, 3, 1, 0] rfl) hf
  refine lv_iload_n hx hb dX3_tellingOf_29 rfl (lv_at hl 0 rfl) ?_
  have hf := Option.some.inj hf
  subst hf
  exact ret_i C Z dX3_tellingOf_30
def f_X7_cock (u : St) (x1 x2 : Int32) : Option (Int32) :=
  Option.bind (f_X7_isCock u x1) fun r2 =>
  if r2 = 0 then
    some (-1)
  else
    if x2 = 0 then
      if oob x1 5 then none else
      if oob x2 4 then none else
      some ((u.2.1 (17 + (Int32.toNatClampNeg x1))) (Int32.toNatClampNeg x2))
    else
    if x2 = 1 then
      if oob x1 5 then none else
      if oob x2 4 then none else
      some ((u.2.1 (17 + (Int32.toNatClampNeg x1))) (Int32.toNatClampNeg x2))
    else
    if x2 = 2 then
      if oob x1 5 then none else
      if oob x2 4 then none else
      some ((u.2.1 (17 + (Int32.toNatClampNeg x1))) (Int32.toNatClampNeg x2))
    else
    if x2 = 3 then
      if oob x1 5 then none else
      if oob x2 4 then none else
      some ((u.2.1 (17 + (Int32.toNatClampNeg x1))) (Int32.toNatClampNeg x2))
    else
    if x2 = 4 then
      Option.bind (f_X6_eyeOf u x1) fun r76 =>
      some r76
    else
    if x2 = 5 then
      Option.bind (f_X1_sideOf u x1 (u.1 10)) fun r98 =>
      some r98
    else
    if x2 = 6 then
      Option.bind (f_X3_isAsked u x1) fun r110 =>
      if r110 = 0 then
        some 0
      else
        some 1
    else
    if x2 = 7 then
      Option.bind (f_X3_tellingOf u x1) fun r130 =>
      some r130
    else
    some (-1)
set_option maxHeartbeats 4000000 in
set_option maxRecDepth 100000 in
theorem c_X7_cock (l : Launch) {g : Gx} {u : St} {x1 x2 : Int32} {res : Int32} (hf : f_X7_cock u x1 x2 = some res) : CI wC 82 l yX7_cock (wsY yX7_cock cX7_cock 3 (some .int)) (rmX 2 45) g [.ref (g.2.2 0), .int x1, .int x2] u res u := by
  refine CI_start (by decide +kernel) rfl (Nat.le_of_ble_eq_true rfl) (fun {p e s m args below meth c ls} C Z hl => ?_)
  have hl : lv_has ls 3 [(0, .ref (g.2.2 0)), (1, .int x1), (2, .int x2)] := hl
  have hx := C.1
  have hb := C.2.1
  unfold f_X7_cock at hf
  refine lv_aload_n hx hb dX7_cock_0 rfl (lv_at hl 0 rfl) ?_
  refine lv_iload_n hx hb dX7_cock_1 rfl (lv_at hl 1 rfl) ?_
  obtain ⟨r2, hr2, hf⟩ := Option.bind_eq_some_iff.mp hf
  refine call_vi (As := [.int x1]) (rest := []) C Z (c_X7_isCock l hr2) mf_X7_isCock (ml_of C mw_462) rfl (oC_0 g _) rfl ⟨rfl, rfl, by decide, by decide⟩ rfl hl.1 (Nat.le_of_ble_eq_true rfl) dX7_cock_2 (fun H locs Z => ?_)
  refine lv_if_ne (tgt := 10) hx hb dX7_cock_5 (by decide) (fun hc5 => ?_) (fun hc5 => ?_)
  · rw [if_neg hc5] at hf
    refine lv_iload_n hx hb dX7_cock_10 rfl (lv_at hl 2 rfl) ?_
    by_cases hs11_0 : x2 = 0
    · rw [if_pos hs11_0] at hf
      refine lv_tableIn (tgt := 56) hx hb dX7_cock_11 (by rw [hs11_0]; decide) (by rw [hs11_0]; decide) (by rw [hs11_0]; first | done | rfl) (by decide) ?_
      refine lv_aload_n hx hb dX7_cock_56 rfl (lv_at hl 0 rfl) ?_
      refine gC_0_2 C Z (fl_of C mw_307) dX7_cock_57 ?_
      refine gC_23_0 C Z (fl_nest C nw_98) dX7_cock_60 ?_
      refine gC_24_1 C Z (fl_nest C nw_76) dX7_cock_63 ?_
      refine lv_iload_n hx hb dX7_cock_66 rfl (lv_at hl 1 rfl) ?_
      by_cases ho67 : oob x1 5 = true
      · rw [if_pos ho67] at hf; cases hf
      rw [if_neg ho67] at hf
      refine r_aldr C Z (aC_26 g _) ho67 dX7_cock_67 (b := g.2.2 (27 + (Int32.toNatClampNeg x1))) rfl ?_
      refine lv_iload_n hx hb dX7_cock_68 rfl (lv_at hl 2 rfl) ?_
      by_cases ho69 : oob x2 4 = true
      · rw [if_pos ho69] at hf; cases hf
      rw [if_neg ho69] at hf
      refine r_ald C Z (arC_26 g _ (oob_lt ho67) (f := (u.2.1 (17 + (Int32.toNatClampNeg x1)))) rfl) ho69 rfl dX7_cock_69 (x := ((u.2.1 (17 + (Int32.toNatClampNeg x1))) (Int32.toNatClampNeg x2))) rfl ?_
      have hf := Option.some.inj hf
      subst hf
      exact ret_i C Z dX7_cock_70
    rw [if_neg hs11_0] at hf
    by_cases hs11_1 : x2 = 1
    · rw [if_pos hs11_1] at hf
      refine lv_tableIn (tgt := 56) hx hb dX7_cock_11 (by rw [hs11_1]; decide) (by rw [hs11_1]; decide) (by rw [hs11_1]; first | done | rfl) (by decide) ?_
      refine lv_aload_n hx hb dX7_cock_56 rfl (lv_at hl 0 rfl) ?_
      refine gC_0_2 C Z (fl_of C mw_307) dX7_cock_57 ?_
      refine gC_23_0 C Z (fl_nest C nw_98) dX7_cock_60 ?_
      refine gC_24_1 C Z (fl_nest C nw_76) dX7_cock_63 ?_
      refine lv_iload_n hx hb dX7_cock_66 rfl (lv_at hl 1 rfl) ?_
      by_cases ho67 : oob x1 5 = true
      · rw [if_pos ho67] at hf; cases hf
      rw [if_neg ho67] at hf
      refine r_aldr C Z (aC_26 g _) ho67 dX7_cock_67 (b := g.2.2 (27 + (Int32.toNatClampNeg x1))) rfl ?_
      refine lv_iload_n hx hb dX7_cock_68 rfl (lv_at hl 2 rfl) ?_
      by_cases ho69 : oob x2 4 = true
      · rw [if_pos ho69] at hf; cases hf
      rw [if_neg ho69] at hf
      refine r_ald C Z (arC_26 g _ (oob_lt ho67) (f := (u.2.1 (17 + (Int32.toNatClampNeg x1)))) rfl) ho69 rfl dX7_cock_69 (x := ((u.2.1 (17 + (Int32.toNatClampNeg x1))) (Int32.toNatClampNeg x2))) rfl ?_
      have hf := Option.some.inj hf
      subst hf
      exact ret_i C Z dX7_cock_70
    rw [if_neg hs11_1] at hf
    by_cases hs11_2 : x2 = 2
    · rw [if_pos hs11_2] at hf
      refine lv_tableIn (tgt := 56) hx hb dX7_cock_11 (by rw [hs11_2]; decide) (by rw [hs11_2]; decide) (by rw [hs11_2]; first | done | rfl) (by decide) ?_
      refine lv_aload_n hx hb dX7_cock_56 rfl (lv_at hl 0 rfl) ?_
      refine gC_0_2 C Z (fl_of C mw_307) dX7_cock_57 ?_
      refine gC_23_0 C Z (fl_nest C nw_98) dX7_cock_60 ?_
      refine gC_24_1 C Z (fl_nest C nw_76) dX7_cock_63 ?_
      refine lv_iload_n hx hb dX7_cock_66 rfl (lv_at hl 1 rfl) ?_
      by_cases ho67 : oob x1 5 = true
      · rw [if_pos ho67] at hf; cases hf
      rw [if_neg ho67] at hf
      refine r_aldr C Z (aC_26 g _) ho67 dX7_cock_67 (b := g.2.2 (27 + (Int32.toNatClampNeg x1))) rfl ?_
      refine lv_iload_n hx hb dX7_cock_68 rfl (lv_at hl 2 rfl) ?_
      by_cases ho69 : oob x2 4 = true
      · rw [if_pos ho69] at hf; cases hf
      rw [if_neg ho69] at hf
      refine r_ald C Z (arC_26 g _ (oob_lt ho67) (f := (u.2.1 (17 + (Int32.toNatClampNeg x1)))) rfl) ho69 rfl dX7_cock_69 (x := ((u.2.1 (17 + (Int32.toNatClampNeg x1))) (Int32.toNatClampNeg x2))) rfl ?_
      have hf := Option.some.inj hf
      subst hf
      exact ret_i C Z dX7_cock_70
    rw [if_neg hs11_2] at hf
    by_cases hs11_3 : x2 = 3
    · rw [if_pos hs11_3] at hf
      refine lv_tableIn (tgt := 56) hx hb dX7_cock_11 (by rw [hs11_3]; decide) (by rw [hs11_3]; decide) (by rw [hs11_3]; first | done | rfl) (by decide) ?_
      refine lv_aload_n hx hb dX7_cock_56 rfl (lv_at hl 0 rfl) ?_
      refine gC_0_2 C Z (fl_of C mw_307) dX7_cock_57 ?_
      refine gC_23_0 C Z (fl_nest C nw_98) dX7_cock_60 ?_
      refine gC_24_1 C Z (fl_nest C nw_76) dX7_cock_63 ?_
      refine lv_iload_n hx hb dX7_cock_66 rfl (lv_at hl 1 rfl) ?_
      by_cases ho67 : oob x1 5 = true
      · rw [if_pos ho67] at hf; cases hf
      rw [if_neg ho67] at hf
      refine r_aldr C Z (aC_26 g _) ho67 dX7_cock_67 (b := g.2.2 (27 + (Int32.toNatClampNeg x1))) rfl ?_
      refine lv_iload_n hx hb dX7_cock_68 rfl (lv_at hl 2 rfl) ?_
      by_cases ho69 : oob x2 4 = true
      · rw [if_pos ho69] at hf; cases hf
      rw [if_neg ho69] at hf
      refine r_ald C Z (arC_26 g _ (oob_lt ho67) (f := (u.2.1 (17 + (Int32.toNatClampNeg x1)))) rfl) ho69 rfl dX7_cock_69 (x := ((u.2.1 (17 + (Int32.toNatClampNeg x1))) (Int32.toNatClampNeg x2))) rfl ?_
      have hf := Option.some.inj hf
      subst hf
      exact ret_i C Z dX7_cock_70
    rw [if_neg hs11_3] at hf
    by_cases hs11_4 : x2 = 4
    · rw [if_pos hs11_4] at hf
      refine lv_tableIn (tgt := 71) hx hb dX7_cock_11 (by rw [hs11_4]; decide) (by rw [hs11_4]; decide) (by rw [hs11_4]; first | done | rfl) (by decide) ?_
      refine lv_aload_n hx hb dX7_cock_71 rfl (lv_at hl 0 rfl) ?_
      refine gC_0_2 C Z (fl_of C mw_307) dX7_cock_72 ?_
      refine lv_iload_n hx hb dX7_cock_75 rfl (lv_at hl 1 rfl) ?_
      obtain ⟨r76, hr76, hf⟩ := Option.bind_eq_some_iff.mp hf
      refine call_vi (As := [.int x1]) (rest := []) C Z (c_X6_eyeOf l hr76) mf_X6_eyeOf (ml_nest C nw_24) rfl (oC_23 g _) rfl ⟨rfl, rfl, by decide, by decide⟩ rfl hl.1 (Nat.le_of_ble_eq_true rfl) dX7_cock_76 (fun H locs Z => ?_)
      have hf := Option.some.inj hf
      subst hf
      exact ret_i C Z dX7_cock_79
    rw [if_neg hs11_4] at hf
    by_cases hs11_5 : x2 = 5
    · rw [if_pos hs11_5] at hf
      refine lv_tableIn (tgt := 80) hx hb dX7_cock_11 (by rw [hs11_5]; decide) (by rw [hs11_5]; decide) (by rw [hs11_5]; first | done | rfl) (by decide) ?_
      refine lv_aload_n hx hb dX7_cock_80 rfl (lv_at hl 0 rfl) ?_
      refine gC_0_2 C Z (fl_of C mw_307) dX7_cock_81 ?_
      refine gC_23_0 C Z (fl_nest C nw_98) dX7_cock_84 ?_
      refine lv_iload_n hx hb dX7_cock_87 rfl (lv_at hl 1 rfl) ?_
      refine lv_aload_n hx hb dX7_cock_88 rfl (lv_at hl 0 rfl) ?_
      refine gC_0_2 C Z (fl_of C mw_307) dX7_cock_89 ?_
      refine gC_23_1 C Z (fl_nest C nw_100) dX7_cock_92 ?_
      refine gC_42_0 C Z (fl_nest C nw_87) dX7_cock_95 (x := (u.1 10)) rfl ?_
      obtain ⟨r98, hr98, hf⟩ := Option.bind_eq_some_iff.mp hf
      refine call_vi (As := [.int x1, .int (u.1 10)]) (rest := []) C Z (c_X1_sideOf l hr98) mf_X1_sideOf (ml_nest C nw_25) rfl (oC_24 g _) rfl ⟨rfl, rfl, by decide, by decide⟩ rfl hl.1 (Nat.le_of_ble_eq_true rfl) dX7_cock_98 (fun H locs Z => ?_)
      have hf := Option.some.inj hf
      subst hf
      exact ret_i C Z dX7_cock_101
    rw [if_neg hs11_5] at hf
    by_cases hs11_6 : x2 = 6
    · rw [if_pos hs11_6] at hf
      refine lv_tableIn (tgt := 102) hx hb dX7_cock_11 (by rw [hs11_6]; decide) (by rw [hs11_6]; decide) (by rw [hs11_6]; first | done | rfl) (by decide) ?_
      refine lv_aload_n hx hb dX7_cock_102 rfl (lv_at hl 0 rfl) ?_
      refine gC_0_2 C Z (fl_of C mw_307) dX7_cock_103 ?_
      refine gC_23_1 C Z (fl_nest C nw_100) dX7_cock_106 ?_
      refine lv_iload_n hx hb dX7_cock_109 rfl (lv_at hl 1 rfl) ?_
      obtain ⟨r110, hr110, hf⟩ := Option.bind_eq_some_iff.mp hf
      refine call_vi (As := [.int x1]) (rest := []) C Z (c_X3_isAsked l hr110) mf_X3_isAsked (ml_nest C nw_27) rfl (oC_42 g _) rfl ⟨rfl, rfl, by decide, by decide⟩ rfl hl.1 (Nat.le_of_ble_eq_true rfl) dX7_cock_110 (fun H locs Z => ?_)
      refine lv_if_eq (tgt := 120) hx hb dX7_cock_113 (by decide) (fun hc113 => ?_) (fun hc113 => ?_)
      · rw [if_pos hc113] at hf
        refine lv_iconst (v := 0) hx hb dX7_cock_120 (by decide +kernel) ?_
        have hf := Option.some.inj hf
        subst hf
        exact ret_i C Z dX7_cock_121
      · rw [if_neg hc113] at hf
        refine lv_iconst (v := 1) hx hb dX7_cock_116 (by decide +kernel) ?_
        refine lv_goto (tgt := 121) hx hb dX7_cock_117 (by decide) ?_
        have hf := Option.some.inj hf
        subst hf
        exact ret_i C Z dX7_cock_121
    rw [if_neg hs11_6] at hf
    by_cases hs11_7 : x2 = 7
    · rw [if_pos hs11_7] at hf
      refine lv_tableIn (tgt := 122) hx hb dX7_cock_11 (by rw [hs11_7]; decide) (by rw [hs11_7]; decide) (by rw [hs11_7]; first | done | rfl) (by decide) ?_
      refine lv_aload_n hx hb dX7_cock_122 rfl (lv_at hl 0 rfl) ?_
      refine gC_0_2 C Z (fl_of C mw_307) dX7_cock_123 ?_
      refine gC_23_1 C Z (fl_nest C nw_100) dX7_cock_126 ?_
      refine lv_iload_n hx hb dX7_cock_129 rfl (lv_at hl 1 rfl) ?_
      obtain ⟨r130, hr130, hf⟩ := Option.bind_eq_some_iff.mp hf
      refine call_vi (As := [.int x1]) (rest := []) C Z (c_X3_tellingOf l hr130) mf_X3_tellingOf (ml_nest C nw_29) rfl (oC_42 g _) rfl ⟨rfl, rfl, by decide, by decide⟩ rfl hl.1 (Nat.le_of_ble_eq_true rfl) dX7_cock_130 (fun H locs Z => ?_)
      have hf := Option.some.inj hf
      subst hf
      exact ret_i C Z dX7_cock_133
    rw [if_neg hs11_7] at hf
    have e11_0 := lv_neT (a := 0) hs11_0 (by decide)
    have e11_1 := lv_neT (a := 1) hs11_1 (by decide)
    have e11_2 := lv_neT (a := 2) hs11_2 (by decide)
    have e11_3 := lv_neT (a := 3) hs11_3 (by decide)
    have e11_4 := lv_neT (a := 4) hs11_4 (by decide)
    have e11_5 := lv_neT (a := 5) hs11_5 (by decide)
    have e11_6 := lv_neT (a := 6) hs11_6 (by decide)
    have e11_7 := lv_neT (a := 7) hs11_7 (by decide)
    refine lv_tableOut (tgt := 134) hx hb dX7_cock_11 (by omega) (by decide) ?_
    refine lv_iconst (v := (-1)) hx hb dX7_cock_134 (by decide +kernel) ?_
    have hf := Option.some.inj hf
    subst hf
    exact ret_i C Z dX7_cock_135
  · rw [if_pos hc5] at hf
    refine lv_iconst (v := (-1)) hx hb dX7_cock_8 (by decide +kernel) ?_
    have hf := Option.some.inj hf
    subst hf
    exact ret_i C Z dX7_cock_9
