def L_X4_itemOf_2 (k : Int32 → Option (Int32)) (x0 : Int32) : Nat → Int32 → Option (Int32)
  | 0, _ => none
  | n + 1, x1 =>
    if 4 ≤ x1 then
      k x1
    else
      if oob x1 4 then none else
      if (kLET (Int32.toNatClampNeg x1)) = x0 then
        some x1
      else
        L_X4_itemOf_2 k x0 n (x1 + 1)
set_option maxHeartbeats 4000000 in
set_option maxRecDepth 100000 in
theorem b_X4_itemOf_2 {p : Program} {l : Launch} {e : Env} {s : State} {m : MethodId} {args : Array Value} {below : List Frame} {meth : Method} {c : Code} {g : Gx} {u : St} {x0 : Int32} {res : Int32} {k : Int32 → Option (Int32)} (C : Cx p s m meth c args cX4_itemOf RX4 2 (some .int) 82 g)
    (hk : ∀ (x1 : Int32) (H : Heap) (locs : List Loc) (ls : Array Slot), Zx wC g (Aw 82 g s.heap.size) s H locs u → lv_has ls 2 [] → k x1 = some res → W p l e (rmX 0 0) s m args below meth c H locs 0 0 (QI wC 82 g res u below args s) (F0 m 27 ls [])) :
    ∀ (n : Nat) (x1 : Int32) (H : Heap) (locs : List Loc) (ls : Array Slot), Zx wC g (Aw 82 g s.heap.size) s H locs u → lv_has ls 2 [(0, .int x0), (1, .int x1)] → L_X4_itemOf_2 k x0 n x1 = some res → W p l e (rmX 0 0) s m args below meth c H locs 0 0 (QI wC 82 g res u below args s) (F0 m 2 ls []) := by
  have hx := C.1
  have hb := C.2.1
  intro n
  induction n with
  | zero =>
    intro x1 H locs ls Z hl hf
    rw [L_X4_itemOf_2.eq_1] at hf
    cases hf
  | succ n ih =>
    intro x1 H locs ls Z hl hf
    rw [L_X4_itemOf_2.eq_2] at hf
    refine lv_iload_n hx hb dX4_itemOf_2 rfl (lv_at hl 1 rfl) ?_
    obtain ⟨t3, hz3, ht3⟩ := C.2.2.2.2.2.2.2.2.1.1
    refine r_gets C Z hz3 mw_390 dX4_itemOf_3 ?_
    refine r_tlen C Z ht3 (v := 4) rfl dX4_itemOf_6 ?_
    refine lv_icmp_ge (tgt := 27) hx hb dX4_itemOf_7 (by decide) (fun hc7 => ?_) (fun hc7 => ?_)
    · rw [if_pos hc7] at hf
      exact hk _ H locs ls Z (lv_sub hl [] rfl) hf
    · rw [if_neg hc7] at hf
      obtain ⟨t10, hz10, ht10⟩ := C.2.2.2.2.2.2.2.2.1.1
      refine r_gets C Z hz10 mw_390 dX4_itemOf_10 ?_
      refine lv_iload_n hx hb dX4_itemOf_13 rfl (lv_at hl 1 rfl) ?_
      by_cases ho14 : oob x1 4 = true
      · rw [if_pos ho14] at hf; cases hf
      rw [if_neg ho14] at hf
      refine r_tc C Z ht10 ho14 dX4_itemOf_14 ?_
      refine lv_iload_n hx hb dX4_itemOf_15 rfl (lv_at hl 0 rfl) ?_
      refine lv_icmp_ne (tgt := 21) hx hb dX4_itemOf_16 (by decide) (fun hc16 => ?_) (fun hc16 => ?_)
      · rw [if_neg hc16] at hf
        refine lv_iinc (v := (x1 + 1)) (lv' := [(1, .int (x1 + 1)), (0, .int x0)]) hx hb dX4_itemOf_21 hl (k := 1) rfl rfl (by decide) rfl (fun ls hl => ?_)
        refine lv_goto (tgt := 2) hx hb dX4_itemOf_24 (by decide) ?_
        exact ih _ _ _ _ Z (lv_sub hl [1, 0] rfl) hf
      · rw [if_pos hc16] at hf
        refine lv_iload_n hx hb dX4_itemOf_19 rfl (lv_at hl 1 rfl) ?_
        have hf := Option.some.inj hf
        subst hf
        exact ret_i C Z dX4_itemOf_20
def f_X4_itemOf (u : St) (x0 : Int32) : Option (Int32) :=
  L_X4_itemOf_2 (fun x1 =>
    some (-1)) x0 FU 0
set_option maxHeartbeats 4000000 in
set_option maxRecDepth 100000 in
theorem c_X4_itemOf (l : Launch) {g : Gx} {u : St} {x0 : Int32} {res : Int32} (hf : f_X4_itemOf u x0 = some res) : CI wC 82 l yX4_itemOf (wsY yX4_itemOf cX4_itemOf 2 (some .int)) (rmX 0 0) g [.int x0] u res u := by
  refine CI_start (by decide +kernel) rfl (Nat.le_of_ble_eq_true rfl) (fun {p e s m args below meth c ls} C Z hl => ?_)
  have hl : lv_has ls 2 [(0, .int x0)] := hl
  have hx := C.1
  have hb := C.2.1
  unfold f_X4_itemOf at hf
  refine lv_iconst (v := 0) hx hb dX4_itemOf_0 (by decide +kernel) ?_
  refine lv_istore_n (lv' := [(1, .int 0), (0, .int x0)]) hx hb dX4_itemOf_1 rfl hl (by decide) rfl (fun ls hl => ?_)
  refine b_X4_itemOf_2 C (fun x1 H locs ls Z hl hf => ?_) FU _ _ _ _ Z (lv_sub hl [1, 0] rfl) hf
  refine lv_iconst (v := (-1)) hx hb dX4_itemOf_27 (by decide +kernel) ?_
  have hf := Option.some.inj hf
  subst hf
  exact ret_i C Z dX4_itemOf_28
def f_X4_hasRoomFor (u : St) (x1 : Int32) : Option (Int32) :=
  if x1 = 1 then
    if 5 ≤ (u.1 4) then
      some 0
    else
      some 1
  else
  if x1 = 2 then
    if 4 ≤ (u.1 5) then
      some 0
    else
      some 1
  else
  if x1 = 3 then
    if 4 ≤ (u.1 6) then
      some 0
    else
      some 1
  else
  some 1
set_option maxHeartbeats 4000000 in
set_option maxRecDepth 100000 in
theorem c_X4_hasRoomFor (l : Launch) {g : Gx} {u : St} {x1 : Int32} {res : Int32} (hf : f_X4_hasRoomFor u x1 = some res) : CI wC 82 l yX4_hasRoomFor (wsY yX4_hasRoomFor cX4_hasRoomFor 2 (some .boolean)) (rmX 0 0) g [.ref (g.2.2 3), .int x1] u res u := by
  refine CI_start (by decide +kernel) rfl (Nat.le_of_ble_eq_true rfl) (fun {p e s m args below meth c ls} C Z hl => ?_)
  have hl : lv_has ls 2 [(0, .ref (g.2.2 3)), (1, .int x1)] := hl
  have hx := C.1
  have hb := C.2.1
  unfold f_X4_hasRoomFor at hf
  refine lv_iload_n hx hb dX4_hasRoomFor_0 rfl (lv_at hl 1 rfl) ?_
  by_cases hs1_1 : x1 = 1
  · rw [if_pos hs1_1] at hf
    refine lv_tableIn (tgt := 28) hx hb dX4_hasRoomFor_1 (by rw [hs1_1]; decide) (by rw [hs1_1]; decide) (by rw [hs1_1]; first | done | rfl) (by decide) ?_
    refine lv_aload_n hx hb dX4_hasRoomFor_28 rfl (lv_at hl 0 rfl) ?_
    refine gC_3_0 C Z (fl_of C mw_195) dX4_hasRoomFor_29 ?_
    refine gC_4_4 C Z (fl_nest C nw_78) dX4_hasRoomFor_32 (x := (u.1 4)) rfl ?_
    refine lv_iconst (v := 5) hx hb dX4_hasRoomFor_35 (by decide +kernel) ?_
    refine lv_icmp_ge (tgt := 43) hx hb dX4_hasRoomFor_36 (by decide) (fun hc36 => ?_) (fun hc36 => ?_)
    · rw [if_pos hc36] at hf
      refine lv_iconst (v := 0) hx hb dX4_hasRoomFor_43 (by decide +kernel) ?_
      have hf := Option.some.inj hf
      subst hf
      exact ret_z C Z rfl dX4_hasRoomFor_44
    · rw [if_neg hc36] at hf
      refine lv_iconst (v := 1) hx hb dX4_hasRoomFor_39 (by decide +kernel) ?_
      refine lv_goto (tgt := 44) hx hb dX4_hasRoomFor_40 (by decide) ?_
      have hf := Option.some.inj hf
      subst hf
      exact ret_z C Z rfl dX4_hasRoomFor_44
  rw [if_neg hs1_1] at hf
  by_cases hs1_2 : x1 = 2
  · rw [if_pos hs1_2] at hf
    refine lv_tableIn (tgt := 45) hx hb dX4_hasRoomFor_1 (by rw [hs1_2]; decide) (by rw [hs1_2]; decide) (by rw [hs1_2]; first | done | rfl) (by decide) ?_
    refine lv_aload_n hx hb dX4_hasRoomFor_45 rfl (lv_at hl 0 rfl) ?_
    refine gC_3_0 C Z (fl_of C mw_195) dX4_hasRoomFor_46 ?_
    refine gC_4_5 C Z (fl_nest C nw_81) dX4_hasRoomFor_49 (x := (u.1 5)) rfl ?_
    refine lv_iconst (v := 4) hx hb dX4_hasRoomFor_52 (by decide +kernel) ?_
    refine lv_icmp_ge (tgt := 60) hx hb dX4_hasRoomFor_53 (by decide) (fun hc53 => ?_) (fun hc53 => ?_)
    · rw [if_pos hc53] at hf
      refine lv_iconst (v := 0) hx hb dX4_hasRoomFor_60 (by decide +kernel) ?_
      have hf := Option.some.inj hf
      subst hf
      exact ret_z C Z rfl dX4_hasRoomFor_61
    · rw [if_neg hc53] at hf
      refine lv_iconst (v := 1) hx hb dX4_hasRoomFor_56 (by decide +kernel) ?_
      refine lv_goto (tgt := 61) hx hb dX4_hasRoomFor_57 (by decide) ?_
      have hf := Option.some.inj hf
      subst hf
      exact ret_z C Z rfl dX4_hasRoomFor_61
  rw [if_neg hs1_2] at hf
  by_cases hs1_3 : x1 = 3
  · rw [if_pos hs1_3] at hf
    refine lv_tableIn (tgt := 62) hx hb dX4_hasRoomFor_1 (by rw [hs1_3]; decide) (by rw [hs1_3]; decide) (by rw [hs1_3]; first | done | rfl) (by decide) ?_
    refine lv_aload_n hx hb dX4_hasRoomFor_62 rfl (lv_at hl 0 rfl) ?_
    refine gC_3_0 C Z (fl_of C mw_195) dX4_hasRoomFor_63 ?_
    refine gC_4_6 C Z (fl_nest C nw_84) dX4_hasRoomFor_66 (x := (u.1 6)) rfl ?_
    refine lv_iconst (v := 4) hx hb dX4_hasRoomFor_69 (by decide +kernel) ?_
    refine lv_icmp_ge (tgt := 77) hx hb dX4_hasRoomFor_70 (by decide) (fun hc70 => ?_) (fun hc70 => ?_)
    · rw [if_pos hc70] at hf
      refine lv_iconst (v := 0) hx hb dX4_hasRoomFor_77 (by decide +kernel) ?_
      have hf := Option.some.inj hf
      subst hf
      exact ret_z C Z rfl dX4_hasRoomFor_78
    · rw [if_neg hc70] at hf
      refine lv_iconst (v := 1) hx hb dX4_hasRoomFor_73 (by decide +kernel) ?_
      refine lv_goto (tgt := 78) hx hb dX4_hasRoomFor_74 (by decide) ?_
      have hf := Option.some.inj hf
      subst hf
      exact ret_z C Z rfl dX4_hasRoomFor_78
  rw [if_neg hs1_3] at hf
  have e1_1 := lv_neT (a := 1) hs1_1 (by decide)
  have e1_2 := lv_neT (a := 2) hs1_2 (by decide)
  have e1_3 := lv_neT (a := 3) hs1_3 (by decide)
  refine lv_tableOut (tgt := 79) hx hb dX4_hasRoomFor_1 (by omega) (by decide) ?_
  refine lv_iconst (v := 1) hx hb dX4_hasRoomFor_79 (by decide +kernel) ?_
  have hf := Option.some.inj hf
  subst hf
  exact ret_z C Z rfl dX4_hasRoomFor_80
def f_X4_mayBe (u : St) (x1 x2 x3 : Int32) : Option (Int32) :=
  if x1 = 3 then
    if x2 = 2 then
      if ((u.2.1 15) 1) ≤ x3 then
        if oob ((x1 * 4) + x2) 16 then none else
        Option.bind (f_X7_isWithin x3 (kLOW (Int32.toNatClampNeg ((x1 * 4) + x2))) (kHIG (Int32.toNatClampNeg ((x1 * 4) + x2)))) fun r41 =>
        if nb r41 then some r41 else none
      else
        some 0
    else
      if oob ((x1 * 4) + x2) 16 then none else
      Option.bind (f_X7_isWithin x3 (kLOW (Int32.toNatClampNeg ((x1 * 4) + x2))) (kHIG (Int32.toNatClampNeg ((x1 * 4) + x2)))) fun r41 =>
      if nb r41 then some r41 else none
  else
    if oob ((x1 * 4) + x2) 16 then none else
    Option.bind (f_X7_isWithin x3 (kLOW (Int32.toNatClampNeg ((x1 * 4) + x2))) (kHIG (Int32.toNatClampNeg ((x1 * 4) + x2)))) fun r41 =>
    if nb r41 then some r41 else none
set_option maxHeartbeats 4000000 in
set_option maxRecDepth 100000 in
theorem c_X4_mayBe (l : Launch) {g : Gx} {u : St} {x1 x2 x3 : Int32} {res : Int32} (hf : f_X4_mayBe u x1 x2 x3 = some res) : CI wC 82 l yX4_mayBe (wsY yX4_mayBe cX4_mayBe 4 (some .boolean)) (rmX 1 22) g [.ref (g.2.2 3), .int x1, .int x2, .int x3] u res u := by
  refine CI_start (by decide +kernel) rfl (Nat.le_of_ble_eq_true rfl) (fun {p e s m args below meth c ls} C Z hl => ?_)
  have hl : lv_has ls 4 [(0, .ref (g.2.2 3)), (1, .int x1), (2, .int x2), (3, .int x3)] := hl
  have hx := C.1
  have hb := C.2.1
  unfold f_X4_mayBe at hf
  refine lv_iload_n hx hb dX4_mayBe_0 rfl (lv_at hl 1 rfl) ?_
  refine lv_iconst (v := 3) hx hb dX4_mayBe_1 (by decide +kernel) ?_
  refine lv_icmp_ne (tgt := 22) hx hb dX4_mayBe_2 (by decide) (fun hc2 => ?_) (fun hc2 => ?_)
  · rw [if_neg hc2] at hf
    refine lv_iload_n hx hb dX4_mayBe_22 rfl (lv_at hl 3 rfl) ?_
    obtain ⟨t23, hz23, ht23⟩ := C.2.2.2.2.2.2.2.2.1.2.2.1
    refine r_gets C Z hz23 mw_402 dX4_mayBe_23 ?_
    refine lv_iload_n hx hb dX4_mayBe_26 rfl (lv_at hl 1 rfl) ?_
    refine lv_iconst (v := 4) hx hb dX4_mayBe_27 (by decide +kernel) ?_
    refine lv_imul hx hb dX4_mayBe_28 ?_
    refine lv_iload_n hx hb dX4_mayBe_29 rfl (lv_at hl 2 rfl) ?_
    refine lv_iadd hx hb dX4_mayBe_30 ?_
    by_cases ho31 : oob ((x1 * 4) + x2) 16 = true
    · rw [if_pos ho31] at hf; cases hf
    rw [if_neg ho31] at hf
    refine r_ti C Z ht23 ho31 dX4_mayBe_31 ?_
    obtain ⟨t32, hz32, ht32⟩ := C.2.2.2.2.2.2.2.2.1.2.2.2
    refine r_gets C Z hz32 mw_404 dX4_mayBe_32 ?_
    refine lv_iload_n hx hb dX4_mayBe_35 rfl (lv_at hl 1 rfl) ?_
    refine lv_iconst (v := 4) hx hb dX4_mayBe_36 (by decide +kernel) ?_
    refine lv_imul hx hb dX4_mayBe_37 ?_
    refine lv_iload_n hx hb dX4_mayBe_38 rfl (lv_at hl 2 rfl) ?_
    refine lv_iadd hx hb dX4_mayBe_39 ?_
    refine r_ti C Z ht32 ho31 dX4_mayBe_40 ?_
    obtain ⟨r41, hr41, hf⟩ := Option.bind_eq_some_iff.mp hf
    refine call_si (As := [.int x3, .int (kLOW (Int32.toNatClampNeg ((x1 * 4) + x2))), .int (kHIG (Int32.toNatClampNeg ((x1 * 4) + x2)))]) (rest := []) C Z (c_X7_isWithin l hr41) mf_X7_isWithin (ml_nest C nw_15) rfl ⟨rfl, rfl, by decide, by decide⟩ rfl hl.1 (Nat.le_of_ble_eq_true rfl) dX4_mayBe_41 (fun H locs Z => ?_)
    by_cases hn44 : nb r41 = true
    · rw [if_pos hn44] at hf
      have hf := Option.some.inj hf
      subst hf
      exact ret_z C Z hn44 dX4_mayBe_44
    · rw [if_neg hn44] at hf
      cases hf
  · rw [if_pos hc2] at hf
    refine lv_iload_n hx hb dX4_mayBe_5 rfl (lv_at hl 2 rfl) ?_
    refine lv_iconst (v := 2) hx hb dX4_mayBe_6 (by decide +kernel) ?_
    refine lv_icmp_ne (tgt := 22) hx hb dX4_mayBe_7 (by decide) (fun hc7 => ?_) (fun hc7 => ?_)
    · rw [if_neg hc7] at hf
      refine lv_iload_n hx hb dX4_mayBe_22 rfl (lv_at hl 3 rfl) ?_
      obtain ⟨t23, hz23, ht23⟩ := C.2.2.2.2.2.2.2.2.1.2.2.1
      refine r_gets C Z hz23 mw_402 dX4_mayBe_23 ?_
      refine lv_iload_n hx hb dX4_mayBe_26 rfl (lv_at hl 1 rfl) ?_
      refine lv_iconst (v := 4) hx hb dX4_mayBe_27 (by decide +kernel) ?_
      refine lv_imul hx hb dX4_mayBe_28 ?_
      refine lv_iload_n hx hb dX4_mayBe_29 rfl (lv_at hl 2 rfl) ?_
      refine lv_iadd hx hb dX4_mayBe_30 ?_
      by_cases ho31 : oob ((x1 * 4) + x2) 16 = true
      · rw [if_pos ho31] at hf; cases hf
      rw [if_neg ho31] at hf
      refine r_ti C Z ht23 ho31 dX4_mayBe_31 ?_
      obtain ⟨t32, hz32, ht32⟩ := C.2.2.2.2.2.2.2.2.1.2.2.2
      refine r_gets C Z hz32 mw_404 dX4_mayBe_32 ?_
      refine lv_iload_n hx hb dX4_mayBe_35 rfl (lv_at hl 1 rfl) ?_
      refine lv_iconst (v := 4) hx hb dX4_mayBe_36 (by decide +kernel) ?_
      refine lv_imul hx hb dX4_mayBe_37 ?_
      refine lv_iload_n hx hb dX4_mayBe_38 rfl (lv_at hl 2 rfl) ?_
      refine lv_iadd hx hb dX4_mayBe_39 ?_
      refine r_ti C Z ht32 ho31 dX4_mayBe_40 ?_
      obtain ⟨r41, hr41, hf⟩ := Option.bind_eq_some_iff.mp hf
      refine call_si (As := [.int x3, .int (kLOW (Int32.toNatClampNeg ((x1 * 4) + x2))), .int (kHIG (Int32.toNatClampNeg ((x1 * 4) + x2)))]) (rest := []) C Z (c_X7_isWithin l hr41) mf_X7_isWithin (ml_nest C nw_15) rfl ⟨rfl, rfl, by decide, by decide⟩ rfl hl.1 (Nat.le_of_ble_eq_true rfl) dX4_mayBe_41 (fun H locs Z => ?_)
      by_cases hn44 : nb r41 = true
      · rw [if_pos hn44] at hf
        have hf := Option.some.inj hf
        subst hf
        exact ret_z C Z hn44 dX4_mayBe_44
      · rw [if_neg hn44] at hf
        cases hf
    · rw [if_pos hc7] at hf
      refine lv_iload_n hx hb dX4_mayBe_10 rfl (lv_at hl 3 rfl) ?_
      refine lv_aload_n hx hb dX4_mayBe_11 rfl (lv_at hl 0 rfl) ?_
      refine gC_3_1 C Z (fl_of C mw_197) dX4_mayBe_12 ?_
      refine lv_iconst (v := 1) hx hb dX4_mayBe_15 (by decide +kernel) ?_
      refine r_ald C Z (aC_22 g _ (f := (u.2.1 15)) rfl) (by decide) (k := 1) (by decide) dX4_mayBe_16 (x := ((u.2.1 15) 1)) rfl ?_
      refine lv_icmp_ge (tgt := 22) hx hb dX4_mayBe_17 (by decide) (fun hc17 => ?_) (fun hc17 => ?_)
      · rw [if_pos hc17] at hf
        refine lv_iload_n hx hb dX4_mayBe_22 rfl (lv_at hl 3 rfl) ?_
        obtain ⟨t23, hz23, ht23⟩ := C.2.2.2.2.2.2.2.2.1.2.2.1
        refine r_gets C Z hz23 mw_402 dX4_mayBe_23 ?_
        refine lv_iload_n hx hb dX4_mayBe_26 rfl (lv_at hl 1 rfl) ?_
        refine lv_iconst (v := 4) hx hb dX4_mayBe_27 (by decide +kernel) ?_
        refine lv_imul hx hb dX4_mayBe_28 ?_
        refine lv_iload_n hx hb dX4_mayBe_29 rfl (lv_at hl 2 rfl) ?_
        refine lv_iadd hx hb dX4_mayBe_30 ?_
        by_cases ho31 : oob ((x1 * 4) + x2) 16 = true
        · rw [if_pos ho31] at hf; cases hf
        rw [if_neg ho31] at hf
        refine r_ti C Z ht23 ho31 dX4_mayBe_31 ?_
        obtain ⟨t32, hz32, ht32⟩ := C.2.2.2.2.2.2.2.2.1.2.2.2
        refine r_gets C Z hz32 mw_404 dX4_mayBe_32 ?_
        refine lv_iload_n hx hb dX4_mayBe_35 rfl (lv_at hl 1 rfl) ?_
        refine lv_iconst (v := 4) hx hb dX4_mayBe_36 (by decide +kernel) ?_
        refine lv_imul hx hb dX4_mayBe_37 ?_
        refine lv_iload_n hx hb dX4_mayBe_38 rfl (lv_at hl 2 rfl) ?_
        refine lv_iadd hx hb dX4_mayBe_39 ?_
        refine r_ti C Z ht32 ho31 dX4_mayBe_40 ?_
        obtain ⟨r41, hr41, hf⟩ := Option.bind_eq_some_iff.mp hf
        refine call_si (As := [.int x3, .int (kLOW (Int32.toNatClampNeg ((x1 * 4) + x2))), .int (kHIG (Int32.toNatClampNeg ((x1 * 4) + x2)))]) (rest := []) C Z (c_X7_isWithin l hr41) mf_X7_isWithin (ml_nest C nw_15) rfl ⟨rfl, rfl, by decide, by decide⟩ rfl hl.1 (Nat.le_of_ble_eq_true rfl) dX4_mayBe_41 (fun H locs Z => ?_)
        by_cases hn44 : nb r41 = true
        · rw [if_pos hn44] at hf
          have hf := Option.some.inj hf
          subst hf
          exact ret_z C Z hn44 dX4_mayBe_44
        · rw [if_neg hn44] at hf
          cases hf
      · rw [if_neg hc17] at hf
        refine lv_iconst (v := 0) hx hb dX4_mayBe_20 (by decide +kernel) ?_
        have hf := Option.some.inj hf
        subst hf
        exact ret_z C Z rfl dX4_mayBe_21
def f_X1_addCock (u : St) : Option (St) :=
  if oob (u.1 4) 5 then none else
  some (sI (sA u (2 + (Int32.toNatClampNeg (u.1 4))) (va_cpy (u.2.1 15) (u.2.1 (2 + (Int32.toNatClampNeg (u.1 4)))) 0 0 4)) 4 ((u.1 4) + 1))
set_option maxHeartbeats 4000000 in
set_option maxRecDepth 100000 in
theorem c_X1_addCock (l : Launch) {g : Gx} {u : St} {res : St} (hf : f_X1_addCock u = some res) : CV wC 82 l yX1_addCock (wsY yX1_addCock cX1_addCock 2 (none)) (rmX 1 60) g [.ref (g.2.2 4), .ref (g.2.2 22)] u res := by
  refine CV_start (by decide +kernel) rfl (Nat.le_of_ble_eq_true rfl) (fun {p e s m args below meth c ls} C Z hl => ?_)
  have hl : lv_has ls 2 [(0, .ref (g.2.2 4)), (1, .ref (g.2.2 22))] := hl
  have hx := C.1
  have hb := C.2.1
  unfold f_X1_addCock at hf
  refine lv_aload_n hx hb dX1_addCock_0 rfl (lv_at hl 1 rfl) ?_
  refine lv_iconst (v := 0) hx hb dX1_addCock_1 (by decide +kernel) ?_
  refine lv_aload_n hx hb dX1_addCock_2 rfl (lv_at hl 0 rfl) ?_
  refine gC_4_1 C Z (fl_of C mw_162) dX1_addCock_3 ?_
  refine lv_aload_n hx hb dX1_addCock_6 rfl (lv_at hl 0 rfl) ?_
  refine gC_4_4 C Z (fl_of C mw_169) dX1_addCock_7 (x := (u.1 4)) rfl ?_
  by_cases ho10 : oob (u.1 4) 5 = true
  · rw [if_pos ho10] at hf; cases hf
  rw [if_neg ho10] at hf
  refine r_aldr C Z (aC_6 g _) ho10 dX1_addCock_10 (b := g.2.2 (7 + (Int32.toNatClampNeg (u.1 4)))) rfl ?_
  refine lv_iconst (v := 0) hx hb dX1_addCock_11 (by decide +kernel) ?_
  refine lv_iconst (v := 4) hx hb dX1_addCock_12 (by decide +kernel) ?_
  refine r_copy C wokC Z mw_415 ⟨⟨mw_417, mw_416⟩, mw_108⟩ hl.1 (by decide) (Nat.le_of_ble_eq_true rfl) (aC_22 g _ (f := (u.2.1 15)) rfl) (arC_6 g _ (oob_lt ho10) (f := (u.2.1 (2 + (Int32.toNatClampNeg (u.1 4))))) rfl) (by decide) (by decide) (m1 := 0) (by decide) (m2 := 0) (by decide) (m3 := 4) (by decide) (srC_6 g _ (oob_lt ho10) _) dX1_addCock_13 (fun H locs Z => ?_)
  refine lv_aload_n hx hb dX1_addCock_16 rfl (lv_at hl 0 rfl) ?_
  refine lv_dup hx hb dX1_addCock_17 rfl ?_
  refine gC_4_4 C Z (fl_of C mw_169) dX1_addCock_18 (x := (u.1 4)) rfl ?_
  refine lv_iconst (v := 1) hx hb dX1_addCock_21 (by decide +kernel) ?_
  refine lv_iadd hx hb dX1_addCock_22 ?_
  refine pC_4_4 C Z (fl_of C mw_169) dX1_addCock_23 (fun H locs Z => ?_)
  have hf := Option.some.inj hf
  subst hf
  exact ret_v C Z dX1_addCock_26
def f_X1_addOne (u : St) : Option (St) :=
  if oob (u.1 5) 4 then none else
  some (sI (sA (sA u (7 + (Int32.toNatClampNeg (u.1 5))) (upd (u.2.1 (7 + (Int32.toNatClampNeg (u.1 5)))) 0 ((u.2.1 15) 0))) (7 + (Int32.toNatClampNeg (u.1 5))) (upd (upd (u.2.1 (7 + (Int32.toNatClampNeg (u.1 5)))) 0 ((u.2.1 15) 0)) 1 (((u.2.1 15) 1) - 3))) 5 ((u.1 5) + 1))
set_option maxHeartbeats 4000000 in
set_option maxRecDepth 100000 in
theorem c_X1_addOne (l : Launch) {g : Gx} {u : St} {res : St} (hf : f_X1_addOne u = some res) : CV wC 82 l yX1_addOne (wsY yX1_addOne cX1_addOne 2 (none)) (rmX 0 0) g [.ref (g.2.2 4), .ref (g.2.2 22)] u res := by
  refine CV_start (by decide +kernel) rfl (Nat.le_of_ble_eq_true rfl) (fun {p e s m args below meth c ls} C Z hl => ?_)
  have hl : lv_has ls 2 [(0, .ref (g.2.2 4)), (1, .ref (g.2.2 22))] := hl
  have hx := C.1
  have hb := C.2.1
  unfold f_X1_addOne at hf
  refine lv_aload_n hx hb dX1_addOne_0 rfl (lv_at hl 0 rfl) ?_
  refine gC_4_2 C Z (fl_of C mw_166) dX1_addOne_1 ?_
  refine lv_aload_n hx hb dX1_addOne_4 rfl (lv_at hl 0 rfl) ?_
  refine gC_4_5 C Z (fl_of C mw_173) dX1_addOne_5 (x := (u.1 5)) rfl ?_
  by_cases ho8 : oob (u.1 5) 4 = true
  · rw [if_pos ho8] at hf; cases hf
  rw [if_neg ho8] at hf
  refine r_aldr C Z (aC_12 g _) ho8 dX1_addOne_8 (b := g.2.2 (13 + (Int32.toNatClampNeg (u.1 5)))) rfl ?_
  refine lv_iconst (v := 0) hx hb dX1_addOne_9 (by decide +kernel) ?_
  refine lv_aload_n hx hb dX1_addOne_10 rfl (lv_at hl 1 rfl) ?_
  refine lv_iconst (v := 0) hx hb dX1_addOne_11 (by decide +kernel) ?_
  refine r_ald C Z (aC_22 g _ (f := (u.2.1 15)) rfl) (by decide) (k := 0) (by decide) dX1_addOne_12 (x := ((u.2.1 15) 0)) rfl ?_
  refine r_ast C wokC Z (arC_12 g _ (oob_lt ho8) (f := (u.2.1 (7 + (Int32.toNatClampNeg (u.1 5))))) rfl) (by decide) (k := 0) (by decide) (srC_12 g _ (oob_lt ho8) _) dX1_addOne_13 (fun H locs Z => ?_)
  refine lv_aload_n hx hb dX1_addOne_14 rfl (lv_at hl 0 rfl) ?_
  refine gC_4_2 C Z (fl_of C mw_166) dX1_addOne_15 ?_
  refine lv_aload_n hx hb dX1_addOne_18 rfl (lv_at hl 0 rfl) ?_
  refine gC_4_5 C Z (fl_of C mw_173) dX1_addOne_19 (x := (u.1 5)) rfl ?_
  refine r_aldr C Z (aC_12 g _) ho8 dX1_addOne_22 (b := g.2.2 (13 + (Int32.toNatClampNeg (u.1 5)))) rfl ?_
  refine lv_iconst (v := 1) hx hb dX1_addOne_23 (by decide +kernel) ?_
  refine lv_aload_n hx hb dX1_addOne_24 rfl (lv_at hl 1 rfl) ?_
  refine lv_iconst (v := 1) hx hb dX1_addOne_25 (by decide +kernel) ?_
  refine r_ald C Z (aC_22 g _ (f := (u.2.1 15)) (by have hk0 := (oob_lt ho8); simp only [sI, sA, sJ, va_up, ↓reduceIte]; repeat rw [if_neg (by omega)])) (by decide) (k := 1) (by decide) dX1_addOne_26 (x := ((u.2.1 15) 1)) rfl ?_
  refine lv_iconst (v := 3) hx hb dX1_addOne_27 (by decide +kernel) ?_
  refine lv_isub hx hb dX1_addOne_28 ?_
  refine r_ast C wokC Z (arC_12 g _ (oob_lt ho8) (f := (upd (u.2.1 (7 + (Int32.toNatClampNeg (u.1 5)))) 0 ((u.2.1 15) 0))) (by have hk0 := (oob_lt ho8); simp only [sI, sA, sJ, va_up, ↓reduceIte]; repeat rw [if_neg (by omega)])) (by decide) (k := 1) (by decide) (srC_12 g _ (oob_lt ho8) _) dX1_addOne_29 (fun H locs Z => ?_)
  refine lv_aload_n hx hb dX1_addOne_30 rfl (lv_at hl 0 rfl) ?_
  refine lv_dup hx hb dX1_addOne_31 rfl ?_
  refine gC_4_5 C Z (fl_of C mw_173) dX1_addOne_32 (x := (u.1 5)) rfl ?_
  refine lv_iconst (v := 1) hx hb dX1_addOne_35 (by decide +kernel) ?_
  refine lv_iadd hx hb dX1_addOne_36 ?_
  refine pC_4_5 C Z (fl_of C mw_173) dX1_addOne_37 (fun H locs Z => ?_)
  have hf := Option.some.inj hf
  subst hf
  exact ret_v C Z dX1_addOne_40
def f_X1_addSmoke (u : St) : Option (St) :=
  if oob (u.1 6) 4 then none else
  some (sI (sA u (11 + (Int32.toNatClampNeg (u.1 6))) (va_cpy (u.2.1 15) (u.2.1 (11 + (Int32.toNatClampNeg (u.1 6)))) 0 0 3)) 6 ((u.1 6) + 1))
set_option maxHeartbeats 4000000 in
set_option maxRecDepth 100000 in
theorem c_X1_addSmoke (l : Launch) {g : Gx} {u : St} {res : St} (hf : f_X1_addSmoke u = some res) : CV wC 82 l yX1_addSmoke (wsY yX1_addSmoke cX1_addSmoke 2 (none)) (rmX 1 60) g [.ref (g.2.2 4), .ref (g.2.2 22)] u res := by
  refine CV_start (by decide +kernel) rfl (Nat.le_of_ble_eq_true rfl) (fun {p e s m args below meth c ls} C Z hl => ?_)
  have hl : lv_has ls 2 [(0, .ref (g.2.2 4)), (1, .ref (g.2.2 22))] := hl
  have hx := C.1
  have hb := C.2.1
  unfold f_X1_addSmoke at hf
  refine lv_aload_n hx hb dX1_addSmoke_0 rfl (lv_at hl 1 rfl) ?_
  refine lv_iconst (v := 0) hx hb dX1_addSmoke_1 (by decide +kernel) ?_
  refine lv_aload_n hx hb dX1_addSmoke_2 rfl (lv_at hl 0 rfl) ?_
  refine gC_4_3 C Z (fl_of C mw_168) dX1_addSmoke_3 ?_
  refine lv_aload_n hx hb dX1_addSmoke_6 rfl (lv_at hl 0 rfl) ?_
  refine gC_4_6 C Z (fl_of C mw_177) dX1_addSmoke_7 (x := (u.1 6)) rfl ?_
  by_cases ho10 : oob (u.1 6) 4 = true
  · rw [if_pos ho10] at hf; cases hf
  rw [if_neg ho10] at hf
  refine r_aldr C Z (aC_17 g _) ho10 dX1_addSmoke_10 (b := g.2.2 (18 + (Int32.toNatClampNeg (u.1 6)))) rfl ?_
  refine lv_iconst (v := 0) hx hb dX1_addSmoke_11 (by decide +kernel) ?_
  refine lv_iconst (v := 3) hx hb dX1_addSmoke_12 (by decide +kernel) ?_
  refine r_copy C wokC Z mw_415 ⟨⟨mw_417, mw_416⟩, mw_108⟩ hl.1 (by decide) (Nat.le_of_ble_eq_true rfl) (aC_22 g _ (f := (u.2.1 15)) rfl) (arC_17 g _ (oob_lt ho10) (f := (u.2.1 (11 + (Int32.toNatClampNeg (u.1 6))))) rfl) (by decide) (by decide) (m1 := 0) (by decide) (m2 := 0) (by decide) (m3 := 3) (by decide) (srC_17 g _ (oob_lt ho10) _) dX1_addSmoke_13 (fun H locs Z => ?_)
  refine lv_aload_n hx hb dX1_addSmoke_16 rfl (lv_at hl 0 rfl) ?_
  refine lv_dup hx hb dX1_addSmoke_17 rfl ?_
  refine gC_4_6 C Z (fl_of C mw_177) dX1_addSmoke_18 (x := (u.1 6)) rfl ?_
  refine lv_iconst (v := 1) hx hb dX1_addSmoke_21 (by decide +kernel) ?_
  refine lv_iadd hx hb dX1_addSmoke_22 ?_
  refine pC_4_6 C Z (fl_of C mw_177) dX1_addSmoke_23 (fun H locs Z => ?_)
  have hf := Option.some.inj hf
  subst hf
  exact ret_v C Z dX1_addSmoke_26
