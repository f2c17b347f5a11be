def f_X4_tell (u : St) (x1 : Int32) : Option (St) :=
  if x1 = 0 then
    if oob ((u.2.1 15) 0) 24 then none else
    some (sA u 1 (upd (u.2.1 1) (Int32.toNatClampNeg ((u.2.1 15) 0)) ((u.2.1 15) 1)))
  else
  if x1 = 1 then
    Option.bind (f_X1_addCock u) fun r59 =>
    some r59
  else
  if x1 = 2 then
    Option.bind (f_X1_addOne u) fun r73 =>
    some r73
  else
  Option.bind (f_X1_addSmoke u) fun r87 =>
  some r87
set_option maxHeartbeats 4000000 in
set_option maxRecDepth 100000 in
theorem c_X4_tell (l : Launch) {g : Gx} {u : St} {x1 : Int32} {res : St} (hf : f_X4_tell u x1 = some res) : CV wC 82 l yX4_tell (wsY yX4_tell cX4_tell 2 (none)) (rmX 2 81) g [.ref (g.2.2 3), .int x1] u res := by
  refine CV_start (by decide +kernel) rfl (Nat.le_of_ble_eq_true rfl) (fun {p e s m args below meth c ls} C Z hl => ?_)
  have hl : lv_has ls 2 [(0, .ref (g.2.2 3)), (1, .int x1)] := hl
  have hx := C.1
  have hb := C.2.1
  unfold f_X4_tell at hf
  refine lv_iload_n hx hb dX4_tell_0 rfl (lv_at hl 1 rfl) ?_
  by_cases hs1_0 : x1 = 0
  · rw [if_pos hs1_0] at hf
    refine lv_tableIn (tgt := 28) hx hb dX4_tell_1 (by rw [hs1_0]; decide) (by rw [hs1_0]; decide) (by rw [hs1_0]; first | done | rfl) (by decide) ?_
    refine lv_aload_n hx hb dX4_tell_28 rfl (lv_at hl 0 rfl) ?_
    refine gC_3_0 C Z (fl_of C mw_195) dX4_tell_29 ?_
    refine gC_4_0 C Z (fl_nest C nw_73) dX4_tell_32 ?_
    refine lv_aload_n hx hb dX4_tell_35 rfl (lv_at hl 0 rfl) ?_
    refine gC_3_1 C Z (fl_of C mw_197) dX4_tell_36 ?_
    refine lv_iconst (v := 0) hx hb dX4_tell_39 (by decide +kernel) ?_
    refine r_ald C Z (aC_22 g _ (f := (u.2.1 15)) rfl) (by decide) (k := 0) (by decide) dX4_tell_40 (x := ((u.2.1 15) 0)) rfl ?_
    refine lv_aload_n hx hb dX4_tell_41 rfl (lv_at hl 0 rfl) ?_
    refine gC_3_1 C Z (fl_of C mw_197) dX4_tell_42 ?_
    refine lv_iconst (v := 1) hx hb dX4_tell_45 (by decide +kernel) ?_
    refine r_ald C Z (aC_22 g _ (f := (u.2.1 15)) rfl) (by decide) (k := 1) (by decide) dX4_tell_46 (x := ((u.2.1 15) 1)) rfl ?_
    by_cases ho47 : oob ((u.2.1 15) 0) 24 = true
    · rw [if_pos ho47] at hf; cases hf
    rw [if_neg ho47] at hf
    refine r_ast C wokC Z (aC_5 g _ (f := (u.2.1 1)) rfl) ho47 rfl (sC_5 g _ _) dX4_tell_47 (fun H locs Z => ?_)
    refine lv_goto (tgt := 90) hx hb dX4_tell_48 (by decide) ?_
    have hf := Option.some.inj hf
    subst hf
    exact ret_v C Z dX4_tell_90
  rw [if_neg hs1_0] at hf
  by_cases hs1_1 : x1 = 1
  · rw [if_pos hs1_1] at hf
    refine lv_tableIn (tgt := 51) hx hb dX4_tell_1 (by rw [hs1_1]; decide) (by rw [hs1_1]; decide) (by rw [hs1_1]; first | done | rfl) (by decide) ?_
    refine lv_aload_n hx hb dX4_tell_51 rfl (lv_at hl 0 rfl) ?_
    refine gC_3_0 C Z (fl_of C mw_195) dX4_tell_52 ?_
    refine lv_aload_n hx hb dX4_tell_55 rfl (lv_at hl 0 rfl) ?_
    refine gC_3_1 C Z (fl_of C mw_197) dX4_tell_56 ?_
    obtain ⟨r59, hr59, hf⟩ := Option.bind_eq_some_iff.mp hf
    refine call_vv (As := [.ref (g.2.2 22)]) (rest := []) C Z (c_X1_addCock l hr59) mf_X1_addCock (ml_nest C nw_16) rfl (oC_4 g _) rfl ⟨rfl, rfl, by decide, by decide⟩ rfl hl.1 (Nat.le_of_ble_eq_true rfl) dX4_tell_59 (fun H locs Z => ?_)
    refine lv_goto (tgt := 90) hx hb dX4_tell_62 (by decide) ?_
    have hf := Option.some.inj hf
    subst hf
    exact ret_v C Z dX4_tell_90
  rw [if_neg hs1_1] at hf
  by_cases hs1_2 : x1 = 2
  · rw [if_pos hs1_2] at hf
    refine lv_tableIn (tgt := 65) hx hb dX4_tell_1 (by rw [hs1_2]; decide) (by rw [hs1_2]; decide) (by rw [hs1_2]; first | done | rfl) (by decide) ?_
    refine lv_aload_n hx hb dX4_tell_65 rfl (lv_at hl 0 rfl) ?_
    refine gC_3_0 C Z (fl_of C mw_195) dX4_tell_66 ?_
    refine lv_aload_n hx hb dX4_tell_69 rfl (lv_at hl 0 rfl) ?_
    refine gC_3_1 C Z (fl_of C mw_197) dX4_tell_70 ?_
    obtain ⟨r73, hr73, hf⟩ := Option.bind_eq_some_iff.mp hf
    refine call_vv (As := [.ref (g.2.2 22)]) (rest := []) C Z (c_X1_addOne l hr73) mf_X1_addOne (ml_nest C nw_17) rfl (oC_4 g _) rfl ⟨rfl, rfl, by decide, by decide⟩ rfl hl.1 (Nat.le_of_ble_eq_true rfl) dX4_tell_73 (fun H locs Z => ?_)
    refine lv_goto (tgt := 90) hx hb dX4_tell_76 (by decide) ?_
    have hf := Option.some.inj hf
    subst hf
    exact ret_v C Z dX4_tell_90
  rw [if_neg hs1_2] at hf
  have e1_0 := lv_neT (a := 0) hs1_0 (by decide)
  have e1_1 := lv_neT (a := 1) hs1_1 (by decide)
  have e1_2 := lv_neT (a := 2) hs1_2 (by decide)
  refine lv_tableOut (tgt := 79) hx hb dX4_tell_1 (by omega) (by decide) ?_
  refine lv_aload_n hx hb dX4_tell_79 rfl (lv_at hl 0 rfl) ?_
  refine gC_3_0 C Z (fl_of C mw_195) dX4_tell_80 ?_
  refine lv_aload_n hx hb dX4_tell_83 rfl (lv_at hl 0 rfl) ?_
  refine gC_3_1 C Z (fl_of C mw_197) dX4_tell_84 ?_
  obtain ⟨r87, hr87, hf⟩ := Option.bind_eq_some_iff.mp hf
  refine call_vv (As := [.ref (g.2.2 22)]) (rest := []) C Z (c_X1_addSmoke l hr87) mf_X1_addSmoke (ml_nest C nw_18) rfl (oC_4 g _) rfl ⟨rfl, rfl, by decide, by decide⟩ rfl hl.1 (Nat.le_of_ble_eq_true rfl) dX4_tell_87 (fun H locs Z => ?_)
  have hf := Option.some.inj hf
  subst hf
  exact ret_v C Z dX4_tell_90
def L_X4_readItem_24 (k : Int32 → St → Option (Int32 × St)) (x2 : Int32) : Nat → Int32 → St → Option (Int32 × St)
  | 0, _, _ => none
  | n + 1, x3, u =>
    if oob x2 4 then none else
    if (kNUM (Int32.toNatClampNeg x2)) ≤ x3 then
      k x3 u
    else
      Option.bind (f_X5_nextToken u) fun r34 =>
      if r34.1 = 2 then
        Option.bind (f_X4_mayBe r34.2 x2 x3 (r34.2.1 3)) fun r50 =>
        if r50 = 0 then
          some (0, r34.2)
        else
          if oob x3 4 then none else
          L_X4_readItem_24 k x2 n (x3 + 1) (sA r34.2 15 (upd (r34.2.2.1 15) (Int32.toNatClampNeg x3) (r34.2.1 3)))
      else
        some (0, r34.2)
set_option maxHeartbeats 4000000 in
set_option maxRecDepth 100000 in
theorem b_X4_readItem_24 {p : Program} {l : Launch} {e : Env} {s : State} {m : MethodId} {args : Array Value} {below : List Frame} {meth : Method} {c : Code} {g : Gx} {x2 : Int32} {res : Int32 × St} {k : Int32 → St → Option (Int32 × St)} (C : Cx p s m meth c args cX4_readItem RX4 4 (some .boolean) 82 g)
    (hk : ∀ (x3 : Int32) (u : St) (H : Heap) (locs : List Loc) (ls : Array Slot), Zx wC g (Aw 82 g s.heap.size) s H locs u → lv_has ls 4 [(0, .ref (g.2.2 3)), (1, .ref (g.2.2 1)), (2, .int x2)] → k x3 u = some res → W p l e (rmX 3 102) s m args below meth c H locs 0 0 (QI wC 82 g res.1 res.2 below args s) (F0 m 74 ls [])) :
    ∀ (n : Nat) (x3 : Int32) (u : St) (H : Heap) (locs : List Loc) (ls : Array Slot), Zx wC g (Aw 82 g s.heap.size) s H locs u → lv_has ls 4 [(0, .ref (g.2.2 3)), (1, .ref (g.2.2 1)), (2, .int x2), (3, .int x3)] → L_X4_readItem_24 k x2 n x3 u = some res → W p l e (rmX 3 102) s m args below meth c H locs 0 0 (QI wC 82 g res.1 res.2 below args s) (F0 m 24 ls []) := by
  have hx := C.1
  have hb := C.2.1
  intro n
  induction n with
  | zero =>
    intro x3 u H locs ls Z hl hf
    rw [L_X4_readItem_24.eq_1] at hf
    cases hf
  | succ n ih =>
    intro x3 u H locs ls Z hl hf
    rw [L_X4_readItem_24.eq_2] at hf
    refine lv_iload_n hx hb dX4_readItem_24 rfl (lv_at hl 3 rfl) ?_
    obtain ⟨t25, hz25, ht25⟩ := C.2.2.2.2.2.2.2.2.1.2.1
    refine r_gets C Z hz25 mw_396 dX4_readItem_25 ?_
    refine lv_iload_n hx hb dX4_readItem_28 rfl (lv_at hl 2 rfl) ?_
    by_cases ho29 : oob x2 4 = true
    · rw [if_pos ho29] at hf; cases hf
    rw [if_neg ho29] at hf
    refine r_ti C Z ht25 ho29 dX4_readItem_29 ?_
    refine lv_icmp_ge (tgt := 74) hx hb dX4_readItem_30 (by decide) (fun hc30 => ?_) (fun hc30 => ?_)
    · rw [if_pos hc30] at hf
      exact hk _ _ H locs ls Z (lv_sub hl [0, 1, 2] rfl) hf
    · rw [if_neg hc30] at hf
      refine lv_aload_n hx hb dX4_readItem_33 rfl (lv_at hl 1 rfl) ?_
      obtain ⟨r34, hr34, hf⟩ := Option.bind_eq_some_iff.mp hf
      refine call_vi (As := []) (rest := []) C Z (c_X5_nextToken l hr34) mf_X5_nextToken (ml_nest C nw_14) rfl (oC_1 g _) rfl ⟨rfl, rfl, by decide, by decide⟩ rfl hl.1 (Nat.le_of_ble_eq_true rfl) dX4_readItem_34 (fun H locs Z => ?_)
      refine lv_iconst (v := 2) hx hb dX4_readItem_37 (by decide +kernel) ?_
      refine lv_icmp_eq (tgt := 43) hx hb dX4_readItem_38 (by decide) (fun hc38 => ?_) (fun hc38 => ?_)
      · rw [if_pos hc38] at hf
        refine lv_aload_n hx hb dX4_readItem_43 rfl (lv_at hl 0 rfl) ?_
        refine lv_iload_n hx hb dX4_readItem_44 rfl (lv_at hl 2 rfl) ?_
        refine lv_iload_n hx hb dX4_readItem_45 rfl (lv_at hl 3 rfl) ?_
        refine lv_aload_n hx hb dX4_readItem_46 rfl (lv_at hl 1 rfl) ?_
        refine gC_1_4 C Z (fl_nest C nw_71) dX4_readItem_47 (x := (r34.2.1 3)) rfl ?_
        obtain ⟨r50, hr50, hf⟩ := Option.bind_eq_some_iff.mp hf
        refine call_vi (As := [.int x2, .int x3, .int (r34.2.1 3)]) (rest := []) C Z (c_X4_mayBe l hr50) mf_X4_mayBe (ml_of C mw_398) rfl (oC_3 g _) rfl ⟨rfl, rfl, by decide, by decide⟩ rfl hl.1 (Nat.le_of_ble_eq_true rfl) dX4_readItem_50 (fun H locs Z => ?_)
        refine lv_if_ne (tgt := 58) hx hb dX4_readItem_53 (by decide) (fun hc53 => ?_) (fun hc53 => ?_)
        · rw [if_neg hc53] at hf
          refine lv_aload_n hx hb dX4_readItem_58 rfl (lv_at hl 0 rfl) ?_
          refine gC_3_1 C Z (fl_of C mw_197) dX4_readItem_59 ?_
          refine lv_iload_n hx hb dX4_readItem_62 rfl (lv_at hl 3 rfl) ?_
          refine lv_aload_n hx hb dX4_readItem_63 rfl (lv_at hl 1 rfl) ?_
          refine gC_1_4 C Z (fl_nest C nw_71) dX4_readItem_64 (x := (r34.2.1 3)) rfl ?_
          by_cases ho67 : oob x3 4 = true
          · rw [if_pos ho67] at hf; cases hf
          rw [if_neg ho67] at hf
          refine r_ast C wokC Z (aC_22 g _ (f := (r34.2.2.1 15)) rfl) ho67 rfl (sC_22 g _ _) dX4_readItem_67 (fun H locs Z => ?_)
          refine lv_iinc (v := (x3 + 1)) (lv' := [(3, .int (x3 + 1)), (0, .ref (g.2.2 3)), (1, .ref (g.2.2 1)), (2, .int x2)]) hx hb dX4_readItem_68 hl (k := 3) rfl rfl (by decide) rfl (fun ls hl => ?_)
          refine lv_goto (tgt := 24) hx hb dX4_readItem_71 (by decide) ?_
          exact ih _ _ _ _ _ Z (lv_sub hl [1, 2, 3, 0] rfl) hf
        · rw [if_pos hc53] at hf
          refine lv_iconst (v := 0) hx hb dX4_readItem_56 (by decide +kernel) ?_
          have hf := Option.some.inj hf
          subst hf
          exact ret_z C Z rfl dX4_readItem_57
      · rw [if_neg hc38] at hf
        refine lv_iconst (v := 0) hx hb dX4_readItem_41 (by decide +kernel) ?_
        have hf := Option.some.inj hf
        subst hf
        exact ret_z C Z rfl dX4_readItem_42
def f_X4_readItem (u : St) : Option (Int32 × St) :=
  Option.bind (f_X4_itemOf u (u.1 3)) fun r4 =>
  if r4 < 0 then
    some (0, u)
  else
    Option.bind (f_X4_hasRoomFor u r4) fun r14 =>
    if r14 = 0 then
      some (0, u)
    else
      L_X4_readItem_24 (fun x3 u24 =>
        Option.bind (f_X5_nextToken u24) fun r75 =>
        if r75.1 = 3 then
          Option.bind (f_X4_tell r75.2 r4) fun r86 =>
          some (1, r86)
        else
          some (0, r75.2)) r4 FU 0 u
set_option maxHeartbeats 4000000 in
set_option maxRecDepth 100000 in
theorem c_X4_readItem (l : Launch) {g : Gx} {u : St} {res : Int32 × St} (hf : f_X4_readItem u = some res) : CI wC 82 l yX4_readItem (wsY yX4_readItem cX4_readItem 4 (some .boolean)) (rmX 3 102) g [.ref (g.2.2 3), .ref (g.2.2 1)] u res.1 res.2 := by
  refine CI_start (by decide +kernel) rfl (Nat.le_of_ble_eq_true rfl) (fun {p e s m args below meth c ls} C Z hl => ?_)
  have hl : lv_has ls 4 [(0, .ref (g.2.2 3)), (1, .ref (g.2.2 1))] := hl
  have hx := C.1
  have hb := C.2.1
  unfold f_X4_readItem at hf
  refine lv_aload_n hx hb dX4_readItem_0 rfl (lv_at hl 1 rfl) ?_
  refine gC_1_4 C Z (fl_nest C nw_71) dX4_readItem_1 (x := (u.1 3)) rfl ?_
  obtain ⟨r4, hr4, hf⟩ := Option.bind_eq_some_iff.mp hf
  refine call_si (As := [.int (u.1 3)]) (rest := []) C Z (c_X4_itemOf l hr4) mf_X4_itemOf (ml_of C mw_387) rfl ⟨rfl, rfl, by decide, by decide⟩ rfl hl.1 (Nat.le_of_ble_eq_true rfl) dX4_readItem_4 (fun H locs Z => ?_)
  refine lv_istore_n (lv' := [(2, .int r4), (0, .ref (g.2.2 3)), (1, .ref (g.2.2 1))]) hx hb dX4_readItem_7 rfl hl (by decide) rfl (fun ls hl => ?_)
  refine lv_iload_n hx hb dX4_readItem_8 rfl (lv_at hl 0 rfl) ?_
  refine lv_if_lt (tgt := 20) hx hb dX4_readItem_9 (by decide) (fun hc9 => ?_) (fun hc9 => ?_)
  · rw [if_pos hc9] at hf
    refine lv_iconst (v := 0) hx hb dX4_readItem_20 (by decide +kernel) ?_
    have hf := Option.some.inj hf
    subst hf
    exact ret_z C Z rfl dX4_readItem_21
  · rw [if_neg hc9] at hf
    refine lv_aload_n hx hb dX4_readItem_12 rfl (lv_at hl 1 rfl) ?_
    refine lv_iload_n hx hb dX4_readItem_13 rfl (lv_at hl 0 rfl) ?_
    obtain ⟨r14, hr14, hf⟩ := Option.bind_eq_some_iff.mp hf
    refine call_vi (As := [.int r4]) (rest := []) C Z (c_X4_hasRoomFor l hr14) mf_X4_hasRoomFor (ml_of C mw_392) rfl (oC_3 g _) rfl ⟨rfl, rfl, by decide, by decide⟩ rfl hl.1 (Nat.le_of_ble_eq_true rfl) dX4_readItem_14 (fun H locs Z => ?_)
    refine lv_if_ne (tgt := 22) hx hb dX4_readItem_17 (by decide) (fun hc17 => ?_) (fun hc17 => ?_)
    · rw [if_neg hc17] at hf
      refine lv_iconst (v := 0) hx hb dX4_readItem_22 (by decide +kernel) ?_
      refine lv_istore_n (lv' := [(3, .int 0), (2, .int r4), (0, .ref (g.2.2 3)), (1, .ref (g.2.2 1))]) hx hb dX4_readItem_23 rfl hl (by decide) rfl (fun ls hl => ?_)
      refine b_X4_readItem_24 C (fun x3 u24 H locs ls Z hl hf => ?_) FU _ _ _ _ _ Z (lv_sub hl [2, 3, 1, 0] rfl) hf
      refine lv_aload_n hx hb dX4_readItem_74 rfl (lv_at hl 1 rfl) ?_
      obtain ⟨r75, hr75, hf⟩ := Option.bind_eq_some_iff.mp hf
      refine call_vi (As := []) (rest := []) C Z (c_X5_nextToken l hr75) mf_X5_nextToken (ml_nest C nw_14) rfl (oC_1 g _) rfl ⟨rfl, rfl, by decide, by decide⟩ rfl hl.1 (Nat.le_of_ble_eq_true rfl) dX4_readItem_75 (fun H locs Z => ?_)
      refine lv_iconst (v := 3) hx hb dX4_readItem_78 (by decide +kernel) ?_
      refine lv_icmp_eq (tgt := 84) hx hb dX4_readItem_79 (by decide) (fun hc79 => ?_) (fun hc79 => ?_)
      · rw [if_pos hc79] at hf
        refine lv_aload_n hx hb dX4_readItem_84 rfl (lv_at hl 0 rfl) ?_
        refine lv_iload_n hx hb dX4_readItem_85 rfl (lv_at hl 2 rfl) ?_
        obtain ⟨r86, hr86, hf⟩ := Option.bind_eq_some_iff.mp hf
        refine call_vv (As := [.int r4]) (rest := []) C Z (c_X4_tell l hr86) mf_X4_tell (ml_of C mw_407) rfl (oC_3 g _) rfl ⟨rfl, rfl, by decide, by decide⟩ rfl hl.1 (Nat.le_of_ble_eq_true rfl) dX4_readItem_86 (fun H locs Z => ?_)
        refine lv_iconst (v := 1) hx hb dX4_readItem_89 (by decide +kernel) ?_
        have hf := Option.some.inj hf
        subst hf
        exact ret_z C Z rfl dX4_readItem_90
      · rw [if_neg hc79] at hf
        refine lv_iconst (v := 0) hx hb dX4_readItem_82 (by decide +kernel) ?_
        have hf := Option.some.inj hf
        subst hf
        exact ret_z C Z rfl dX4_readItem_83
    · rw [if_pos hc17] at hf
      refine lv_iconst (v := 0) hx hb dX4_readItem_20 (by decide +kernel) ?_
      have hf := Option.some.inj hf
      subst hf
      exact ret_z C Z rfl dX4_readItem_21
def L_X4_readAll_13 (k : Int32 → St → Option (Int32 × St)) : Nat → Int32 → St → Option (Int32 × St)
  | 0, _, _ => none
  | n + 1, x2, u =>
    if 150 < x2 then
      k x2 u
    else
      Option.bind (f_X5_nextToken u) fun r21 =>
      if r21.1 = 0 then
        some (x2, r21.2)
      else
        if r21.1 = 1 then
          Option.bind (f_X4_readItem r21.2) fun r38 =>
          if r38.1 = 0 then
            some (((-10) - (r38.2.1 2)), r38.2)
          else
            L_X4_readAll_13 k n (x2 + 1) r38.2
        else
          some (((-10) - (r21.2.1 2)), r21.2)
set_option maxHeartbeats 4000000 in
set_option maxRecDepth 100000 in
theorem b_X4_readAll_13 {p : Program} {l : Launch} {e : Env} {s : State} {m : MethodId} {args : Array Value} {below : List Frame} {meth : Method} {c : Code} {g : Gx} {res : Int32 × St} {k : Int32 → St → Option (Int32 × St)} (C : Cx p s m meth c args cX4_readAll RX4 4 (some .int) 82 g)
    (hk : ∀ (x2 : Int32) (u : St) (H : Heap) (locs : List Loc) (ls : Array Slot), Zx wC g (Aw 82 g s.heap.size) s H locs u → lv_has ls 4 [(2, .int x2)] → k x2 u = some res → W p l e (rmX 4 125) s m args below meth c H locs 0 0 (QI wC 82 g res.1 res.2 below args s) (F0 m 58 ls [])) :
    ∀ (n : Nat) (x2 : Int32) (u : St) (H : Heap) (locs : List Loc) (ls : Array Slot), Zx wC g (Aw 82 g s.heap.size) s H locs u → lv_has ls 4 [(0, .ref (g.2.2 3)), (1, .ref (g.2.2 1)), (2, .int x2)] → L_X4_readAll_13 k n x2 u = some res → W p l e (rmX 4 125) s m args below meth c H locs 0 0 (QI wC 82 g res.1 res.2 below args s) (F0 m 13 ls []) := by
  have hx := C.1
  have hb := C.2.1
  intro n
  induction n with
  | zero =>
    intro x2 u H locs ls Z hl hf
    rw [L_X4_readAll_13.eq_1] at hf
    cases hf
  | succ n ih =>
    intro x2 u H locs ls Z hl hf
    rw [L_X4_readAll_13.eq_2] at hf
    refine lv_iload_n hx hb dX4_readAll_13 rfl (lv_at hl 2 rfl) ?_
    refine lv_sipush (v := 150) hx hb dX4_readAll_14 (by decide +kernel) ?_
    refine lv_icmp_gt (tgt := 58) hx hb dX4_readAll_17 (by decide) (fun hc17 => ?_) (fun hc17 => ?_)
    · rw [if_pos hc17] at hf
      exact hk _ _ H locs ls Z (lv_sub hl [2] rfl) hf
    · rw [if_neg hc17] at hf
      refine lv_aload_n hx hb dX4_readAll_20 rfl (lv_at hl 1 rfl) ?_
      obtain ⟨r21, hr21, hf⟩ := Option.bind_eq_some_iff.mp hf
      refine call_vi (As := []) (rest := []) C Z (c_X5_nextToken l hr21) mf_X5_nextToken (ml_nest C nw_14) rfl (oC_1 g _) rfl ⟨rfl, rfl, by decide, by decide⟩ rfl hl.1 (Nat.le_of_ble_eq_true rfl) dX4_readAll_21 (fun H locs Z => ?_)
      refine lv_istore_n (lv' := [(3, .int r21.1), (0, .ref (g.2.2 3)), (1, .ref (g.2.2 1)), (2, .int x2)]) hx hb dX4_readAll_24 rfl hl (by decide) rfl (fun ls hl => ?_)
      refine lv_iload_n hx hb dX4_readAll_25 rfl (lv_at hl 0 rfl) ?_
      refine lv_if_ne (tgt := 31) hx hb dX4_readAll_26 (by decide) (fun hc26 => ?_) (fun hc26 => ?_)
      · rw [if_neg hc26] at hf
        refine lv_iload_n hx hb dX4_readAll_31 rfl (lv_at hl 0 rfl) ?_
        refine lv_iconst (v := 1) hx hb dX4_readAll_32 (by decide +kernel) ?_
        refine lv_icmp_ne (tgt := 44) hx hb dX4_readAll_33 (by decide) (fun hc33 => ?_) (fun hc33 => ?_)
        · rw [if_neg hc33] at hf
          refine lv_bipush (v := (-10)) hx hb dX4_readAll_44 (by decide +kernel) ?_
          refine lv_aload_n hx hb dX4_readAll_46 rfl (lv_at hl 2 rfl) ?_
          refine gC_1_3 C Z (fl_nest C nw_70) dX4_readAll_47 (x := (r21.2.1 2)) rfl ?_
          refine lv_isub hx hb dX4_readAll_50 ?_
          have hf := Option.some.inj hf
          subst hf
          exact ret_i C Z dX4_readAll_51
        · rw [if_pos hc33] at hf
          refine lv_aload_n hx hb dX4_readAll_36 rfl (lv_at hl 1 rfl) ?_
          refine lv_aload_n hx hb dX4_readAll_37 rfl (lv_at hl 2 rfl) ?_
          obtain ⟨r38, hr38, hf⟩ := Option.bind_eq_some_iff.mp hf
          refine call_vi (As := [.ref (g.2.2 1)]) (rest := []) C Z (c_X4_readItem l hr38) mf_X4_readItem (ml_of C mw_383) rfl (oC_3 g _) rfl ⟨rfl, rfl, by decide, by decide⟩ rfl hl.1 (Nat.le_of_ble_eq_true rfl) dX4_readAll_38 (fun H locs Z => ?_)
          refine lv_if_ne (tgt := 52) hx hb dX4_readAll_41 (by decide) (fun hc41 => ?_) (fun hc41 => ?_)
          · rw [if_neg hc41] at hf
            refine lv_iinc (v := (x2 + 1)) (lv' := [(2, .int (x2 + 1)), (3, .int r21.1), (0, .ref (g.2.2 3)), (1, .ref (g.2.2 1))]) hx hb dX4_readAll_52 hl (k := 3) rfl rfl (by decide) rfl (fun ls hl => ?_)
            refine lv_goto (tgt := 13) hx hb dX4_readAll_55 (by decide) ?_
            exact ih _ _ _ _ _ Z (lv_sub hl [2, 3, 0] rfl) hf
          · rw [if_pos hc41] at hf
            refine lv_bipush (v := (-10)) hx hb dX4_readAll_44 (by decide +kernel) ?_
            refine lv_aload_n hx hb dX4_readAll_46 rfl (lv_at hl 2 rfl) ?_
            refine gC_1_3 C Z (fl_nest C nw_70) dX4_readAll_47 (x := (r38.2.1 2)) rfl ?_
            refine lv_isub hx hb dX4_readAll_50 ?_
            have hf := Option.some.inj hf
            subst hf
            exact ret_i C Z dX4_readAll_51
      · rw [if_pos hc26] at hf
        refine lv_iload_n hx hb dX4_readAll_29 rfl (lv_at hl 3 rfl) ?_
        have hf := Option.some.inj hf
        subst hf
        exact ret_i C Z dX4_readAll_30
def f_X4_readAll (u : St) : Option (Int32 × St) :=
  Option.bind (f_X1_empty u) fun r4 =>
  Option.bind (f_X5_rewind r4) fun r8 =>
  L_X4_readAll_13 (fun x2 u13 =>
    some (x2, u13)) FU 0 r8
set_option maxHeartbeats 4000000 in
set_option maxRecDepth 100000 in
theorem c_X4_readAll (l : Launch) {g : Gx} {u : St} {res : Int32 × St} (hf : f_X4_readAll u = some res) : CI wC 82 l yX4_readAll (wsY yX4_readAll cX4_readAll 4 (some .int)) (rmX 4 125) g [.ref (g.2.2 3), .ref (g.2.2 1)] u res.1 res.2 := by
  refine CI_start (by decide +kernel) rfl (Nat.le_of_ble_eq_true rfl) (fun {p e s m args below meth c ls} C Z hl => ?_)
  have hl : lv_has ls 4 [(0, .ref (g.2.2 3)), (1, .ref (g.2.2 1))] := hl
  have hx := C.1
  have hb := C.2.1
  unfold f_X4_readAll at hf
  refine lv_aload_n hx hb dX4_readAll_0 rfl (lv_at hl 0 rfl) ?_
  refine gC_3_0 C Z (fl_of C mw_195) dX4_readAll_1 ?_
  obtain ⟨r4, hr4, hf⟩ := Option.bind_eq_some_iff.mp hf
  refine call_vv (As := []) (rest := []) C Z (c_X1_empty l hr4) mf_X1_empty (ml_nest C nw_12) rfl (oC_4 g _) rfl ⟨rfl, rfl, by decide, by decide⟩ rfl hl.1 (Nat.le_of_ble_eq_true rfl) dX4_readAll_4 (fun H locs Z => ?_)
  refine lv_aload_n hx hb dX4_readAll_7 rfl (lv_at hl 1 rfl) ?_
  obtain ⟨r8, hr8, hf⟩ := Option.bind_eq_some_iff.mp hf
  refine call_vv (As := []) (rest := []) C Z (c_X5_rewind l hr8) mf_X5_rewind (ml_nest C nw_13) rfl (oC_1 g _) rfl ⟨rfl, rfl, by decide, by decide⟩ rfl hl.1 (Nat.le_of_ble_eq_true rfl) dX4_readAll_8 (fun H locs Z => ?_)
  refine lv_iconst (v := 0) hx hb dX4_readAll_11 (by decide +kernel) ?_
  refine lv_istore_n (lv' := [(2, .int 0), (0, .ref (g.2.2 3)), (1, .ref (g.2.2 1))]) hx hb dX4_readAll_12 rfl hl (by decide) rfl (fun ls hl => ?_)
  refine b_X4_readAll_13 C (fun x2 u13 H locs ls Z hl hf => ?_) FU _ _ _ _ _ Z (lv_sub hl [1, 2, 0] rfl) hf
  refine lv_iload_n hx hb dX4_readAll_58 rfl (lv_at hl 0 rfl) ?_
  have hf := Option.some.inj hf
  subst hf
  exact ret_i C Z dX4_readAll_59
def L_X7_copyRows_6_26_2 (k : Int32 → St → Option (St)) : Nat → Int32 → St → Option (St)
  | 0, _, _ => none
  | n + 1, x2, u =>
    if 5 ≤ x2 then
      k x2 u
    else
      if oob x2 5 then none else
      if oobs 0 (if 4 < 4 then 4 else 4) 4 then none else
      if oobs 0 (if 4 < 4 then 4 else 4) 4 then none else
      L_X7_copyRows_6_26_2 k n (x2 + 1) (sA u (17 + (Int32.toNatClampNeg x2)) (va_cpy (u.2.1 (2 + (Int32.toNatClampNeg x2))) (u.2.1 (17 + (Int32.toNatClampNeg x2))) 0 0 (Int32.toNatClampNeg (if 4 < 4 then 4 else 4))))
set_option maxHeartbeats 4000000 in
set_option maxRecDepth 100000 in
theorem b_X7_copyRows_6_26_2 {p : Program} {l : Launch} {e : Env} {s : State} {m : MethodId} {args : Array Value} {below : List Frame} {meth : Method} {c : Code} {g : Gx} {res : St} {k : Int32 → St → Option (St)} (C : Cx p s m meth c args cX7_copyRows RX7 3 (none) 82 g)
    (hk : ∀ (x2 : Int32) (u : St) (H : Heap) (locs : List Loc) (ls : Array Slot), Zx wC g (Aw 82 g s.heap.size) s H locs u → lv_has ls 3 [] → k x2 u = some res → W p l e (rmX 1 60) s m args below meth c H locs 0 0 (QV wC 82 g res below args s) (F0 m 42 ls [])) :
    ∀ (n : Nat) (x2 : Int32) (u : St) (H : Heap) (locs : List Loc) (ls : Array Slot), Zx wC g (Aw 82 g s.heap.size) s H locs u → lv_has ls 3 [(0, .ref (g.2.2 6)), (1, .ref (g.2.2 26)), (2, .int x2)] → L_X7_copyRows_6_26_2 k n x2 u = some res → W p l e (rmX 1 60) s m args below meth c H locs 0 0 (QV wC 82 g res below args s) (F0 m 2 ls []) := by
  have hx := C.1
  have hb := C.2.1
  intro n
  induction n with
  | zero =>
    intro x2 u H locs ls Z hl hf
    rw [L_X7_copyRows_6_26_2.eq_1] at hf
    cases hf
  | succ n ih =>
    intro x2 u H locs ls Z hl hf
    rw [L_X7_copyRows_6_26_2.eq_2] at hf
    refine lv_iload_n hx hb dX7_copyRows_2 rfl (lv_at hl 2 rfl) ?_
    refine lv_aload_n hx hb dX7_copyRows_3 rfl (lv_at hl 0 rfl) ?_
    refine r_len C Z (aC_6 g _) (t := 1) rfl (v := 5) rfl dX7_copyRows_4 ?_
    refine lv_icmp_ge (tgt := 42) hx hb dX7_copyRows_5 (by decide) (fun hc5 => ?_) (fun hc5 => ?_)
    · rw [if_pos hc5] at hf
      exact hk _ _ H locs ls Z (lv_sub hl [] rfl) hf
    · rw [if_neg hc5] at hf
      refine lv_iload_n hx hb dX7_copyRows_8 rfl (lv_at hl 2 rfl) ?_
      refine lv_aload_n hx hb dX7_copyRows_9 rfl (lv_at hl 1 rfl) ?_
      refine r_len C Z (aC_26 g _) (t := 1) rfl (v := 5) rfl dX7_copyRows_10 ?_
      refine lv_icmp_ge (tgt := 42) hx hb dX7_copyRows_11 (by decide) (fun hq => absurd hq hc5) (fun _ => ?_)
      refine lv_aload_n hx hb dX7_copyRows_14 rfl (lv_at hl 0 rfl) ?_
      refine lv_iload_n hx hb dX7_copyRows_15 rfl (lv_at hl 2 rfl) ?_
      by_cases ho16 : oob x2 5 = true
      · rw [if_pos ho16] at hf; cases hf
      rw [if_neg ho16] at hf
      refine r_aldr C Z (aC_6 g _) ho16 dX7_copyRows_16 (b := g.2.2 (7 + (Int32.toNatClampNeg x2))) rfl ?_
      refine lv_iconst (v := 0) hx hb dX7_copyRows_17 (by decide +kernel) ?_
      refine lv_aload_n hx hb dX7_copyRows_18 rfl (lv_at hl 1 rfl) ?_
      refine lv_iload_n hx hb dX7_copyRows_19 rfl (lv_at hl 2 rfl) ?_
      refine r_aldr C Z (aC_26 g _) ho16 dX7_copyRows_20 (b := g.2.2 (27 + (Int32.toNatClampNeg x2))) rfl ?_
      refine lv_iconst (v := 0) hx hb dX7_copyRows_21 (by decide +kernel) ?_
      refine lv_aload_n hx hb dX7_copyRows_22 rfl (lv_at hl 0 rfl) ?_
      refine lv_iload_n hx hb dX7_copyRows_23 rfl (lv_at hl 2 rfl) ?_
      refine r_aldr C Z (aC_6 g _) ho16 dX7_copyRows_24 (b := g.2.2 (7 + (Int32.toNatClampNeg x2))) rfl ?_
      refine r_len C Z (arC_6 g _ (oob_lt ho16) rfl) (t := 0) rfl (v := 4) rfl dX7_copyRows_25 ?_
      refine lv_aload_n hx hb dX7_copyRows_26 rfl (lv_at hl 1 rfl) ?_
      refine lv_iload_n hx hb dX7_copyRows_27 rfl (lv_at hl 2 rfl) ?_
      refine r_aldr C Z (aC_26 g _) ho16 dX7_copyRows_28 (b := g.2.2 (27 + (Int32.toNatClampNeg x2))) rfl ?_
      refine r_len C Z (arC_26 g _ (oob_lt ho16) rfl) (t := 0) rfl (v := 4) rfl dX7_copyRows_29 ?_
      refine r_min C mw_437 ⟨⟨mw_438, mw_109⟩, mw_439⟩ hl.1 (by decide) (Nat.le_of_ble_eq_true rfl) dX7_copyRows_30 ?_
      by_cases hq33a : oobs 0 (if 4 < 4 then 4 else 4) 4 = true
      · rw [if_pos hq33a] at hf; cases hf
      rw [if_neg hq33a] at hf
      by_cases hq33b : oobs 0 (if 4 < 4 then 4 else 4) 4 = true
      · rw [if_pos hq33b] at hf; cases hf
      rw [if_neg hq33b] at hf
      refine r_copy C wokC Z mw_440 ⟨⟨mw_417, mw_416⟩, mw_108⟩ hl.1 (by decide) (Nat.le_of_ble_eq_true rfl) (arC_6 g _ (oob_lt ho16) (f := (u.2.1 (2 + (Int32.toNatClampNeg x2)))) rfl) (arC_26 g _ (oob_lt ho16) (f := (u.2.1 (17 + (Int32.toNatClampNeg x2)))) rfl) hq33a hq33b (m1 := 0) (by decide) (m2 := 0) (by decide) rfl (srC_26 g _ (oob_lt ho16) _) dX7_copyRows_33 (fun H locs Z => ?_)
      refine lv_iinc (v := (x2 + 1)) (lv' := [(2, .int (x2 + 1)), (0, .ref (g.2.2 6)), (1, .ref (g.2.2 26))]) hx hb dX7_copyRows_36 hl (k := 2) rfl rfl (by decide) rfl (fun ls hl => ?_)
      refine lv_goto (tgt := 2) hx hb dX7_copyRows_39 (by decide) ?_
      exact ih _ _ _ _ _ Z (lv_sub hl [1, 2, 0] rfl) hf
def f_X7_copyRows_6_26 (u : St) : Option (St) :=
  L_X7_copyRows_6_26_2 (fun x2 u2 =>
    some u2) FU 0 u
set_option maxHeartbeats 4000000 in
set_option maxRecDepth 100000 in
theorem c_X7_copyRows_6_26 (l : Launch) {g : Gx} {u : St} {res : St} (hf : f_X7_copyRows_6_26 u = some res) : CV wC 82 l yX7_copyRows (wsY yX7_copyRows cX7_copyRows 3 (none)) (rmX 1 60) g [.ref (g.2.2 6), .ref (g.2.2 26)] u res := by
  refine CV_start (by decide +kernel) rfl (Nat.le_of_ble_eq_true rfl) (fun {p e s m args below meth c ls} C Z hl => ?_)
  have hl : lv_has ls 3 [(0, .ref (g.2.2 6)), (1, .ref (g.2.2 26))] := hl
  have hx := C.1
  have hb := C.2.1
  unfold f_X7_copyRows_6_26 at hf
  refine lv_iconst (v := 0) hx hb dX7_copyRows_0 (by decide +kernel) ?_
  refine lv_istore_n (lv' := [(2, .int 0), (0, .ref (g.2.2 6)), (1, .ref (g.2.2 26))]) hx hb dX7_copyRows_1 rfl hl (by decide) rfl (fun ls hl => ?_)
  refine b_X7_copyRows_6_26_2 C (fun x2 u2 H locs ls Z hl hf => ?_) FU _ _ _ _ _ Z (lv_sub hl [1, 2, 0] rfl) hf
  have hf := Option.some.inj hf
  subst hf
  exact ret_v C Z dX7_copyRows_42
