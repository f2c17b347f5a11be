def f_X7_ways (u : St) (x1 : Int32) : Option (Int32) :=
  if x1 = 0 then
    Option.bind (f_X0_wayCount u) fun r32 =>
    some r32
  else
  if x1 = 1 then
    Option.bind (f_X0_bestWay u) fun r44 =>
    Option.bind (f_X0_falsesOf u r44) fun r47 =>
    if r47 = 0 then
      Option.bind (f_X0_bestWay u) fun r57 =>
      some r57
    else
      some (-9)
  else
  some (-1)
set_option maxHeartbeats 4000000 in
set_option maxRecDepth 100000 in
theorem c_X7_ways (l : Launch) {g : Gx} {u : St} {x1 : Int32} {res : Int32} (hf : f_X7_ways u x1 = some res) : CI wC 82 l yX7_ways (wsY yX7_ways cX7_ways 2 (some .int)) (rmX 3 71) g [.ref (g.2.2 0), .int x1] u res u := by
  refine CI_start (by decide +kernel) rfl (Nat.le_of_ble_eq_true rfl) (fun {p e s m args below meth c ls} C Z hl => ?_)
  have hl : lv_has ls 2 [(0, .ref (g.2.2 0)), (1, .int x1)] := hl
  have hx := C.1
  have hb := C.2.1
  unfold f_X7_ways at hf
  refine lv_iload_n hx hb dX7_ways_0 rfl (lv_at hl 1 rfl) ?_
  by_cases hs1_0 : x1 = 0
  · rw [if_pos hs1_0] at hf
    refine lv_lookup (tgt := 28) hx hb dX7_ways_1 (by decide) (by rw [hs1_0]; first | done | rfl) (by decide) ?_
    refine lv_aload_n hx hb dX7_ways_28 rfl (lv_at hl 0 rfl) ?_
    refine gC_0_3 C Z (fl_of C mw_308) dX7_ways_29 ?_
    obtain ⟨r32, hr32, hf⟩ := Option.bind_eq_some_iff.mp hf
    refine call_vi (As := []) (rest := []) C Z (c_X0_wayCount l hr32) mf_X0_wayCount (ml_nest C nw_60) rfl (oC_53 g _) rfl ⟨rfl, rfl, by decide, by decide⟩ rfl hl.1 (Nat.le_of_ble_eq_true rfl) dX7_ways_32 (fun H locs Z => ?_)
    have hf := Option.some.inj hf
    subst hf
    exact ret_i C Z dX7_ways_35
  rw [if_neg hs1_0] at hf
  by_cases hs1_1 : x1 = 1
  · rw [if_pos hs1_1] at hf
    refine lv_lookup (tgt := 36) hx hb dX7_ways_1 (by decide) (by rw [hs1_1]; first | done | rfl) (by decide) ?_
    refine lv_aload_n hx hb dX7_ways_36 rfl (lv_at hl 0 rfl) ?_
    refine gC_0_3 C Z (fl_of C mw_308) dX7_ways_37 ?_
    refine lv_aload_n hx hb dX7_ways_40 rfl (lv_at hl 0 rfl) ?_
    refine gC_0_3 C Z (fl_of C mw_308) dX7_ways_41 ?_
    obtain ⟨r44, hr44, hf⟩ := Option.bind_eq_some_iff.mp hf
    refine call_vi (As := []) (rest := [.ref (g.2.2 53)]) C Z (c_X0_bestWay l hr44) mf_X0_bestWay (ml_nest C nw_62) rfl (oC_53 g _) rfl ⟨rfl, rfl, by decide, by decide⟩ rfl hl.1 (Nat.le_of_ble_eq_true rfl) dX7_ways_44 (fun H locs Z => ?_)
    obtain ⟨r47, hr47, hf⟩ := Option.bind_eq_some_iff.mp hf
    refine call_vi (As := [.int r44]) (rest := []) C Z (c_X0_falsesOf l hr47) mf_X0_falsesOf (ml_nest C nw_63) rfl (oC_53 g _) rfl ⟨rfl, rfl, by decide, by decide⟩ rfl hl.1 (Nat.le_of_ble_eq_true rfl) dX7_ways_47 (fun H locs Z => ?_)
    refine lv_if_ne (tgt := 63) hx hb dX7_ways_50 (by decide) (fun hc50 => ?_) (fun hc50 => ?_)
    · rw [if_neg hc50] at hf
      refine lv_bipush (v := (-9)) hx hb dX7_ways_63 (by decide +kernel) ?_
      have hf := Option.some.inj hf
      subst hf
      exact ret_i C Z dX7_ways_65
    · rw [if_pos hc50] at hf
      refine lv_aload_n hx hb dX7_ways_53 rfl (lv_at hl 0 rfl) ?_
      refine gC_0_3 C Z (fl_of C mw_308) dX7_ways_54 ?_
      obtain ⟨r57, hr57, hf⟩ := Option.bind_eq_some_iff.mp hf
      refine call_vi (As := []) (rest := []) C Z (c_X0_bestWay l hr57) mf_X0_bestWay (ml_nest C nw_62) rfl (oC_53 g _) rfl ⟨rfl, rfl, by decide, by decide⟩ rfl hl.1 (Nat.le_of_ble_eq_true rfl) dX7_ways_57 (fun H locs Z => ?_)
      refine lv_goto (tgt := 65) hx hb dX7_ways_60 (by decide) ?_
      have hf := Option.some.inj hf
      subst hf
      exact ret_i C Z dX7_ways_65
  rw [if_neg hs1_1] at hf
  refine lv_lookup (tgt := 66) (off := 65) hx hb dX7_ways_1 (by decide) (by show Op.lookupswitch.offset [(0, 27), (1, 35)] 65 _ = _; rw [lv_osw hs1_0 (by decide), lv_osw hs1_1 (by decide)]; rfl) (by decide) ?_
  refine lv_iconst (v := (-1)) hx hb dX7_ways_66 (by decide +kernel) ?_
  have hf := Option.some.inj hf
  subst hf
  exact ret_i C Z dX7_ways_67
def L_X8_wrong_4 (k : Int32 → Int32 → Option (Int32)) (u : St) (x1 : Int32) : Nat → Int32 → Int32 → Option (Int32)
  | 0, _, _ => none
  | n + 1, x2, x3 =>
    if (u.1 4) ≤ x3 then
      k x2 x3
    else
      if oob ((2 * x3) + 1) 12 then none else
      if oob (2 * x3) 12 then none else
      if ((x1 / 7) + (((u.2.1 11) (Int32.toNatClampNeg ((2 * x3) + 1))) * ((x1 - (x1 / 7) * 7) - 3))) = ((u.2.1 11) (Int32.toNatClampNeg (2 * x3))) then
        L_X8_wrong_4 k u x1 n (x2 + 0) (x3 + 1)
      else
        L_X8_wrong_4 k u x1 n (x2 + 1) (x3 + 1)
set_option maxHeartbeats 4000000 in
set_option maxRecDepth 100000 in
theorem b_X8_wrong_4 {p : Program} {l : Launch} {e : Env} {s : State} {m : MethodId} {args : Array Value} {below : List Frame} {meth : Method} {c : Code} {g : Gx} {u : St} {x1 : Int32} {res : Int32} {k : Int32 → Int32 → Option (Int32)} (C : Cx p s m meth c args cX8_wrong RX8 4 (some .int) 22 g)
    (hk : ∀ (x2 x3 : Int32) (H : Heap) (locs : List Loc) (ls : Array Slot), Zx wM g (Aw 22 g s.heap.size) s H locs u → lv_has ls 4 [(2, .int x2)] → k x2 x3 = some res → W p l e (rmX 0 0) s m args below meth c H locs 0 0 (QI wM 22 g res u below args s) (F0 m 59 ls [])) :
    ∀ (n : Nat) (x2 x3 : Int32) (H : Heap) (locs : List Loc) (ls : Array Slot), Zx wM g (Aw 22 g s.heap.size) s H locs u → lv_has ls 4 [(0, .ref (g.2.2 0)), (1, .int x1), (2, .int x2), (3, .int x3)] → L_X8_wrong_4 k u x1 n x2 x3 = some res → W p l e (rmX 0 0) s m args below meth c H locs 0 0 (QI wM 22 g res u below args s) (F0 m 4 ls []) := by
  have hx := C.1
  have hb := C.2.1
  intro n
  induction n with
  | zero =>
    intro x2 x3 H locs ls Z hl hf
    rw [L_X8_wrong_4.eq_1] at hf
    cases hf
  | succ n ih =>
    intro x2 x3 H locs ls Z hl hf
    rw [L_X8_wrong_4.eq_2] at hf
    refine lv_iload_n hx hb dX8_wrong_4 rfl (lv_at hl 3 rfl) ?_
    refine lv_aload_n hx hb dX8_wrong_5 rfl (lv_at hl 0 rfl) ?_
    refine gM_0_15 C Z (fl_of C mw_832) dX8_wrong_6 (x := (u.1 4)) rfl ?_
    refine lv_icmp_ge (tgt := 59) hx hb dX8_wrong_9 (by decide) (fun hc9 => ?_) (fun hc9 => ?_)
    · rw [if_pos hc9] at hf
      exact hk _ _ H locs ls Z (lv_sub hl [2] rfl) hf
    · rw [if_neg hc9] at hf
      refine lv_iload_n hx hb dX8_wrong_12 rfl (lv_at hl 2 rfl) ?_
      refine lv_iload_n hx hb dX8_wrong_13 rfl (lv_at hl 1 rfl) ?_
      refine lv_bipush (v := 7) hx hb dX8_wrong_14 (by decide +kernel) ?_
      refine lv_idiv hx hb dX8_wrong_16 (by decide) ?_
      refine lv_aload_n hx hb dX8_wrong_17 rfl (lv_at hl 0 rfl) ?_
      refine gM_0_16 C Z (fl_of C mw_833) dX8_wrong_18 ?_
      refine lv_iconst (v := 2) hx hb dX8_wrong_21 (by decide +kernel) ?_
      refine lv_iload_n hx hb dX8_wrong_22 rfl (lv_at hl 3 rfl) ?_
      refine lv_imul hx hb dX8_wrong_23 ?_
      refine lv_iconst (v := 1) hx hb dX8_wrong_24 (by decide +kernel) ?_
      refine lv_iadd hx hb dX8_wrong_25 ?_
      by_cases ho26 : oob ((2 * x3) + 1) 12 = true
      · rw [if_pos ho26] at hf; cases hf
      rw [if_neg ho26] at hf
      refine r_ald C Z (aM_12 g _ (f := (u.2.1 11)) rfl) ho26 rfl dX8_wrong_26 (x := ((u.2.1 11) (Int32.toNatClampNeg ((2 * x3) + 1)))) rfl ?_
      refine lv_iload_n hx hb dX8_wrong_27 rfl (lv_at hl 1 rfl) ?_
      refine lv_bipush (v := 7) hx hb dX8_wrong_28 (by decide +kernel) ?_
      refine lv_irem hx hb dX8_wrong_30 (by decide) ?_
      refine lv_iconst (v := 3) hx hb dX8_wrong_31 (by decide +kernel) ?_
      refine lv_isub hx hb dX8_wrong_32 ?_
      refine lv_imul hx hb dX8_wrong_33 ?_
      refine lv_iadd hx hb dX8_wrong_34 ?_
      refine lv_aload_n hx hb dX8_wrong_35 rfl (lv_at hl 0 rfl) ?_
      refine gM_0_16 C Z (fl_of C mw_833) dX8_wrong_36 ?_
      refine lv_iconst (v := 2) hx hb dX8_wrong_39 (by decide +kernel) ?_
      refine lv_iload_n hx hb dX8_wrong_40 rfl (lv_at hl 3 rfl) ?_
      refine lv_imul hx hb dX8_wrong_41 ?_
      by_cases ho42 : oob (2 * x3) 12 = true
      · rw [if_pos ho42] at hf; cases hf
      rw [if_neg ho42] at hf
      refine r_ald C Z (aM_12 g _ (f := (u.2.1 11)) rfl) ho42 rfl dX8_wrong_42 (x := ((u.2.1 11) (Int32.toNatClampNeg (2 * x3)))) rfl ?_
      refine lv_icmp_ne (tgt := 50) hx hb dX8_wrong_43 (by decide) (fun hc43 => ?_) (fun hc43 => ?_)
      · rw [if_neg hc43] at hf
        refine lv_iconst (v := 1) hx hb dX8_wrong_50 (by decide +kernel) ?_
        refine lv_iadd hx hb dX8_wrong_51 ?_
        refine lv_istore_n (lv' := [(2, .int (x2 + 1)), (0, .ref (g.2.2 0)), (1, .int x1), (3, .int x3)]) hx hb dX8_wrong_52 rfl hl (by decide) rfl (fun ls hl => ?_)
        refine lv_iinc (v := (x3 + 1)) (lv' := [(3, .int (x3 + 1)), (2, .int (x2 + 1)), (0, .ref (g.2.2 0)), (1, .int x1)]) hx hb dX8_wrong_53 hl (k := 3) rfl rfl (by decide) rfl (fun ls hl => ?_)
        refine lv_goto (tgt := 4) hx hb dX8_wrong_56 (by decide) ?_
        exact ih _ _ _ _ _ Z (lv_sub hl [2, 3, 1, 0] rfl) hf
      · rw [if_pos hc43] at hf
        refine lv_iconst (v := 0) hx hb dX8_wrong_46 (by decide +kernel) ?_
        refine lv_goto (tgt := 51) hx hb dX8_wrong_47 (by decide) ?_
        refine lv_iadd hx hb dX8_wrong_51 ?_
        refine lv_istore_n (lv' := [(2, .int (x2 + 0)), (0, .ref (g.2.2 0)), (1, .int x1), (3, .int x3)]) hx hb dX8_wrong_52 rfl hl (by decide) rfl (fun ls hl => ?_)
        refine lv_iinc (v := (x3 + 1)) (lv' := [(3, .int (x3 + 1)), (2, .int (x2 + 0)), (0, .ref (g.2.2 0)), (1, .int x1)]) hx hb dX8_wrong_53 hl (k := 3) rfl rfl (by decide) rfl (fun ls hl => ?_)
        refine lv_goto (tgt := 4) hx hb dX8_wrong_56 (by decide) ?_
        exact ih _ _ _ _ _ Z (lv_sub hl [2, 3, 1, 0] rfl) hf
def f_X8_wrong (u : St) (x1 : Int32) : Option (Int32) :=
  L_X8_wrong_4 (fun x2 x3 =>
    some x2) u x1 FU 0 0
set_option maxHeartbeats 4000000 in
set_option maxRecDepth 100000 in
theorem c_X8_wrong (l : Launch) {g : Gx} {u : St} {x1 : Int32} {res : Int32} (hf : f_X8_wrong u x1 = some res) : CI wM 22 l yX8_wrong (wsY yX8_wrong cX8_wrong 4 (some .int)) (rmX 0 0) g [.ref (g.2.2 0), .int x1] u res u := by
  refine CI_start (by decide +kernel) rfl (Nat.le_of_ble_eq_true rfl) (fun {p e s m args below meth c ls} C Z hl => ?_)
  have hl : lv_has ls 4 [(0, .ref (g.2.2 0)), (1, .int x1)] := hl
  have hx := C.1
  have hb := C.2.1
  unfold f_X8_wrong at hf
  refine lv_iconst (v := 0) hx hb dX8_wrong_0 (by decide +kernel) ?_
  refine lv_istore_n (lv' := [(2, .int 0), (0, .ref (g.2.2 0)), (1, .int x1)]) hx hb dX8_wrong_1 rfl hl (by decide) rfl (fun ls hl => ?_)
  refine lv_iconst (v := 0) hx hb dX8_wrong_2 (by decide +kernel) ?_
  refine lv_istore_n (lv' := [(3, .int 0), (2, .int 0), (0, .ref (g.2.2 0)), (1, .int x1)]) hx hb dX8_wrong_3 rfl hl (by decide) rfl (fun ls hl => ?_)
  refine b_X8_wrong_4 C (fun x2 x3 H locs ls Z hl hf => ?_) FU _ _ _ _ _ Z (lv_sub hl [2, 3, 1, 0] rfl) hf
  refine lv_iload_n hx hb dX8_wrong_59 rfl (lv_at hl 0 rfl) ?_
  have hf := Option.some.inj hf
  subst hf
  exact ret_i C Z dX8_wrong_60
def f_X8_told (x0 : Int32) : Option (Int32) :=
  some ((10 * (x0 / 7)) + (x0 - (x0 / 7) * 7))
set_option maxHeartbeats 4000000 in
set_option maxRecDepth 100000 in
theorem c_X8_told (l : Launch) {g : Gx} {u : St} {x0 : Int32} {res : Int32} (hf : f_X8_told x0 = some res) : CI wM 22 l yX8_told (wsY yX8_told cX8_told 1 (some .int)) (rmX 0 0) g [.int x0] u res u := by
  refine CI_start (by decide +kernel) rfl (Nat.le_of_ble_eq_true rfl) (fun {p e s m args below meth c ls} C Z hl => ?_)
  have hl : lv_has ls 1 [(0, .int x0)] := hl
  have hx := C.1
  have hb := C.2.1
  unfold f_X8_told at hf
  refine lv_bipush (v := 10) hx hb dX8_told_0 (by decide +kernel) ?_
  refine lv_iload_n hx hb dX8_told_2 rfl (lv_at hl 0 rfl) ?_
  refine lv_bipush (v := 7) hx hb dX8_told_3 (by decide +kernel) ?_
  refine lv_idiv hx hb dX8_told_5 (by decide) ?_
  refine lv_imul hx hb dX8_told_6 ?_
  refine lv_iload_n hx hb dX8_told_7 rfl (lv_at hl 0 rfl) ?_
  refine lv_bipush (v := 7) hx hb dX8_told_8 (by decide +kernel) ?_
  refine lv_irem hx hb dX8_told_10 (by decide) ?_
  refine lv_iadd hx hb dX8_told_11 ?_
  have hf := Option.some.inj hf
  subst hf
  exact ret_i C Z dX8_told_12
def L_X8_ways_19 (k : Int32 → Int32 → Int32 → Option (Int32)) (u : St) : Nat → Int32 → Int32 → Int32 → Option (Int32)
  | 0, _, _, _ => none
  | n + 1, x2, x3, x4 =>
    if 168 ≤ x4 then
      k x2 x3 x4
    else
      Option.bind (f_X8_wrong u x4) fun r30 =>
      if r30 = 0 then
        if x2 = 0 then
          Option.bind (f_X8_told x4) fun r42 =>
          L_X8_ways_19 k u n (x2 + 1) r42 (x4 + 1)
        else
          L_X8_ways_19 k u n (x2 + 1) x3 (x4 + 1)
      else
        L_X8_ways_19 k u n x2 x3 (x4 + 1)
set_option maxHeartbeats 4000000 in
set_option maxRecDepth 100000 in
theorem b_X8_ways_19 {p : Program} {l : Launch} {e : Env} {s : State} {m : MethodId} {args : Array Value} {below : List Frame} {meth : Method} {c : Code} {g : Gx} {u : St} {x1 : Int32} {res : Int32} {k : Int32 → Int32 → Int32 → Option (Int32)} (C : Cx p s m meth c args cX8_ways RX8 5 (some .int) 22 g)
    (hk : ∀ (x2 x3 x4 : Int32) (H : Heap) (locs : List Loc) (ls : Array Slot), Zx wM g (Aw 22 g s.heap.size) s H locs u → lv_has ls 5 [(1, .int x1), (2, .int x2), (3, .int x3)] → k x2 x3 x4 = some res → W p l e (rmX 1 23) s m args below meth c H locs 0 0 (QI wM 22 g res u below args s) (F0 m 59 ls [])) :
    ∀ (n : Nat) (x2 x3 x4 : Int32) (H : Heap) (locs : List Loc) (ls : Array Slot), Zx wM g (Aw 22 g s.heap.size) s H locs u → lv_has ls 5 [(0, .ref (g.2.2 0)), (1, .int x1), (2, .int x2), (3, .int x3), (4, .int x4)] → L_X8_ways_19 k u n x2 x3 x4 = some res → W p l e (rmX 1 23) s m args below meth c H locs 0 0 (QI wM 22 g res u below args s) (F0 m 19 ls []) := by
  have hx := C.1
  have hb := C.2.1
  intro n
  induction n with
  | zero =>
    intro x2 x3 x4 H locs ls Z hl hf
    rw [L_X8_ways_19.eq_1] at hf
    cases hf
  | succ n ih =>
    intro x2 x3 x4 H locs ls Z hl hf
    rw [L_X8_ways_19.eq_2] at hf
    refine lv_iload hx hb dX8_ways_19 (lv_at hl 4 rfl) ?_
    refine lv_sipush (v := 168) hx hb dX8_ways_21 (by decide +kernel) ?_
    refine lv_icmp_ge (tgt := 59) hx hb dX8_ways_24 (by decide) (fun hc24 => ?_) (fun hc24 => ?_)
    · rw [if_pos hc24] at hf
      exact hk _ _ _ H locs ls Z (lv_sub hl [1, 2, 3] rfl) hf
    · rw [if_neg hc24] at hf
      refine lv_aload_n hx hb dX8_ways_27 rfl (lv_at hl 0 rfl) ?_
      refine lv_iload hx hb dX8_ways_28 (lv_at hl 4 rfl) ?_
      obtain ⟨r30, hr30, hf⟩ := Option.bind_eq_some_iff.mp hf
      refine call_vi (As := [.int x4]) (rest := []) C Z (c_X8_wrong l hr30) mf_X8_wrong (ml_of C mw_1167) rfl (oM_0 g _) rfl ⟨rfl, rfl, by decide, by decide⟩ rfl hl.1 (Nat.le_of_ble_eq_true rfl) dX8_ways_30 (fun H locs Z => ?_)
      refine lv_if_ne (tgt := 53) hx hb dX8_ways_33 (by decide) (fun hc33 => ?_) (fun hc33 => ?_)
      · rw [if_neg hc33] at hf
        refine lv_iinc (v := (x4 + 1)) (lv' := [(4, .int (x4 + 1)), (0, .ref (g.2.2 0)), (1, .int x1), (2, .int x2), (3, .int x3)]) hx hb dX8_ways_53 hl (k := 4) rfl rfl (by decide) rfl (fun ls hl => ?_)
        refine lv_goto (tgt := 19) hx hb dX8_ways_56 (by decide) ?_
        exact ih _ _ _ _ _ _ Z (lv_sub hl [1, 2, 3, 4, 0] rfl) hf
      · rw [if_pos hc33] at hf
        refine lv_iload_n hx hb dX8_ways_36 rfl (lv_at hl 2 rfl) ?_
        refine lv_if_ne (tgt := 48) hx hb dX8_ways_37 (by decide) (fun hc37 => ?_) (fun hc37 => ?_)
        · rw [if_neg hc37] at hf
          refine lv_iload_n hx hb dX8_ways_48 rfl (lv_at hl 3 rfl) ?_
          refine lv_istore_n (lv' := [(3, .int x3), (0, .ref (g.2.2 0)), (1, .int x1), (2, .int x2), (4, .int x4)]) hx hb dX8_ways_49 rfl hl (by decide) rfl (fun ls hl => ?_)
          refine lv_iinc (v := (x2 + 1)) (lv' := [(2, .int (x2 + 1)), (3, .int x3), (0, .ref (g.2.2 0)), (1, .int x1), (4, .int x4)]) hx hb dX8_ways_50 hl (k := 3) rfl rfl (by decide) rfl (fun ls hl => ?_)
          refine lv_iinc (v := (x4 + 1)) (lv' := [(4, .int (x4 + 1)), (2, .int (x2 + 1)), (3, .int x3), (0, .ref (g.2.2 0)), (1, .int x1)]) hx hb dX8_ways_53 hl (k := 4) rfl rfl (by decide) rfl (fun ls hl => ?_)
          refine lv_goto (tgt := 19) hx hb dX8_ways_56 (by decide) ?_
          exact ih _ _ _ _ _ _ Z (lv_sub hl [3, 4, 1, 2, 0] rfl) hf
        · rw [if_pos hc37] at hf
          refine lv_iload hx hb dX8_ways_40 (lv_at hl 4 rfl) ?_
          obtain ⟨r42, hr42, hf⟩ := Option.bind_eq_some_iff.mp hf
          refine call_si (As := [.int x4]) (rest := []) C Z (c_X8_told l hr42) mf_X8_told (ml_of C mw_1171) rfl ⟨rfl, rfl, by decide, by decide⟩ rfl hl.1 (Nat.le_of_ble_eq_true rfl) dX8_ways_42 (fun H locs Z => ?_)
          refine lv_goto (tgt := 49) hx hb dX8_ways_45 (by decide) ?_
          refine lv_istore_n (lv' := [(3, .int r42), (0, .ref (g.2.2 0)), (1, .int x1), (2, .int x2), (4, .int x4)]) hx hb dX8_ways_49 rfl hl (by decide) rfl (fun ls hl => ?_)
          refine lv_iinc (v := (x2 + 1)) (lv' := [(2, .int (x2 + 1)), (3, .int r42), (0, .ref (g.2.2 0)), (1, .int x1), (4, .int x4)]) hx hb dX8_ways_50 hl (k := 3) rfl rfl (by decide) rfl (fun ls hl => ?_)
          refine lv_iinc (v := (x4 + 1)) (lv' := [(4, .int (x4 + 1)), (2, .int (x2 + 1)), (3, .int r42), (0, .ref (g.2.2 0)), (1, .int x1)]) hx hb dX8_ways_53 hl (k := 4) rfl rfl (by decide) rfl (fun ls hl => ?_)
          refine lv_goto (tgt := 19) hx hb dX8_ways_56 (by decide) ?_
          exact ih _ _ _ _ _ _ Z (lv_sub hl [3, 4, 1, 2, 0] rfl) hf
def f_X8_ways (u : St) (x1 : Int32) : Option (Int32) :=
  Option.bind (f_X8_in x1 0 1) fun r3 =>
  if r3 = 0 then
    some (-1)
  else
    L_X8_ways_19 (fun x2 x3 x4 =>
      if x1 = 0 then
        some x2
      else
        some x3) u FU 0 (-9) 0
set_option maxHeartbeats 4000000 in
set_option maxRecDepth 100000 in
theorem c_X8_ways (l : Launch) {g : Gx} {u : St} {x1 : Int32} {res : Int32} (hf : f_X8_ways u x1 = some res) : CI wM 22 l yX8_ways (wsY yX8_ways cX8_ways 5 (some .int)) (rmX 1 23) g [.ref (g.2.2 0), .int x1] u res u := by
  refine CI_start (by decide +kernel) rfl (Nat.le_of_ble_eq_true rfl) (fun {p e s m args below meth c ls} C Z hl => ?_)
  have hl : lv_has ls 5 [(0, .ref (g.2.2 0)), (1, .int x1)] := hl
  have hx := C.1
  have hb := C.2.1
  unfold f_X8_ways at hf
  refine lv_iload_n hx hb dX8_ways_0 rfl (lv_at hl 1 rfl) ?_
  refine lv_iconst (v := 0) hx hb dX8_ways_1 (by decide +kernel) ?_
  refine lv_iconst (v := 1) hx hb dX8_ways_2 (by decide +kernel) ?_
  obtain ⟨r3, hr3, hf⟩ := Option.bind_eq_some_iff.mp hf
  refine call_si (As := [.int x1, .int 0, .int 1]) (rest := []) C Z (c_X8_in l hr3) mf_X8_in (ml_of C mw_934) rfl ⟨rfl, rfl, by decide, by decide⟩ rfl hl.1 (Nat.le_of_ble_eq_true rfl) dX8_ways_3 (fun H locs Z => ?_)
  refine lv_if_ne (tgt := 11) hx hb dX8_ways_6 (by decide) (fun hc6 => ?_) (fun hc6 => ?_)
  · rw [if_neg hc6] at hf
    refine lv_iconst (v := 0) hx hb dX8_ways_11 (by decide +kernel) ?_
    refine lv_istore_n (lv' := [(2, .int 0), (0, .ref (g.2.2 0)), (1, .int x1)]) hx hb dX8_ways_12 rfl hl (by decide) rfl (fun ls hl => ?_)
    refine lv_bipush (v := (-9)) hx hb dX8_ways_13 (by decide +kernel) ?_
    refine lv_istore_n (lv' := [(3, .int (-9)), (2, .int 0), (0, .ref (g.2.2 0)), (1, .int x1)]) hx hb dX8_ways_15 rfl hl (by decide) rfl (fun ls hl => ?_)
    refine lv_iconst (v := 0) hx hb dX8_ways_16 (by decide +kernel) ?_
    refine lv_istore (lv' := [(4, .int 0), (3, .int (-9)), (2, .int 0), (0, .ref (g.2.2 0)), (1, .int x1)]) hx hb dX8_ways_17 hl (by decide) rfl (fun ls hl => ?_)
    refine b_X8_ways_19 C (fun x2 x3 x4 H locs ls Z hl hf => ?_) FU _ _ _ _ _ _ Z (lv_sub hl [3, 4, 2, 1, 0] rfl) hf
    refine lv_iload_n hx hb dX8_ways_59 rfl (lv_at hl 0 rfl) ?_
    refine lv_if_ne (tgt := 67) hx hb dX8_ways_60 (by decide) (fun hc60 => ?_) (fun hc60 => ?_)
    · rw [if_neg hc60] at hf
      refine lv_iload_n hx hb dX8_ways_67 rfl (lv_at hl 2 rfl) ?_
      have hf := Option.some.inj hf
      subst hf
      exact ret_i C Z dX8_ways_68
    · rw [if_pos hc60] at hf
      refine lv_iload_n hx hb dX8_ways_63 rfl (lv_at hl 1 rfl) ?_
      refine lv_goto (tgt := 68) hx hb dX8_ways_64 (by decide) ?_
      have hf := Option.some.inj hf
      subst hf
      exact ret_i C Z dX8_ways_68
  · rw [if_pos hc6] at hf
    refine lv_iconst (v := (-1)) hx hb dX8_ways_9 (by decide +kernel) ?_
    have hf := Option.some.inj hf
    subst hf
    exact ret_i C Z dX8_ways_10
def f_X7_falses (u : St) (x1 : Int32) : Option (Int32) :=
  if x1 = 0 then
    Option.bind (f_X0_bestWay u) fun r36 =>
    Option.bind (f_X0_falsesOf u r36) fun r39 =>
    some r39
  else
  if x1 = 1 then
    Option.bind (f_X0_bestWay u) fun r47 =>
    some r47
  else
  some (-1)
set_option maxHeartbeats 4000000 in
set_option maxRecDepth 100000 in
theorem c_X7_falses (l : Launch) {g : Gx} {u : St} {x1 : Int32} {res : Int32} (hf : f_X7_falses u x1 = some res) : CI wC 82 l yX7_falses (wsY yX7_falses cX7_falses 2 (some .int)) (rmX 3 71) g [.ref (g.2.2 0), .int x1] u res u := by
  refine CI_start (by decide +kernel) rfl (Nat.le_of_ble_eq_true rfl) (fun {p e s m args below meth c ls} C Z hl => ?_)
  have hl : lv_has ls 2 [(0, .ref (g.2.2 0)), (1, .int x1)] := hl
  have hx := C.1
  have hb := C.2.1
  unfold f_X7_falses at hf
  refine lv_iload_n hx hb dX7_falses_0 rfl (lv_at hl 1 rfl) ?_
  by_cases hs1_0 : x1 = 0
  · rw [if_pos hs1_0] at hf
    refine lv_lookup (tgt := 28) hx hb dX7_falses_1 (by decide) (by rw [hs1_0]; first | done | rfl) (by decide) ?_
    refine lv_aload_n hx hb dX7_falses_28 rfl (lv_at hl 0 rfl) ?_
    refine gC_0_3 C Z (fl_of C mw_308) dX7_falses_29 ?_
    refine lv_aload_n hx hb dX7_falses_32 rfl (lv_at hl 0 rfl) ?_
    refine gC_0_3 C Z (fl_of C mw_308) dX7_falses_33 ?_
    obtain ⟨r36, hr36, hf⟩ := Option.bind_eq_some_iff.mp hf
    refine call_vi (As := []) (rest := [.ref (g.2.2 53)]) C Z (c_X0_bestWay l hr36) mf_X0_bestWay (ml_nest C nw_62) rfl (oC_53 g _) rfl ⟨rfl, rfl, by decide, by decide⟩ rfl hl.1 (Nat.le_of_ble_eq_true rfl) dX7_falses_36 (fun H locs Z => ?_)
    obtain ⟨r39, hr39, hf⟩ := Option.bind_eq_some_iff.mp hf
    refine call_vi (As := [.int r36]) (rest := []) C Z (c_X0_falsesOf l hr39) mf_X0_falsesOf (ml_nest C nw_63) rfl (oC_53 g _) rfl ⟨rfl, rfl, by decide, by decide⟩ rfl hl.1 (Nat.le_of_ble_eq_true rfl) dX7_falses_39 (fun H locs Z => ?_)
    have hf := Option.some.inj hf
    subst hf
    exact ret_i C Z dX7_falses_42
  rw [if_neg hs1_0] at hf
  by_cases hs1_1 : x1 = 1
  · rw [if_pos hs1_1] at hf
    refine lv_lookup (tgt := 43) hx hb dX7_falses_1 (by decide) (by rw [hs1_1]; first | done | rfl) (by decide) ?_
    refine lv_aload_n hx hb dX7_falses_43 rfl (lv_at hl 0 rfl) ?_
    refine gC_0_3 C Z (fl_of C mw_308) dX7_falses_44 ?_
    obtain ⟨r47, hr47, hf⟩ := Option.bind_eq_some_iff.mp hf
    refine call_vi (As := []) (rest := []) C Z (c_X0_bestWay l hr47) mf_X0_bestWay (ml_nest C nw_62) rfl (oC_53 g _) rfl ⟨rfl, rfl, by decide, by decide⟩ rfl hl.1 (Nat.le_of_ble_eq_true rfl) dX7_falses_47 (fun H locs Z => ?_)
    have hf := Option.some.inj hf
    subst hf
    exact ret_i C Z dX7_falses_50
  rw [if_neg hs1_1] at hf
  refine lv_lookup (tgt := 51) (off := 50) hx hb dX7_falses_1 (by decide) (by show Op.lookupswitch.offset [(0, 27), (1, 42)] 50 _ = _; rw [lv_osw hs1_0 (by decide), lv_osw hs1_1 (by decide)]; rfl) (by decide) ?_
  refine lv_iconst (v := (-1)) hx hb dX7_falses_51 (by decide +kernel) ?_
  have hf := Option.some.inj hf
  subst hf
  exact ret_i C Z dX7_falses_52
def L_X8_falses_15 (k : Int32 → Int32 → Option (Int32)) (u : St) : Nat → Int32 → Int32 → Option (Int32)
  | 0, _, _ => none
  | n + 1, x2, x3 =>
    if 168 ≤ x3 then
      k x2 x3
    else
      Option.bind (f_X8_wrong u x3) fun r24 =>
      Option.bind (f_X8_wrong u x2) fun r29 =>
      if r29 ≤ r24 then
        L_X8_falses_15 k u n x2 (x3 + 1)
      else
        L_X8_falses_15 k u n x3 (x3 + 1)
set_option maxHeartbeats 4000000 in
set_option maxRecDepth 100000 in
theorem b_X8_falses_15 {p : Program} {l : Launch} {e : Env} {s : State} {m : MethodId} {args : Array Value} {below : List Frame} {meth : Method} {c : Code} {g : Gx} {u : St} {x1 : Int32} {res : Int32} {k : Int32 → Int32 → Option (Int32)} (C : Cx p s m meth c args cX8_falses RX8 4 (some .int) 22 g)
    (hk : ∀ (x2 x3 : Int32) (H : Heap) (locs : List Loc) (ls : Array Slot), Zx wM g (Aw 22 g s.heap.size) s H locs u → lv_has ls 4 [(0, .ref (g.2.2 0)), (1, .int x1), (2, .int x2)] → k x2 x3 = some res → W p l e (rmX 1 23) s m args below meth c H locs 0 0 (QI wM 22 g res u below args s) (F0 m 47 ls [])) :
    ∀ (n : Nat) (x2 x3 : Int32) (H : Heap) (locs : List Loc) (ls : Array Slot), Zx wM g (Aw 22 g s.heap.size) s H locs u → lv_has ls 4 [(0, .ref (g.2.2 0)), (1, .int x1), (2, .int x2), (3, .int x3)] → L_X8_falses_15 k u n x2 x3 = some res → W p l e (rmX 1 23) s m args below meth c H locs 0 0 (QI wM 22 g res u below args s) (F0 m 15 ls []) := by
  have hx := C.1
  have hb := C.2.1
  intro n
  induction n with
  | zero =>
    intro x2 x3 H locs ls Z hl hf
    rw [L_X8_falses_15.eq_1] at hf
    cases hf
  | succ n ih =>
    intro x2 x3 H locs ls Z hl hf
    rw [L_X8_falses_15.eq_2] at hf
    refine lv_iload_n hx hb dX8_falses_15 rfl (lv_at hl 3 rfl) ?_
    refine lv_sipush (v := 168) hx hb dX8_falses_16 (by decide +kernel) ?_
    refine lv_icmp_ge (tgt := 47) hx hb dX8_falses_19 (by decide) (fun hc19 => ?_) (fun hc19 => ?_)
    · rw [if_pos hc19] at hf
      exact hk _ _ H locs ls Z (lv_sub hl [0, 1, 2] rfl) hf
    · rw [if_neg hc19] at hf
      refine lv_aload_n hx hb dX8_falses_22 rfl (lv_at hl 0 rfl) ?_
      refine lv_iload_n hx hb dX8_falses_23 rfl (lv_at hl 3 rfl) ?_
      obtain ⟨r24, hr24, hf⟩ := Option.bind_eq_some_iff.mp hf
      refine call_vi (As := [.int x3]) (rest := []) C Z (c_X8_wrong l hr24) mf_X8_wrong (ml_of C mw_1167) rfl (oM_0 g _) rfl ⟨rfl, rfl, by decide, by decide⟩ rfl hl.1 (Nat.le_of_ble_eq_true rfl) dX8_falses_24 (fun H locs Z => ?_)
      refine lv_aload_n hx hb dX8_falses_27 rfl (lv_at hl 0 rfl) ?_
      refine lv_iload_n hx hb dX8_falses_28 rfl (lv_at hl 2 rfl) ?_
      obtain ⟨r29, hr29, hf⟩ := Option.bind_eq_some_iff.mp hf
      refine call_vi (As := [.int x2]) (rest := [.int r24]) C Z (c_X8_wrong l hr29) mf_X8_wrong (ml_of C mw_1167) rfl (oM_0 g _) rfl ⟨rfl, rfl, by decide, by decide⟩ rfl hl.1 (Nat.le_of_ble_eq_true rfl) dX8_falses_29 (fun H locs Z => ?_)
      refine lv_icmp_ge (tgt := 39) hx hb dX8_falses_32 (by decide) (fun hc32 => ?_) (fun hc32 => ?_)
      · rw [if_pos hc32] at hf
        refine lv_iload_n hx hb dX8_falses_39 rfl (lv_at hl 2 rfl) ?_
        refine lv_istore_n (lv' := [(2, .int x2), (0, .ref (g.2.2 0)), (1, .int x1), (3, .int x3)]) hx hb dX8_falses_40 rfl hl (by decide) rfl (fun ls hl => ?_)
        refine lv_iinc (v := (x3 + 1)) (lv' := [(3, .int (x3 + 1)), (2, .int x2), (0, .ref (g.2.2 0)), (1, .int x1)]) hx hb dX8_falses_41 hl (k := 3) rfl rfl (by decide) rfl (fun ls hl => ?_)
        refine lv_goto (tgt := 15) hx hb dX8_falses_44 (by decide) ?_
        exact ih _ _ _ _ _ Z (lv_sub hl [2, 3, 1, 0] rfl) hf
      · rw [if_neg hc32] at hf
        refine lv_iload_n hx hb dX8_falses_35 rfl (lv_at hl 3 rfl) ?_
        refine lv_goto (tgt := 40) hx hb dX8_falses_36 (by decide) ?_
        refine lv_istore_n (lv' := [(2, .int x3), (0, .ref (g.2.2 0)), (1, .int x1), (3, .int x3)]) hx hb dX8_falses_40 rfl hl (by decide) rfl (fun ls hl => ?_)
        refine lv_iinc (v := (x3 + 1)) (lv' := [(3, .int (x3 + 1)), (2, .int x3), (0, .ref (g.2.2 0)), (1, .int x1)]) hx hb dX8_falses_41 hl (k := 3) rfl rfl (by decide) rfl (fun ls hl => ?_)
        refine lv_goto (tgt := 15) hx hb dX8_falses_44 (by decide) ?_
        exact ih _ _ _ _ _ Z (lv_sub hl [2, 3, 1, 0] rfl) hf
def f_X8_falses (u : St) (x1 : Int32) : Option (Int32) :=
  Option.bind (f_X8_in x1 0 1) fun r3 =>
  if r3 = 0 then
    some (-1)
  else
    L_X8_falses_15 (fun x2 x3 =>
      if x1 = 0 then
        Option.bind (f_X8_wrong u x2) fun r53 =>
        some r53
      else
        Option.bind (f_X8_told x2) fun r60 =>
        some r60) u FU 0 1
set_option maxHeartbeats 4000000 in
set_option maxRecDepth 100000 in
theorem c_X8_falses (l : Launch) {g : Gx} {u : St} {x1 : Int32} {res : Int32} (hf : f_X8_falses u x1 = some res) : CI wM 22 l yX8_falses (wsY yX8_falses cX8_falses 4 (some .int)) (rmX 1 23) g [.ref (g.2.2 0), .int x1] u res u := by
  refine CI_start (by decide +kernel) rfl (Nat.le_of_ble_eq_true rfl) (fun {p e s m args below meth c ls} C Z hl => ?_)
  have hl : lv_has ls 4 [(0, .ref (g.2.2 0)), (1, .int x1)] := hl
  have hx := C.1
  have hb := C.2.1
  unfold f_X8_falses at hf
  refine lv_iload_n hx hb dX8_falses_0 rfl (lv_at hl 1 rfl) ?_
  refine lv_iconst (v := 0) hx hb dX8_falses_1 (by decide +kernel) ?_
  refine lv_iconst (v := 1) hx hb dX8_falses_2 (by decide +kernel) ?_
  obtain ⟨r3, hr3, hf⟩ := Option.bind_eq_some_iff.mp hf
  refine call_si (As := [.int x1, .int 0, .int 1]) (rest := []) C Z (c_X8_in l hr3) mf_X8_in (ml_of C mw_934) rfl ⟨rfl, rfl, by decide, by decide⟩ rfl hl.1 (Nat.le_of_ble_eq_true rfl) dX8_falses_3 (fun H locs Z => ?_)
  refine lv_if_ne (tgt := 11) hx hb dX8_falses_6 (by decide) (fun hc6 => ?_) (fun hc6 => ?_)
  · rw [if_neg hc6] at hf
    refine lv_iconst (v := 0) hx hb dX8_falses_11 (by decide +kernel) ?_
    refine lv_istore_n (lv' := [(2, .int 0), (0, .ref (g.2.2 0)), (1, .int x1)]) hx hb dX8_falses_12 rfl hl (by decide) rfl (fun ls hl => ?_)
    refine lv_iconst (v := 1) hx hb dX8_falses_13 (by decide +kernel) ?_
    refine lv_istore_n (lv' := [(3, .int 1), (2, .int 0), (0, .ref (g.2.2 0)), (1, .int x1)]) hx hb dX8_falses_14 rfl hl (by decide) rfl (fun ls hl => ?_)
    refine b_X8_falses_15 C (fun x2 x3 H locs ls Z hl hf => ?_) FU _ _ _ _ _ Z (lv_sub hl [2, 3, 1, 0] rfl) hf
    refine lv_iload_n hx hb dX8_falses_47 rfl (lv_at hl 1 rfl) ?_
    refine lv_if_ne (tgt := 59) hx hb dX8_falses_48 (by decide) (fun hc48 => ?_) (fun hc48 => ?_)
    · rw [if_neg hc48] at hf
      refine lv_iload_n hx hb dX8_falses_59 rfl (lv_at hl 2 rfl) ?_
      obtain ⟨r60, hr60, hf⟩ := Option.bind_eq_some_iff.mp hf
      refine call_si (As := [.int x2]) (rest := []) C Z (c_X8_told l hr60) mf_X8_told (ml_of C mw_1171) rfl ⟨rfl, rfl, by decide, by decide⟩ rfl hl.1 (Nat.le_of_ble_eq_true rfl) dX8_falses_60 (fun H locs Z => ?_)
      have hf := Option.some.inj hf
      subst hf
      exact ret_i C Z dX8_falses_63
    · rw [if_pos hc48] at hf
      refine lv_aload_n hx hb dX8_falses_51 rfl (lv_at hl 0 rfl) ?_
      refine lv_iload_n hx hb dX8_falses_52 rfl (lv_at hl 2 rfl) ?_
      obtain ⟨r53, hr53, hf⟩ := Option.bind_eq_some_iff.mp hf
      refine call_vi (As := [.int x2]) (rest := []) C Z (c_X8_wrong l hr53) mf_X8_wrong (ml_of C mw_1167) rfl (oM_0 g _) rfl ⟨rfl, rfl, by decide, by decide⟩ rfl hl.1 (Nat.le_of_ble_eq_true rfl) dX8_falses_53 (fun H locs Z => ?_)
      refine lv_goto (tgt := 63) hx hb dX8_falses_56 (by decide) ?_
      have hf := Option.some.inj hf
      subst hf
      exact ret_i C Z dX8_falses_63
  · rw [if_pos hc6] at hf
    refine lv_iconst (v := (-1)) hx hb dX8_falses_9 (by decide +kernel) ?_
    have hf := Option.some.inj hf
    subst hf
    exact ret_i C Z dX8_falses_10
