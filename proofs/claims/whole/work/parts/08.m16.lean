def f_X8_sees (u : St) (x1 x2 x3 : Int32) : Option (Int32) :=
  if oob x1 5 then none else
  Option.bind (f_X8_sideBy ((u.2.1 2) (Int32.toNatClampNeg x1)) ((u.2.1 3) (Int32.toNatClampNeg x1)) x3) fun r13 =>
  if x2 = ((u.2.1 0) (Int32.toNatClampNeg x1)) then
    some 0
  else
    if r13 = 1 then
      if x2 ≤ ((u.2.1 0) (Int32.toNatClampNeg x1)) then
        some 0
      else
        Option.bind (f_X8_isClear u x1 x2) fun r60 =>
        if r60 = 0 then
          some 0
        else
          some 1
    else
      if x2 ≤ ((u.2.1 0) (Int32.toNatClampNeg x1)) then
        Option.bind (f_X8_isClear u x1 x2) fun r60 =>
        if r60 = 0 then
          some 0
        else
          some 1
      else
        some 0
set_option maxHeartbeats 4000000 in
set_option maxRecDepth 100000 in
theorem c_X8_sees (l : Launch) {g : Gx} {u : St} {x1 x2 x3 : Int32} {res : Int32} (hf : f_X8_sees u x1 x2 x3 = some res) : CI wM 22 l yX8_sees (wsY yX8_sees cX8_sees 5 (some .boolean)) (rmX 2 48) g [.ref (g.2.2 0), .int x1, .int x2, .int x3] u res u := by
  refine CI_start (by decide +kernel) rfl (Nat.le_of_ble_eq_true rfl) (fun {p e s m args below meth c ls} C Z hl => ?_)
  have hl : lv_has ls 5 [(0, .ref (g.2.2 0)), (1, .int x1), (2, .int x2), (3, .int x3)] := hl
  have hx := C.1
  have hb := C.2.1
  unfold f_X8_sees at hf
  refine lv_aload_n hx hb dX8_sees_0 rfl (lv_at hl 0 rfl) ?_
  refine gM_0_3 C Z (fl_of C mw_826) dX8_sees_1 ?_
  refine lv_iload_n hx hb dX8_sees_4 rfl (lv_at hl 1 rfl) ?_
  by_cases ho5 : oob x1 5 = true
  · rw [if_pos ho5] at hf; cases hf
  rw [if_neg ho5] at hf
  refine r_ald C Z (aM_3 g _ (f := (u.2.1 2)) rfl) ho5 rfl dX8_sees_5 (x := ((u.2.1 2) (Int32.toNatClampNeg x1))) rfl ?_
  refine lv_aload_n hx hb dX8_sees_6 rfl (lv_at hl 0 rfl) ?_
  refine gM_0_4 C Z (fl_of C mw_827) dX8_sees_7 ?_
  refine lv_iload_n hx hb dX8_sees_10 rfl (lv_at hl 1 rfl) ?_
  refine r_ald C Z (aM_4 g _ (f := (u.2.1 3)) rfl) ho5 rfl dX8_sees_11 (x := ((u.2.1 3) (Int32.toNatClampNeg x1))) rfl ?_
  refine lv_iload_n hx hb dX8_sees_12 rfl (lv_at hl 3 rfl) ?_
  obtain ⟨r13, hr13, hf⟩ := Option.bind_eq_some_iff.mp hf
  refine call_si (As := [.int ((u.2.1 2) (Int32.toNatClampNeg x1)), .int ((u.2.1 3) (Int32.toNatClampNeg x1)), .int x3]) (rest := []) C Z (c_X8_sideBy l hr13) mf_X8_sideBy (ml_of C mw_1020) rfl ⟨rfl, rfl, by decide, by decide⟩ rfl hl.1 (Nat.le_of_ble_eq_true rfl) dX8_sees_13 (fun H locs Z => ?_)
  refine lv_istore (lv' := [(4, .int r13), (0, .ref (g.2.2 0)), (1, .int x1), (2, .int x2), (3, .int x3)]) hx hb dX8_sees_16 hl (by decide) rfl (fun ls hl => ?_)
  refine lv_iload_n hx hb dX8_sees_18 rfl (lv_at hl 3 rfl) ?_
  refine lv_aload_n hx hb dX8_sees_19 rfl (lv_at hl 1 rfl) ?_
  refine gM_0_1 C Z (fl_of C mw_824) dX8_sees_20 ?_
  refine lv_iload_n hx hb dX8_sees_23 rfl (lv_at hl 2 rfl) ?_
  refine r_ald C Z (aM_1 g _ (f := (u.2.1 0)) rfl) ho5 rfl dX8_sees_24 (x := ((u.2.1 0) (Int32.toNatClampNeg x1))) rfl ?_
  refine lv_icmp_eq (tgt := 70) hx hb dX8_sees_25 (by decide) (fun hc25 => ?_) (fun hc25 => ?_)
  · rw [if_pos hc25] at hf
    refine lv_iconst (v := 0) hx hb dX8_sees_70 (by decide +kernel) ?_
    have hf := Option.some.inj hf
    subst hf
    exact ret_z C Z rfl dX8_sees_71
  · rw [if_neg hc25] at hf
    refine lv_iload hx hb dX8_sees_28 (lv_at hl 0 rfl) ?_
    refine lv_iconst (v := 1) hx hb dX8_sees_30 (by decide +kernel) ?_
    refine lv_icmp_ne (tgt := 38) hx hb dX8_sees_31 (by decide) (fun hc31 => ?_) (fun hc31 => ?_)
    · rw [if_neg hc31] at hf
      refine lv_iconst (v := 0) hx hb dX8_sees_38 (by decide +kernel) ?_
      refine lv_iload_n hx hb dX8_sees_39 rfl (lv_at hl 3 rfl) ?_
      refine lv_aload_n hx hb dX8_sees_40 rfl (lv_at hl 1 rfl) ?_
      refine gM_0_1 C Z (fl_of C mw_824) dX8_sees_41 ?_
      refine lv_iload_n hx hb dX8_sees_44 rfl (lv_at hl 2 rfl) ?_
      refine r_ald C Z (aM_1 g _ (f := (u.2.1 0)) rfl) ho5 rfl dX8_sees_45 (x := ((u.2.1 0) (Int32.toNatClampNeg x1))) rfl ?_
      refine lv_icmp_le (tgt := 53) hx hb dX8_sees_46 (by decide) (fun hc46 => ?_) (fun hc46 => ?_)
      · rw [if_pos hc46] at hf
        refine lv_iconst (v := 0) hx hb dX8_sees_53 (by decide +kernel) ?_
        refine lv_icmp_ne (tgt := 70) hx hb dX8_sees_54 (by decide) (fun hq => absurd hq (by decide)) (fun _ => ?_)
        refine lv_aload_n hx hb dX8_sees_57 rfl (lv_at hl 1 rfl) ?_
        refine lv_iload_n hx hb dX8_sees_58 rfl (lv_at hl 2 rfl) ?_
        refine lv_iload_n hx hb dX8_sees_59 rfl (lv_at hl 3 rfl) ?_
        obtain ⟨r60, hr60, hf⟩ := Option.bind_eq_some_iff.mp hf
        refine call_vi (As := [.int x1, .int x2]) (rest := []) C Z (c_X8_isClear l hr60) mf_X8_isClear (ml_of C mw_1078) rfl (oM_0 g _) rfl ⟨rfl, rfl, by decide, by decide⟩ rfl hl.1 (Nat.le_of_ble_eq_true rfl) dX8_sees_60 (fun H locs Z => ?_)
        refine lv_if_eq (tgt := 70) hx hb dX8_sees_63 (by decide) (fun hc63 => ?_) (fun hc63 => ?_)
        · rw [if_pos hc63] at hf
          refine lv_iconst (v := 0) hx hb dX8_sees_70 (by decide +kernel) ?_
          have hf := Option.some.inj hf
          subst hf
          exact ret_z C Z rfl dX8_sees_71
        · rw [if_neg hc63] at hf
          refine lv_iconst (v := 1) hx hb dX8_sees_66 (by decide +kernel) ?_
          refine lv_goto (tgt := 71) hx hb dX8_sees_67 (by decide) ?_
          have hf := Option.some.inj hf
          subst hf
          exact ret_z C Z rfl dX8_sees_71
      · rw [if_neg hc46] at hf
        refine lv_iconst (v := 1) hx hb dX8_sees_49 (by decide +kernel) ?_
        refine lv_goto (tgt := 54) hx hb dX8_sees_50 (by decide) ?_
        refine lv_icmp_ne (tgt := 70) hx hb dX8_sees_54 (by decide) (fun _ => ?_) (fun hq => absurd hq (by decide))
        refine lv_iconst (v := 0) hx hb dX8_sees_70 (by decide +kernel) ?_
        have hf := Option.some.inj hf
        subst hf
        exact ret_z C Z rfl dX8_sees_71
    · rw [if_pos hc31] at hf
      refine lv_iconst (v := 1) hx hb dX8_sees_34 (by decide +kernel) ?_
      refine lv_goto (tgt := 39) hx hb dX8_sees_35 (by decide) ?_
      refine lv_iload_n hx hb dX8_sees_39 rfl (lv_at hl 3 rfl) ?_
      refine lv_aload_n hx hb dX8_sees_40 rfl (lv_at hl 1 rfl) ?_
      refine gM_0_1 C Z (fl_of C mw_824) dX8_sees_41 ?_
      refine lv_iload_n hx hb dX8_sees_44 rfl (lv_at hl 2 rfl) ?_
      refine r_ald C Z (aM_1 g _ (f := (u.2.1 0)) rfl) ho5 rfl dX8_sees_45 (x := ((u.2.1 0) (Int32.toNatClampNeg x1))) rfl ?_
      refine lv_icmp_le (tgt := 53) hx hb dX8_sees_46 (by decide) (fun hc46 => ?_) (fun hc46 => ?_)
      · rw [if_pos hc46] at hf
        refine lv_iconst (v := 0) hx hb dX8_sees_53 (by decide +kernel) ?_
        refine lv_icmp_ne (tgt := 70) hx hb dX8_sees_54 (by decide) (fun _ => ?_) (fun hq => absurd hq (by decide))
        refine lv_iconst (v := 0) hx hb dX8_sees_70 (by decide +kernel) ?_
        have hf := Option.some.inj hf
        subst hf
        exact ret_z C Z rfl dX8_sees_71
      · rw [if_neg hc46] at hf
        refine lv_iconst (v := 1) hx hb dX8_sees_49 (by decide +kernel) ?_
        refine lv_goto (tgt := 54) hx hb dX8_sees_50 (by decide) ?_
        refine lv_icmp_ne (tgt := 70) hx hb dX8_sees_54 (by decide) (fun hq => absurd hq (by decide)) (fun _ => ?_)
        refine lv_aload_n hx hb dX8_sees_57 rfl (lv_at hl 1 rfl) ?_
        refine lv_iload_n hx hb dX8_sees_58 rfl (lv_at hl 2 rfl) ?_
        refine lv_iload_n hx hb dX8_sees_59 rfl (lv_at hl 3 rfl) ?_
        obtain ⟨r60, hr60, hf⟩ := Option.bind_eq_some_iff.mp hf
        refine call_vi (As := [.int x1, .int x2]) (rest := []) C Z (c_X8_isClear l hr60) mf_X8_isClear (ml_of C mw_1078) rfl (oM_0 g _) rfl ⟨rfl, rfl, by decide, by decide⟩ rfl hl.1 (Nat.le_of_ble_eq_true rfl) dX8_sees_60 (fun H locs Z => ?_)
        refine lv_if_eq (tgt := 70) hx hb dX8_sees_63 (by decide) (fun hc63 => ?_) (fun hc63 => ?_)
        · rw [if_pos hc63] at hf
          refine lv_iconst (v := 0) hx hb dX8_sees_70 (by decide +kernel) ?_
          have hf := Option.some.inj hf
          subst hf
          exact ret_z C Z rfl dX8_sees_71
        · rw [if_neg hc63] at hf
          refine lv_iconst (v := 1) hx hb dX8_sees_66 (by decide +kernel) ?_
          refine lv_goto (tgt := 71) hx hb dX8_sees_67 (by decide) ?_
          have hf := Option.some.inj hf
          subst hf
          exact ret_z C Z rfl dX8_sees_71
def L_X8_isSmoke_5 (k : Int32 → Int32 → Option (Int32)) (u : St) (x1 x2 : Int32) : Nat → Int32 → Int32 → Option (Int32)
  | 0, _, _ => none
  | n + 1, x3, x4 =>
    if (u.1 2) ≤ x4 then
      k x3 x4
    else
      if x3 = 0 then
        if oob (3 * x4) 12 then none else
        if ((u.2.1 6) (Int32.toNatClampNeg (3 * x4))) = x1 then
          if oob ((3 * x4) + 1) 12 then none else
          if oob ((3 * x4) + 2) 12 then none else
          Option.bind (f_X8_in x2 ((u.2.1 6) (Int32.toNatClampNeg ((3 * x4) + 1))) ((u.2.1 6) (Int32.toNatClampNeg ((3 * x4) + 2)))) fun r54 =>
          if r54 = 0 then
            L_X8_isSmoke_5 k u x1 x2 n 0 (x4 + 1)
          else
            L_X8_isSmoke_5 k u x1 x2 n 1 (x4 + 1)
        else
          L_X8_isSmoke_5 k u x1 x2 n 0 (x4 + 1)
      else
        L_X8_isSmoke_5 k u x1 x2 n 1 (x4 + 1)
set_option maxHeartbeats 4000000 in
set_option maxRecDepth 100000 in
theorem b_X8_isSmoke_5 {p : Program} {l : Launch} {e : Env} {s : State} {m : MethodId} {args : Array Value} {below : List Frame} {meth : Method} {c : Code} {g : Gx} {u : St} {x1 x2 : Int32} {res : Int32} {k : Int32 → Int32 → Option (Int32)} (C : Cx p s m meth c args cX8_isSmoke RX8 5 (some .boolean) 22 g)
    (hk : ∀ (x3 x4 : Int32) (H : Heap) (locs : List Loc) (ls : Array Slot), Zx wM g (Aw 22 g s.heap.size) s H locs u → lv_has ls 5 [(3, .int x3)] → k x3 x4 = some res → W p l e (rmX 1 22) s m args below meth c H locs 0 0 (QI wM 22 g res u below args s) (F0 m 72 ls [])) :
    ∀ (n : Nat) (x3 x4 : Int32) (H : Heap) (locs : List Loc) (ls : Array Slot), Zx wM g (Aw 22 g s.heap.size) s H locs u → lv_has ls 5 [(0, .ref (g.2.2 0)), (1, .int x1), (2, .int x2), (3, .int x3), (4, .int x4)] → L_X8_isSmoke_5 k u x1 x2 n x3 x4 = some res → W p l e (rmX 1 22) s m args below meth c H locs 0 0 (QI wM 22 g res u below args s) (F0 m 5 ls []) := by
  have hx := C.1
  have hb := C.2.1
  intro n
  induction n with
  | zero =>
    intro x3 x4 H locs ls Z hl hf
    rw [L_X8_isSmoke_5.eq_1] at hf
    cases hf
  | succ n ih =>
    intro x3 x4 H locs ls Z hl hf
    rw [L_X8_isSmoke_5.eq_2] at hf
    refine lv_iload hx hb dX8_isSmoke_5 (lv_at hl 4 rfl) ?_
    refine lv_aload_n hx hb dX8_isSmoke_7 rfl (lv_at hl 0 rfl) ?_
    refine gM_0_8 C Z (fl_of C mw_831) dX8_isSmoke_8 (x := (u.1 2)) rfl ?_
    refine lv_icmp_ge (tgt := 72) hx hb dX8_isSmoke_11 (by decide) (fun hc11 => ?_) (fun hc11 => ?_)
    · rw [if_pos hc11] at hf
      exact hk _ _ H locs ls Z (lv_sub hl [3] rfl) hf
    · rw [if_neg hc11] at hf
      refine lv_iload_n hx hb dX8_isSmoke_14 rfl (lv_at hl 3 rfl) ?_
      refine lv_if_ne (tgt := 60) hx hb dX8_isSmoke_15 (by decide) (fun hc15 => ?_) (fun hc15 => ?_)
      · rw [if_neg hc15] at hf
        refine lv_iconst (v := 1) hx hb dX8_isSmoke_60 (by decide +kernel) ?_
        refine lv_goto (tgt := 65) hx hb dX8_isSmoke_61 (by decide) ?_
        refine lv_istore_n (lv' := [(3, .int 1), (0, .ref (g.2.2 0)), (1, .int x1), (2, .int x2), (4, .int x4)]) hx hb dX8_isSmoke_65 rfl hl (by decide) rfl (fun ls hl => ?_)
        refine lv_iinc (v := (x4 + 1)) (lv' := [(4, .int (x4 + 1)), (3, .int 1), (0, .ref (g.2.2 0)), (1, .int x1), (2, .int x2)]) hx hb dX8_isSmoke_66 hl (k := 4) rfl rfl (by decide) rfl (fun ls hl => ?_)
        refine lv_goto (tgt := 5) hx hb dX8_isSmoke_69 (by decide) ?_
        exact ih _ _ _ _ _ Z (lv_sub hl [2, 3, 4, 1, 0] rfl) hf
      · rw [if_pos hc15] at hf
        refine lv_aload_n hx hb dX8_isSmoke_18 rfl (lv_at hl 0 rfl) ?_
        refine gM_0_9 C Z (fl_of C mw_832) dX8_isSmoke_19 ?_
        refine lv_iconst (v := 3) hx hb dX8_isSmoke_22 (by decide +kernel) ?_
        refine lv_iload hx hb dX8_isSmoke_23 (lv_at hl 4 rfl) ?_
        refine lv_imul hx hb dX8_isSmoke_25 ?_
        by_cases ho26 : oob (3 * x4) 12 = true
        · rw [if_pos ho26] at hf; cases hf
        rw [if_neg ho26] at hf
        refine r_ald C Z (aM_7 g _ (f := (u.2.1 6)) rfl) ho26 rfl dX8_isSmoke_26 (x := ((u.2.1 6) (Int32.toNatClampNeg (3 * x4)))) rfl ?_
        refine lv_iload_n hx hb dX8_isSmoke_27 rfl (lv_at hl 1 rfl) ?_
        refine lv_icmp_ne (tgt := 64) hx hb dX8_isSmoke_28 (by decide) (fun hc28 => ?_) (fun hc28 => ?_)
        · rw [if_neg hc28] at hf
          refine lv_iconst (v := 0) hx hb dX8_isSmoke_64 (by decide +kernel) ?_
          refine lv_istore_n (lv' := [(3, .int 0), (0, .ref (g.2.2 0)), (1, .int x1), (2, .int x2), (4, .int x4)]) hx hb dX8_isSmoke_65 rfl hl (by decide) rfl (fun ls hl => ?_)
          refine lv_iinc (v := (x4 + 1)) (lv' := [(4, .int (x4 + 1)), (3, .int 0), (0, .ref (g.2.2 0)), (1, .int x1), (2, .int x2)]) hx hb dX8_isSmoke_66 hl (k := 4) rfl rfl (by decide) rfl (fun ls hl => ?_)
          refine lv_goto (tgt := 5) hx hb dX8_isSmoke_69 (by decide) ?_
          exact ih _ _ _ _ _ Z (lv_sub hl [2, 3, 4, 1, 0] rfl) hf
        · rw [if_pos hc28] at hf
          refine lv_iload_n hx hb dX8_isSmoke_31 rfl (lv_at hl 2 rfl) ?_
          refine lv_aload_n hx hb dX8_isSmoke_32 rfl (lv_at hl 0 rfl) ?_
          refine gM_0_9 C Z (fl_of C mw_832) dX8_isSmoke_33 ?_
          refine lv_iconst (v := 3) hx hb dX8_isSmoke_36 (by decide +kernel) ?_
          refine lv_iload hx hb dX8_isSmoke_37 (lv_at hl 4 rfl) ?_
          refine lv_imul hx hb dX8_isSmoke_39 ?_
          refine lv_iconst (v := 1) hx hb dX8_isSmoke_40 (by decide +kernel) ?_
          refine lv_iadd hx hb dX8_isSmoke_41 ?_
          by_cases ho42 : oob ((3 * x4) + 1) 12 = true
          · rw [if_pos ho42] at hf; cases hf
          rw [if_neg ho42] at hf
          refine r_ald C Z (aM_7 g _ (f := (u.2.1 6)) rfl) ho42 rfl dX8_isSmoke_42 (x := ((u.2.1 6) (Int32.toNatClampNeg ((3 * x4) + 1)))) rfl ?_
          refine lv_aload_n hx hb dX8_isSmoke_43 rfl (lv_at hl 0 rfl) ?_
          refine gM_0_9 C Z (fl_of C mw_832) dX8_isSmoke_44 ?_
          refine lv_iconst (v := 3) hx hb dX8_isSmoke_47 (by decide +kernel) ?_
          refine lv_iload hx hb dX8_isSmoke_48 (lv_at hl 4 rfl) ?_
          refine lv_imul hx hb dX8_isSmoke_50 ?_
          refine lv_iconst (v := 2) hx hb dX8_isSmoke_51 (by decide +kernel) ?_
          refine lv_iadd hx hb dX8_isSmoke_52 ?_
          by_cases ho53 : oob ((3 * x4) + 2) 12 = true
          · rw [if_pos ho53] at hf; cases hf
          rw [if_neg ho53] at hf
          refine r_ald C Z (aM_7 g _ (f := (u.2.1 6)) rfl) ho53 rfl dX8_isSmoke_53 (x := ((u.2.1 6) (Int32.toNatClampNeg ((3 * x4) + 2)))) rfl ?_
          obtain ⟨r54, hr54, hf⟩ := Option.bind_eq_some_iff.mp hf
          refine call_si (As := [.int x2, .int ((u.2.1 6) (Int32.toNatClampNeg ((3 * x4) + 1))), .int ((u.2.1 6) (Int32.toNatClampNeg ((3 * x4) + 2)))]) (rest := []) C Z (c_X8_in l hr54) mf_X8_in (ml_of C mw_940) rfl ⟨rfl, rfl, by decide, by decide⟩ rfl hl.1 (Nat.le_of_ble_eq_true rfl) dX8_isSmoke_54 (fun H locs Z => ?_)
          refine lv_if_eq (tgt := 64) hx hb dX8_isSmoke_57 (by decide) (fun hc57 => ?_) (fun hc57 => ?_)
          · rw [if_pos hc57] at hf
            refine lv_iconst (v := 0) hx hb dX8_isSmoke_64 (by decide +kernel) ?_
            refine lv_istore_n (lv' := [(3, .int 0), (0, .ref (g.2.2 0)), (1, .int x1), (2, .int x2), (4, .int x4)]) hx hb dX8_isSmoke_65 rfl hl (by decide) rfl (fun ls hl => ?_)
            refine lv_iinc (v := (x4 + 1)) (lv' := [(4, .int (x4 + 1)), (3, .int 0), (0, .ref (g.2.2 0)), (1, .int x1), (2, .int x2)]) hx hb dX8_isSmoke_66 hl (k := 4) rfl rfl (by decide) rfl (fun ls hl => ?_)
            refine lv_goto (tgt := 5) hx hb dX8_isSmoke_69 (by decide) ?_
            exact ih _ _ _ _ _ Z (lv_sub hl [2, 3, 4, 1, 0] rfl) hf
          · rw [if_neg hc57] at hf
            refine lv_iconst (v := 1) hx hb dX8_isSmoke_60 (by decide +kernel) ?_
            refine lv_goto (tgt := 65) hx hb dX8_isSmoke_61 (by decide) ?_
            refine lv_istore_n (lv' := [(3, .int 1), (0, .ref (g.2.2 0)), (1, .int x1), (2, .int x2), (4, .int x4)]) hx hb dX8_isSmoke_65 rfl hl (by decide) rfl (fun ls hl => ?_)
            refine lv_iinc (v := (x4 + 1)) (lv' := [(4, .int (x4 + 1)), (3, .int 1), (0, .ref (g.2.2 0)), (1, .int x1), (2, .int x2)]) hx hb dX8_isSmoke_66 hl (k := 4) rfl rfl (by decide) rfl (fun ls hl => ?_)
            refine lv_goto (tgt := 5) hx hb dX8_isSmoke_69 (by decide) ?_
            exact ih _ _ _ _ _ Z (lv_sub hl [2, 3, 4, 1, 0] rfl) hf
def f_X8_isSmoke (u : St) (x1 x2 : Int32) : Option (Int32) :=
  L_X8_isSmoke_5 (fun x3 x4 =>
    if nb x3 then some x3 else none) u x1 x2 FU 0 0
set_option maxHeartbeats 4000000 in
set_option maxRecDepth 100000 in
theorem c_X8_isSmoke (l : Launch) {g : Gx} {u : St} {x1 x2 : Int32} {res : Int32} (hf : f_X8_isSmoke u x1 x2 = some res) : CI wM 22 l yX8_isSmoke (wsY yX8_isSmoke cX8_isSmoke 5 (some .boolean)) (rmX 1 22) g [.ref (g.2.2 0), .int x1, .int x2] u res u := by
  refine CI_start (by decide +kernel) rfl (Nat.le_of_ble_eq_true rfl) (fun {p e s m args below meth c ls} C Z hl => ?_)
  have hl : lv_has ls 5 [(0, .ref (g.2.2 0)), (1, .int x1), (2, .int x2)] := hl
  have hx := C.1
  have hb := C.2.1
  unfold f_X8_isSmoke at hf
  refine lv_iconst (v := 0) hx hb dX8_isSmoke_0 (by decide +kernel) ?_
  refine lv_istore_n (lv' := [(3, .int 0), (0, .ref (g.2.2 0)), (1, .int x1), (2, .int x2)]) hx hb dX8_isSmoke_1 rfl hl (by decide) rfl (fun ls hl => ?_)
  refine lv_iconst (v := 0) hx hb dX8_isSmoke_2 (by decide +kernel) ?_
  refine lv_istore (lv' := [(4, .int 0), (3, .int 0), (0, .ref (g.2.2 0)), (1, .int x1), (2, .int x2)]) hx hb dX8_isSmoke_3 hl (by decide) rfl (fun ls hl => ?_)
  refine b_X8_isSmoke_5 C (fun x3 x4 H locs ls Z hl hf => ?_) FU _ _ _ _ _ Z (lv_sub hl [2, 3, 4, 1, 0] rfl) hf
  refine lv_iload_n hx hb dX8_isSmoke_72 rfl (lv_at hl 0 rfl) ?_
  by_cases hn73 : nb x3 = true
  · rw [if_pos hn73] at hf
    have hf := Option.some.inj hf
    subst hf
    exact ret_z C Z hn73 dX8_isSmoke_73
  · rw [if_neg hn73] at hf
    cases hf
def L_X8_hourGoes_19 (k : Int32 → St → Option (St)) (x1 x2 : Int32) : Nat → Int32 → St → Option (St)
  | 0, _, _ => none
  | n + 1, x3, u =>
    if (u.1 1) ≤ x3 then
      k x3 u
    else
      Option.bind (f_X8_walks u x3 x1) fun r30 =>
      if r30 = (-9) then
        if oob ((25 + (4 * x2)) + x3) 507 then none else
        L_X8_hourGoes_19 k x1 x2 n (x3 + 1) (sA u 7 (upd (u.2.1 7) (Int32.toNatClampNeg ((25 + (4 * x2)) + x3)) (((u.2.1 7) (Int32.toNatClampNeg ((25 + (4 * x2)) + x3))) ||| 0)))
      else
        Option.bind (f_X8_isAsked u x2) fun r44 =>
        if r44 = 0 then
          Option.bind (f_X8_sees u x2 r30 x1) fun r55 =>
          if r55 = 0 then
            if oob ((25 + (4 * x2)) + x3) 507 then none else
            L_X8_hourGoes_19 k x1 x2 n (x3 + 1) (sA u 7 (upd (u.2.1 7) (Int32.toNatClampNeg ((25 + (4 * x2)) + x3)) (((u.2.1 7) (Int32.toNatClampNeg ((25 + (4 * x2)) + x3))) ||| 0)))
          else
            Option.bind (f_X8_isSmoke u r30 x1) fun r65 =>
            if r65 = 0 then
              if oob ((25 + (4 * x2)) + x3) 507 then none else
              L_X8_hourGoes_19 k x1 x2 n (x3 + 1) (sA u 7 (upd (u.2.1 7) (Int32.toNatClampNeg ((25 + (4 * x2)) + x3)) (((u.2.1 7) (Int32.toNatClampNeg ((25 + (4 * x2)) + x3))) ||| (1 <<< (x1 &&& 31)))))
            else
              if oob ((25 + (4 * x2)) + x3) 507 then none else
              L_X8_hourGoes_19 k x1 x2 n (x3 + 1) (sA u 7 (upd (u.2.1 7) (Int32.toNatClampNeg ((25 + (4 * x2)) + x3)) (((u.2.1 7) (Int32.toNatClampNeg ((25 + (4 * x2)) + x3))) ||| 0)))
        else
          if oob ((25 + (4 * x2)) + x3) 507 then none else
          L_X8_hourGoes_19 k x1 x2 n (x3 + 1) (sA u 7 (upd (u.2.1 7) (Int32.toNatClampNeg ((25 + (4 * x2)) + x3)) (((u.2.1 7) (Int32.toNatClampNeg ((25 + (4 * x2)) + x3))) ||| 0)))
set_option maxHeartbeats 4000000 in
set_option maxRecDepth 100000 in
theorem b_X8_hourGoes_19 {p : Program} {l : Launch} {e : Env} {s : State} {m : MethodId} {args : Array Value} {below : List Frame} {meth : Method} {c : Code} {g : Gx} {x1 x2 : Int32} {res : St} {k : Int32 → St → Option (St)} (C : Cx p s m meth c args cX8_hourGoes RX8 6 (none) 22 g)
    (hk : ∀ (x3 : Int32) (u : St) (H : Heap) (locs : List Loc) (ls : Array Slot), Zx wM g (Aw 22 g s.heap.size) s H locs u → lv_has ls 6 [(0, .ref (g.2.2 0)), (1, .int x1), (2, .int x2)] → k x3 u = some res → W p l e (rmX 3 72) s m args below meth c H locs 0 0 (QV wM 22 g res below args s) (F0 m 112 ls [])) :
    ∀ (n : Nat) (x3 : Int32) (u : St) (H : Heap) (locs : List Loc) (ls : Array Slot), Zx wM g (Aw 22 g s.heap.size) s H locs u → lv_has ls 6 [(0, .ref (g.2.2 0)), (1, .int x1), (2, .int x2), (3, .int x3)] → L_X8_hourGoes_19 k x1 x2 n x3 u = some res → W p l e (rmX 3 72) s m args below meth c H locs 0 0 (QV wM 22 g res below args s) (F0 m 19 ls []) := by
  have hx := C.1
  have hb := C.2.1
  intro n
  induction n with
  | zero =>
    intro x3 u H locs ls Z hl hf
    rw [L_X8_hourGoes_19.eq_1] at hf
    cases hf
  | succ n ih =>
    intro x3 u H locs ls Z hl hf
    rw [L_X8_hourGoes_19.eq_2] at hf
    refine lv_iload_n hx hb dX8_hourGoes_19 rfl (lv_at hl 3 rfl) ?_
    refine lv_aload_n hx hb dX8_hourGoes_20 rfl (lv_at hl 0 rfl) ?_
    refine gM_0_5 C Z (fl_of C mw_828) dX8_hourGoes_21 (x := (u.1 1)) rfl ?_
    refine lv_icmp_ge (tgt := 112) hx hb dX8_hourGoes_24 (by decide) (fun hc24 => ?_) (fun hc24 => ?_)
    · rw [if_pos hc24] at hf
      exact hk _ _ H locs ls Z (lv_sub hl [0, 1, 2] rfl) hf
    · rw [if_neg hc24] at hf
      refine lv_aload_n hx hb dX8_hourGoes_27 rfl (lv_at hl 0 rfl) ?_
      refine lv_iload_n hx hb dX8_hourGoes_28 rfl (lv_at hl 3 rfl) ?_
      refine lv_iload_n hx hb dX8_hourGoes_29 rfl (lv_at hl 1 rfl) ?_
      obtain ⟨r30, hr30, hf⟩ := Option.bind_eq_some_iff.mp hf
      refine call_vi (As := [.int x3, .int x1]) (rest := []) C Z (c_X8_walks l hr30) mf_X8_walks (ml_of C mw_1050) rfl (oM_0 g _) rfl ⟨rfl, rfl, by decide, by decide⟩ rfl hl.1 (Nat.le_of_ble_eq_true rfl) dX8_hourGoes_30 (fun H locs Z => ?_)
      refine lv_istore (lv' := [(4, .int r30), (0, .ref (g.2.2 0)), (1, .int x1), (2, .int x2), (3, .int x3)]) hx hb dX8_hourGoes_33 hl (by decide) rfl (fun ls hl => ?_)
      refine lv_iload hx hb dX8_hourGoes_35 (lv_at hl 0 rfl) ?_
      refine lv_bipush (v := (-9)) hx hb dX8_hourGoes_37 (by decide +kernel) ?_
      refine lv_icmp_eq (tgt := 75) hx hb dX8_hourGoes_39 (by decide) (fun hc39 => ?_) (fun hc39 => ?_)
      · rw [if_pos hc39] at hf
        refine lv_iconst (v := 0) hx hb dX8_hourGoes_75 (by decide +kernel) ?_
        refine lv_istore (lv' := [(5, .int 0), (4, .int r30), (0, .ref (g.2.2 0)), (1, .int x1), (2, .int x2), (3, .int x3)]) hx hb dX8_hourGoes_76 hl (by decide) rfl (fun ls hl => ?_)
        refine lv_aload_n hx hb dX8_hourGoes_78 rfl (lv_at hl 2 rfl) ?_
        refine gM_0_10 C Z (fl_of C mw_833) dX8_hourGoes_79 ?_
        refine lv_bipush (v := 25) hx hb dX8_hourGoes_82 (by decide +kernel) ?_
        refine lv_iconst (v := 4) hx hb dX8_hourGoes_84 (by decide +kernel) ?_
        refine lv_iload_n hx hb dX8_hourGoes_85 rfl (lv_at hl 4 rfl) ?_
        refine lv_imul hx hb dX8_hourGoes_86 ?_
        refine lv_iadd hx hb dX8_hourGoes_87 ?_
        refine lv_iload_n hx hb dX8_hourGoes_88 rfl (lv_at hl 5 rfl) ?_
        refine lv_iadd hx hb dX8_hourGoes_89 ?_
        refine lv_dup2_11 hx hb dX8_hourGoes_90 rfl rfl ?_
        by_cases ho91 : oob ((25 + (4 * x2)) + x3) 507 = true
        · rw [if_pos ho91] at hf; cases hf
        rw [if_neg ho91] at hf
        refine r_ald C Z (aM_8 g _ (f := (u.2.1 7)) rfl) ho91 rfl dX8_hourGoes_91 (x := ((u.2.1 7) (Int32.toNatClampNeg ((25 + (4 * x2)) + x3)))) rfl ?_
        refine lv_iload hx hb dX8_hourGoes_92 (lv_at hl 0 rfl) ?_
        refine lv_if_eq (tgt := 103) hx hb dX8_hourGoes_94 (by decide) (fun _ => ?_) (fun hq => absurd (by decide) hq)
        refine lv_iconst (v := 0) hx hb dX8_hourGoes_103 (by decide +kernel) ?_
        refine lv_ior hx hb dX8_hourGoes_104 ?_
        refine r_ast C wokM Z (aM_8 g _ (f := (u.2.1 7)) rfl) ho91 rfl (sM_8 g _ _) dX8_hourGoes_105 (fun H locs Z => ?_)
        refine lv_iinc (v := (x3 + 1)) (lv' := [(3, .int (x3 + 1)), (5, .int 0), (4, .int r30), (0, .ref (g.2.2 0)), (1, .int x1), (2, .int x2)]) hx hb dX8_hourGoes_106 hl (k := 5) rfl rfl (by decide) rfl (fun ls hl => ?_)
        refine lv_goto (tgt := 19) hx hb dX8_hourGoes_109 (by decide) ?_
        exact ih _ _ _ _ _ Z (lv_sub hl [3, 4, 5, 0] rfl) hf
      · rw [if_neg hc39] at hf
        refine lv_aload_n hx hb dX8_hourGoes_42 rfl (lv_at hl 1 rfl) ?_
        refine lv_iload_n hx hb dX8_hourGoes_43 rfl (lv_at hl 3 rfl) ?_
        obtain ⟨r44, hr44, hf⟩ := Option.bind_eq_some_iff.mp hf
        refine call_vi (As := [.int x2]) (rest := []) C Z (c_X8_isAsked l hr44) mf_X8_isAsked (ml_of C mw_1023) rfl (oM_0 g _) rfl ⟨rfl, rfl, by decide, by decide⟩ rfl hl.1 (Nat.le_of_ble_eq_true rfl) dX8_hourGoes_44 (fun H locs Z => ?_)
        refine lv_if_ne (tgt := 75) hx hb dX8_hourGoes_47 (by decide) (fun hc47 => ?_) (fun hc47 => ?_)
        · rw [if_neg hc47] at hf
          refine lv_iconst (v := 0) hx hb dX8_hourGoes_75 (by decide +kernel) ?_
          refine lv_istore (lv' := [(5, .int 0), (4, .int r30), (0, .ref (g.2.2 0)), (1, .int x1), (2, .int x2), (3, .int x3)]) hx hb dX8_hourGoes_76 hl (by decide) rfl (fun ls hl => ?_)
          refine lv_aload_n hx hb dX8_hourGoes_78 rfl (lv_at hl 2 rfl) ?_
          refine gM_0_10 C Z (fl_of C mw_833) dX8_hourGoes_79 ?_
          refine lv_bipush (v := 25) hx hb dX8_hourGoes_82 (by decide +kernel) ?_
          refine lv_iconst (v := 4) hx hb dX8_hourGoes_84 (by decide +kernel) ?_
          refine lv_iload_n hx hb dX8_hourGoes_85 rfl (lv_at hl 4 rfl) ?_
          refine lv_imul hx hb dX8_hourGoes_86 ?_
          refine lv_iadd hx hb dX8_hourGoes_87 ?_
          refine lv_iload_n hx hb dX8_hourGoes_88 rfl (lv_at hl 5 rfl) ?_
          refine lv_iadd hx hb dX8_hourGoes_89 ?_
          refine lv_dup2_11 hx hb dX8_hourGoes_90 rfl rfl ?_
          by_cases ho91 : oob ((25 + (4 * x2)) + x3) 507 = true
          · rw [if_pos ho91] at hf; cases hf
          rw [if_neg ho91] at hf
          refine r_ald C Z (aM_8 g _ (f := (u.2.1 7)) rfl) ho91 rfl dX8_hourGoes_91 (x := ((u.2.1 7) (Int32.toNatClampNeg ((25 + (4 * x2)) + x3)))) rfl ?_
          refine lv_iload hx hb dX8_hourGoes_92 (lv_at hl 0 rfl) ?_
          refine lv_if_eq (tgt := 103) hx hb dX8_hourGoes_94 (by decide) (fun _ => ?_) (fun hq => absurd (by decide) hq)
          refine lv_iconst (v := 0) hx hb dX8_hourGoes_103 (by decide +kernel) ?_
          refine lv_ior hx hb dX8_hourGoes_104 ?_
          refine r_ast C wokM Z (aM_8 g _ (f := (u.2.1 7)) rfl) ho91 rfl (sM_8 g _ _) dX8_hourGoes_105 (fun H locs Z => ?_)
          refine lv_iinc (v := (x3 + 1)) (lv' := [(3, .int (x3 + 1)), (5, .int 0), (4, .int r30), (0, .ref (g.2.2 0)), (1, .int x1), (2, .int x2)]) hx hb dX8_hourGoes_106 hl (k := 5) rfl rfl (by decide) rfl (fun ls hl => ?_)
          refine lv_goto (tgt := 19) hx hb dX8_hourGoes_109 (by decide) ?_
          exact ih _ _ _ _ _ Z (lv_sub hl [3, 4, 5, 0] rfl) hf
        · rw [if_pos hc47] at hf
          refine lv_aload_n hx hb dX8_hourGoes_50 rfl (lv_at hl 1 rfl) ?_
          refine lv_iload_n hx hb dX8_hourGoes_51 rfl (lv_at hl 3 rfl) ?_
          refine lv_iload hx hb dX8_hourGoes_52 (lv_at hl 0 rfl) ?_
          refine lv_iload_n hx hb dX8_hourGoes_54 rfl (lv_at hl 2 rfl) ?_
          obtain ⟨r55, hr55, hf⟩ := Option.bind_eq_some_iff.mp hf
          refine call_vi (As := [.int x2, .int r30, .int x1]) (rest := []) C Z (c_X8_sees l hr55) mf_X8_sees (ml_of C mw_1074) rfl (oM_0 g _) rfl ⟨rfl, rfl, by decide, by decide⟩ rfl hl.1 (Nat.le_of_ble_eq_true rfl) dX8_hourGoes_55 (fun H locs Z => ?_)
          refine lv_if_eq (tgt := 75) hx hb dX8_hourGoes_58 (by decide) (fun hc58 => ?_) (fun hc58 => ?_)
          · rw [if_pos hc58] at hf
            refine lv_iconst (v := 0) hx hb dX8_hourGoes_75 (by decide +kernel) ?_
            refine lv_istore (lv' := [(5, .int 0), (4, .int r30), (0, .ref (g.2.2 0)), (1, .int x1), (2, .int x2), (3, .int x3)]) hx hb dX8_hourGoes_76 hl (by decide) rfl (fun ls hl => ?_)
            refine lv_aload_n hx hb dX8_hourGoes_78 rfl (lv_at hl 2 rfl) ?_
            refine gM_0_10 C Z (fl_of C mw_833) dX8_hourGoes_79 ?_
            refine lv_bipush (v := 25) hx hb dX8_hourGoes_82 (by decide +kernel) ?_
            refine lv_iconst (v := 4) hx hb dX8_hourGoes_84 (by decide +kernel) ?_
            refine lv_iload_n hx hb dX8_hourGoes_85 rfl (lv_at hl 4 rfl) ?_
            refine lv_imul hx hb dX8_hourGoes_86 ?_
            refine lv_iadd hx hb dX8_hourGoes_87 ?_
            refine lv_iload_n hx hb dX8_hourGoes_88 rfl (lv_at hl 5 rfl) ?_
            refine lv_iadd hx hb dX8_hourGoes_89 ?_
            refine lv_dup2_11 hx hb dX8_hourGoes_90 rfl rfl ?_
            by_cases ho91 : oob ((25 + (4 * x2)) + x3) 507 = true
            · rw [if_pos ho91] at hf; cases hf
            rw [if_neg ho91] at hf
            refine r_ald C Z (aM_8 g _ (f := (u.2.1 7)) rfl) ho91 rfl dX8_hourGoes_91 (x := ((u.2.1 7) (Int32.toNatClampNeg ((25 + (4 * x2)) + x3)))) rfl ?_
            refine lv_iload hx hb dX8_hourGoes_92 (lv_at hl 0 rfl) ?_
            refine lv_if_eq (tgt := 103) hx hb dX8_hourGoes_94 (by decide) (fun _ => ?_) (fun hq => absurd (by decide) hq)
            refine lv_iconst (v := 0) hx hb dX8_hourGoes_103 (by decide +kernel) ?_
            refine lv_ior hx hb dX8_hourGoes_104 ?_
            refine r_ast C wokM Z (aM_8 g _ (f := (u.2.1 7)) rfl) ho91 rfl (sM_8 g _ _) dX8_hourGoes_105 (fun H locs Z => ?_)
            refine lv_iinc (v := (x3 + 1)) (lv' := [(3, .int (x3 + 1)), (5, .int 0), (4, .int r30), (0, .ref (g.2.2 0)), (1, .int x1), (2, .int x2)]) hx hb dX8_hourGoes_106 hl (k := 5) rfl rfl (by decide) rfl (fun ls hl => ?_)
            refine lv_goto (tgt := 19) hx hb dX8_hourGoes_109 (by decide) ?_
            exact ih _ _ _ _ _ Z (lv_sub hl [3, 4, 5, 0] rfl) hf
          · rw [if_neg hc58] at hf
            refine lv_aload_n hx hb dX8_hourGoes_61 rfl (lv_at hl 1 rfl) ?_
            refine lv_iload hx hb dX8_hourGoes_62 (lv_at hl 0 rfl) ?_
            refine lv_iload_n hx hb dX8_hourGoes_64 rfl (lv_at hl 2 rfl) ?_
            obtain ⟨r65, hr65, hf⟩ := Option.bind_eq_some_iff.mp hf
            refine call_vi (As := [.int r30, .int x1]) (rest := []) C Z (c_X8_isSmoke l hr65) mf_X8_isSmoke (ml_of C mw_1082) rfl (oM_0 g _) rfl ⟨rfl, rfl, by decide, by decide⟩ rfl hl.1 (Nat.le_of_ble_eq_true rfl) dX8_hourGoes_65 (fun H locs Z => ?_)
            refine lv_if_ne (tgt := 75) hx hb dX8_hourGoes_68 (by decide) (fun hc68 => ?_) (fun hc68 => ?_)
            · rw [if_neg hc68] at hf
              refine lv_iconst (v := 0) hx hb dX8_hourGoes_75 (by decide +kernel) ?_
              refine lv_istore (lv' := [(5, .int 0), (4, .int r30), (0, .ref (g.2.2 0)), (1, .int x1), (2, .int x2), (3, .int x3)]) hx hb dX8_hourGoes_76 hl (by decide) rfl (fun ls hl => ?_)
              refine lv_aload_n hx hb dX8_hourGoes_78 rfl (lv_at hl 2 rfl) ?_
              refine gM_0_10 C Z (fl_of C mw_833) dX8_hourGoes_79 ?_
              refine lv_bipush (v := 25) hx hb dX8_hourGoes_82 (by decide +kernel) ?_
              refine lv_iconst (v := 4) hx hb dX8_hourGoes_84 (by decide +kernel) ?_
              refine lv_iload_n hx hb dX8_hourGoes_85 rfl (lv_at hl 4 rfl) ?_
              refine lv_imul hx hb dX8_hourGoes_86 ?_
              refine lv_iadd hx hb dX8_hourGoes_87 ?_
              refine lv_iload_n hx hb dX8_hourGoes_88 rfl (lv_at hl 5 rfl) ?_
              refine lv_iadd hx hb dX8_hourGoes_89 ?_
              refine lv_dup2_11 hx hb dX8_hourGoes_90 rfl rfl ?_
              by_cases ho91 : oob ((25 + (4 * x2)) + x3) 507 = true
              · rw [if_pos ho91] at hf; cases hf
              rw [if_neg ho91] at hf
              refine r_ald C Z (aM_8 g _ (f := (u.2.1 7)) rfl) ho91 rfl dX8_hourGoes_91 (x := ((u.2.1 7) (Int32.toNatClampNeg ((25 + (4 * x2)) + x3)))) rfl ?_
              refine lv_iload hx hb dX8_hourGoes_92 (lv_at hl 0 rfl) ?_
              refine lv_if_eq (tgt := 103) hx hb dX8_hourGoes_94 (by decide) (fun _ => ?_) (fun hq => absurd (by decide) hq)
              refine lv_iconst (v := 0) hx hb dX8_hourGoes_103 (by decide +kernel) ?_
              refine lv_ior hx hb dX8_hourGoes_104 ?_
              refine r_ast C wokM Z (aM_8 g _ (f := (u.2.1 7)) rfl) ho91 rfl (sM_8 g _ _) dX8_hourGoes_105 (fun H locs Z => ?_)
              refine lv_iinc (v := (x3 + 1)) (lv' := [(3, .int (x3 + 1)), (5, .int 0), (4, .int r30), (0, .ref (g.2.2 0)), (1, .int x1), (2, .int x2)]) hx hb dX8_hourGoes_106 hl (k := 5) rfl rfl (by decide) rfl (fun ls hl => ?_)
              refine lv_goto (tgt := 19) hx hb dX8_hourGoes_109 (by decide) ?_
              exact ih _ _ _ _ _ Z (lv_sub hl [3, 4, 5, 0] rfl) hf
            · rw [if_pos hc68] at hf
              refine lv_iconst (v := 1) hx hb dX8_hourGoes_71 (by decide +kernel) ?_
              refine lv_goto (tgt := 76) hx hb dX8_hourGoes_72 (by decide) ?_
              refine lv_istore (lv' := [(5, .int 1), (4, .int r30), (0, .ref (g.2.2 0)), (1, .int x1), (2, .int x2), (3, .int x3)]) hx hb dX8_hourGoes_76 hl (by decide) rfl (fun ls hl => ?_)
              refine lv_aload_n hx hb dX8_hourGoes_78 rfl (lv_at hl 2 rfl) ?_
              refine gM_0_10 C Z (fl_of C mw_833) dX8_hourGoes_79 ?_
              refine lv_bipush (v := 25) hx hb dX8_hourGoes_82 (by decide +kernel) ?_
              refine lv_iconst (v := 4) hx hb dX8_hourGoes_84 (by decide +kernel) ?_
              refine lv_iload_n hx hb dX8_hourGoes_85 rfl (lv_at hl 4 rfl) ?_
              refine lv_imul hx hb dX8_hourGoes_86 ?_
              refine lv_iadd hx hb dX8_hourGoes_87 ?_
              refine lv_iload_n hx hb dX8_hourGoes_88 rfl (lv_at hl 5 rfl) ?_
              refine lv_iadd hx hb dX8_hourGoes_89 ?_
              refine lv_dup2_11 hx hb dX8_hourGoes_90 rfl rfl ?_
              by_cases ho91 : oob ((25 + (4 * x2)) + x3) 507 = true
              · rw [if_pos ho91] at hf; cases hf
              rw [if_neg ho91] at hf
              refine r_ald C Z (aM_8 g _ (f := (u.2.1 7)) rfl) ho91 rfl dX8_hourGoes_91 (x := ((u.2.1 7) (Int32.toNatClampNeg ((25 + (4 * x2)) + x3)))) rfl ?_
              refine lv_iload hx hb dX8_hourGoes_92 (lv_at hl 0 rfl) ?_
              refine lv_if_eq (tgt := 103) hx hb dX8_hourGoes_94 (by decide) (fun hq => absurd hq (by decide)) (fun _ => ?_)
              refine lv_iconst (v := 1) hx hb dX8_hourGoes_97 (by decide +kernel) ?_
              refine lv_iload_n hx hb dX8_hourGoes_98 rfl (lv_at hl 3 rfl) ?_
              refine lv_ishl hx hb dX8_hourGoes_99 ?_
              refine lv_goto (tgt := 104) hx hb dX8_hourGoes_100 (by decide) ?_
              refine lv_ior hx hb dX8_hourGoes_104 ?_
              refine r_ast C wokM Z (aM_8 g _ (f := (u.2.1 7)) rfl) ho91 rfl (sM_8 g _ _) dX8_hourGoes_105 (fun H locs Z => ?_)
              refine lv_iinc (v := (x3 + 1)) (lv' := [(3, .int (x3 + 1)), (5, .int 1), (4, .int r30), (0, .ref (g.2.2 0)), (1, .int x1), (2, .int x2)]) hx hb dX8_hourGoes_106 hl (k := 5) rfl rfl (by decide) rfl (fun ls hl => ?_)
              refine lv_goto (tgt := 19) hx hb dX8_hourGoes_109 (by decide) ?_
              exact ih _ _ _ _ _ Z (lv_sub hl [3, 4, 5, 0] rfl) hf
def L_X8_hourGoes_9 (k : Int32 → St → Option (St)) (x1 : Int32) : Nat → Int32 → St → Option (St)
  | 0, _, _ => none
  | n + 1, x2, u =>
    if (u.1 0) ≤ x2 then
      k x2 u
    else
      L_X8_hourGoes_19 (fun x3 u19 =>
        L_X8_hourGoes_9 k x1 n (x2 + 1) u19) x1 x2 FU 0 u
set_option maxHeartbeats 4000000 in
set_option maxRecDepth 100000 in
theorem b_X8_hourGoes_9 {p : Program} {l : Launch} {e : Env} {s : State} {m : MethodId} {args : Array Value} {below : List Frame} {meth : Method} {c : Code} {g : Gx} {x1 : Int32} {res : St} {k : Int32 → St → Option (St)} (C : Cx p s m meth c args cX8_hourGoes RX8 6 (none) 22 g)
    (hk : ∀ (x2 : Int32) (u : St) (H : Heap) (locs : List Loc) (ls : Array Slot), Zx wM g (Aw 22 g s.heap.size) s H locs u → lv_has ls 6 [(0, .ref (g.2.2 0))] → k x2 u = some res → W p l e (rmX 3 72) s m args below meth c H locs 0 0 (QV wM 22 g res below args s) (F0 m 118 ls [])) :
    ∀ (n : Nat) (x2 : Int32) (u : St) (H : Heap) (locs : List Loc) (ls : Array Slot), Zx wM g (Aw 22 g s.heap.size) s H locs u → lv_has ls 6 [(0, .ref (g.2.2 0)), (1, .int x1), (2, .int x2)] → L_X8_hourGoes_9 k x1 n x2 u = some res → W p l e (rmX 3 72) s m args below meth c H locs 0 0 (QV wM 22 g res below args s) (F0 m 9 ls []) := by
  have hx := C.1
  have hb := C.2.1
  intro n
  induction n with
  | zero =>
    intro x2 u H locs ls Z hl hf
    rw [L_X8_hourGoes_9.eq_1] at hf
    cases hf
  | succ n ih =>
    intro x2 u H locs ls Z hl hf
    rw [L_X8_hourGoes_9.eq_2] at hf
    refine lv_iload_n hx hb dX8_hourGoes_9 rfl (lv_at hl 2 rfl) ?_
    refine lv_aload_n hx hb dX8_hourGoes_10 rfl (lv_at hl 0 rfl) ?_
    refine gM_0_0 C Z (fl_of C mw_823) dX8_hourGoes_11 (x := (u.1 0)) rfl ?_
    refine lv_icmp_ge (tgt := 118) hx hb dX8_hourGoes_14 (by decide) (fun hc14 => ?_) (fun hc14 => ?_)
    · rw [if_pos hc14] at hf
      exact hk _ _ H locs ls Z (lv_sub hl [0] rfl) hf
    · rw [if_neg hc14] at hf
      refine lv_iconst (v := 0) hx hb dX8_hourGoes_17 (by decide +kernel) ?_
      refine lv_istore_n (lv' := [(3, .int 0), (0, .ref (g.2.2 0)), (1, .int x1), (2, .int x2)]) hx hb dX8_hourGoes_18 rfl hl (by decide) rfl (fun ls hl => ?_)
      refine b_X8_hourGoes_19 C (fun x3 u19 H locs ls Z hl hf => ?_) FU _ _ _ _ _ Z (lv_sub hl [1, 2, 3, 0] rfl) hf
      refine lv_iinc (v := (x2 + 1)) (lv' := [(2, .int (x2 + 1)), (0, .ref (g.2.2 0)), (1, .int x1)]) hx hb dX8_hourGoes_112 hl (k := 2) rfl rfl (by decide) rfl (fun ls hl => ?_)
      refine lv_goto (tgt := 9) hx hb dX8_hourGoes_115 (by decide) ?_
      exact ih _ _ _ _ _ Z (lv_sub hl [1, 2, 0] rfl) hf
def f_X8_hourGoes (u : St) : Option (St) :=
  L_X8_hourGoes_9 (fun x2 u9 =>
    some (sA u9 7 (upd (u9.2.1 7) 0 (((u9.2.1 7) 0) + 1)))) ((u.2.1 7) 0) FU 0 u
set_option maxHeartbeats 4000000 in
set_option maxRecDepth 100000 in
theorem c_X8_hourGoes (l : Launch) {g : Gx} {u : St} {res : St} (hf : f_X8_hourGoes u = some res) : CV wM 22 l yX8_hourGoes (wsY yX8_hourGoes cX8_hourGoes 6 (none)) (rmX 3 72) g [.ref (g.2.2 0)] u res := by
  refine CV_start (by decide +kernel) rfl (Nat.le_of_ble_eq_true rfl) (fun {p e s m args below meth c ls} C Z hl => ?_)
  have hl : lv_has ls 6 [(0, .ref (g.2.2 0))] := hl
  have hx := C.1
  have hb := C.2.1
  unfold f_X8_hourGoes at hf
  refine lv_aload_n hx hb dX8_hourGoes_0 rfl (lv_at hl 0 rfl) ?_
  refine gM_0_10 C Z (fl_of C mw_833) dX8_hourGoes_1 ?_
  refine lv_iconst (v := 0) hx hb dX8_hourGoes_4 (by decide +kernel) ?_
  refine r_ald C Z (aM_8 g _ (f := (u.2.1 7)) rfl) (by decide) (k := 0) (by decide) dX8_hourGoes_5 (x := ((u.2.1 7) 0)) rfl ?_
  refine lv_istore_n (lv' := [(1, .int ((u.2.1 7) 0)), (0, .ref (g.2.2 0))]) hx hb dX8_hourGoes_6 rfl hl (by decide) rfl (fun ls hl => ?_)
  refine lv_iconst (v := 0) hx hb dX8_hourGoes_7 (by decide +kernel) ?_
  refine lv_istore_n (lv' := [(2, .int 0), (1, .int ((u.2.1 7) 0)), (0, .ref (g.2.2 0))]) hx hb dX8_hourGoes_8 rfl hl (by decide) rfl (fun ls hl => ?_)
  refine b_X8_hourGoes_9 C (fun x2 u9 H locs ls Z hl hf => ?_) FU _ _ _ _ _ Z (lv_sub hl [2, 1, 0] rfl) hf
  refine lv_aload_n hx hb dX8_hourGoes_118 rfl (lv_at hl 0 rfl) ?_
  refine gM_0_10 C Z (fl_of C mw_833) dX8_hourGoes_119 ?_
  refine lv_iconst (v := 0) hx hb dX8_hourGoes_122 (by decide +kernel) ?_
  refine lv_dup2_11 hx hb dX8_hourGoes_123 rfl rfl ?_
  refine r_ald C Z (aM_8 g _ (f := (u9.2.1 7)) rfl) (by decide) (k := 0) (by decide) dX8_hourGoes_124 (x := ((u9.2.1 7) 0)) rfl ?_
  refine lv_iconst (v := 1) hx hb dX8_hourGoes_125 (by decide +kernel) ?_
  refine lv_iadd hx hb dX8_hourGoes_126 ?_
  refine r_ast C wokM Z (aM_8 g _ (f := (u9.2.1 7)) rfl) (by decide) (k := 0) (by decide) (sM_8 g _ _) dX8_hourGoes_127 (fun H locs Z => ?_)
  have hf := Option.some.inj hf
  subst hf
  exact ret_v C Z dX8_hourGoes_128
