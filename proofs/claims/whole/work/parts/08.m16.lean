def L_X8_isClear_34 (k : Int32 → Int32 → Option (Int32)) (u : St) (x1 x2 x3 x4 : Int32) : Nat → Int32 → Int32 → Option (Int32)
  | 0, _, _ => none
  | n + 1, x5, x6 =>
    if x4 ≤ x6 then
      k x5 x6
    else
      if oob x1 5 then none else
      if oob ((1 + ((u.2.1 0) (Int32.toNatClampNeg x1))) + (x3 * x6)) 507 then none else
      if x5 = 0 then
        L_X8_isClear_34 k u x1 x2 x3 x4 n 0 (x6 + 1)
      else
        Option.bind (f_X8_eye u x1) fun r73 =>
        if oob (1 + x2) 507 then none else
        if ((r73 * (x4 - x6)) + (((u.2.1 7) (Int32.toNatClampNeg (1 + x2))) * x6)) < (((u.2.1 7) (Int32.toNatClampNeg ((1 + ((u.2.1 0) (Int32.toNatClampNeg x1))) + (x3 * x6)))) * x4) then
          L_X8_isClear_34 k u x1 x2 x3 x4 n 0 (x6 + 1)
        else
          L_X8_isClear_34 k u x1 x2 x3 x4 n 1 (x6 + 1)
set_option maxHeartbeats 4000000 in
set_option maxRecDepth 100000 in
theorem b_X8_isClear_34 {p : Program} {l : Launch} {e : Env} {s : State} {m : MethodId} {args : Array Value} {below : List Frame} {meth : Method} {c : Code} {g : Gx} {u : St} {x1 x2 x3 x4 : Int32} {res : Int32} {k : Int32 → Int32 → Option (Int32)} (C : Cx p s m meth c args cX8_isClear RX8 8 (some .boolean) 22 g)
    (hk : ∀ (x5 x6 : Int32) (H : Heap) (locs : List Loc) (ls : Array Slot), Zx wM g (Aw 22 g s.heap.size) s H locs u → lv_has ls 8 [(5, .int x5)] → k x5 x6 = some res → W p l e (rmX 1 21) s m args below meth c H locs 0 0 (QI wM 22 g res u below args s) (F0 m 110 ls [])) :
    ∀ (n : Nat) (x5 x6 : Int32) (H : Heap) (locs : List Loc) (ls : Array Slot), Zx wM g (Aw 22 g s.heap.size) s H locs u → lv_has ls 8 [(0, .ref (g.2.2 0)), (1, .int x1), (2, .int x2), (3, .int x3), (4, .int x4), (5, .int x5), (6, .int x6)] → L_X8_isClear_34 k u x1 x2 x3 x4 n x5 x6 = some res → W p l e (rmX 1 21) s m args below meth c H locs 0 0 (QI wM 22 g res u below args s) (F0 m 34 ls []) := by
  have hx := C.1
  have hb := C.2.1
  intro n
  induction n with
  | zero =>
    intro x5 x6 H locs ls Z hl hf
    rw [L_X8_isClear_34.eq_1] at hf
    cases hf
  | succ n ih =>
    intro x5 x6 H locs ls Z hl hf
    rw [L_X8_isClear_34.eq_2] at hf
    refine lv_iload hx hb dX8_isClear_34 (lv_at hl 6 rfl) ?_
    refine lv_iload hx hb dX8_isClear_36 (lv_at hl 4 rfl) ?_
    refine lv_icmp_ge (tgt := 110) hx hb dX8_isClear_38 (by decide) (fun hc38 => ?_) (fun hc38 => ?_)
    · rw [if_pos hc38] at hf
      exact hk _ _ H locs ls Z (lv_sub hl [5] rfl) hf
    · rw [if_neg hc38] at hf
      refine lv_aload_n hx hb dX8_isClear_41 rfl (lv_at hl 0 rfl) ?_
      refine gM_0_10 C Z (fl_of C mw_827) dX8_isClear_42 ?_
      refine lv_iconst (v := 1) hx hb dX8_isClear_45 (by decide +kernel) ?_
      refine lv_aload_n hx hb dX8_isClear_46 rfl (lv_at hl 0 rfl) ?_
      refine gM_0_1 C Z (fl_of C mw_818) dX8_isClear_47 ?_
      refine lv_iload_n hx hb dX8_isClear_50 rfl (lv_at hl 1 rfl) ?_
      by_cases ho51 : oob x1 5 = true
      · rw [if_pos ho51] at hf; cases hf
      rw [if_neg ho51] at hf
      refine r_ald C Z (aM_1 g _ (f := (u.2.1 0)) rfl) ho51 rfl dX8_isClear_51 (x := ((u.2.1 0) (Int32.toNatClampNeg x1))) rfl ?_
      refine lv_iadd hx hb dX8_isClear_52 ?_
      refine lv_iload_n hx hb dX8_isClear_53 rfl (lv_at hl 3 rfl) ?_
      refine lv_iload hx hb dX8_isClear_54 (lv_at hl 6 rfl) ?_
      refine lv_imul hx hb dX8_isClear_56 ?_
      refine lv_iadd hx hb dX8_isClear_57 ?_
      by_cases ho58 : oob ((1 + ((u.2.1 0) (Int32.toNatClampNeg x1))) + (x3 * x6)) 507 = true
      · rw [if_pos ho58] at hf; cases hf
      rw [if_neg ho58] at hf
      refine r_ald C Z (aM_8 g _ (f := (u.2.1 7)) rfl) ho58 rfl dX8_isClear_58 (x := ((u.2.1 7) (Int32.toNatClampNeg ((1 + ((u.2.1 0) (Int32.toNatClampNeg x1))) + (x3 * x6))))) rfl ?_
      refine lv_istore (lv' := [(7, .int ((u.2.1 7) (Int32.toNatClampNeg ((1 + ((u.2.1 0) (Int32.toNatClampNeg x1))) + (x3 * x6))))), (0, .ref (g.2.2 0)), (1, .int x1), (2, .int x2), (3, .int x3), (4, .int x4), (5, .int x5), (6, .int x6)]) hx hb dX8_isClear_59 hl (by decide) rfl (fun ls hl => ?_)
      refine lv_iload hx hb dX8_isClear_61 (lv_at hl 6 rfl) ?_
      refine lv_if_eq (tgt := 101) hx hb dX8_isClear_63 (by decide) (fun hc63 => ?_) (fun hc63 => ?_)
      · rw [if_pos hc63] at hf
        refine lv_iconst (v := 0) hx hb dX8_isClear_101 (by decide +kernel) ?_
        refine lv_istore (lv' := [(5, .int 0), (7, .int ((u.2.1 7) (Int32.toNatClampNeg ((1 + ((u.2.1 0) (Int32.toNatClampNeg x1))) + (x3 * x6))))), (0, .ref (g.2.2 0)), (1, .int x1), (2, .int x2), (3, .int x3), (4, .int x4), (6, .int x6)]) hx hb dX8_isClear_102 hl (by decide) rfl (fun ls hl => ?_)
        refine lv_iinc (v := (x6 + 1)) (lv' := [(6, .int (x6 + 1)), (5, .int 0), (7, .int ((u.2.1 7) (Int32.toNatClampNeg ((1 + ((u.2.1 0) (Int32.toNatClampNeg x1))) + (x3 * x6))))), (0, .ref (g.2.2 0)), (1, .int x1), (2, .int x2), (3, .int x3), (4, .int x4)]) hx hb dX8_isClear_104 hl (k := 7) rfl rfl (by decide) rfl (fun ls hl => ?_)
        refine lv_goto (tgt := 34) hx hb dX8_isClear_107 (by decide) ?_
        exact ih _ _ _ _ _ Z (lv_sub hl [3, 4, 5, 6, 7, 1, 0] rfl) hf
      · rw [if_neg hc63] at hf
        refine lv_iload hx hb dX8_isClear_66 (lv_at hl 0 rfl) ?_
        refine lv_iload hx hb dX8_isClear_68 (lv_at hl 5 rfl) ?_
        refine lv_imul hx hb dX8_isClear_70 ?_
        refine lv_aload_n hx hb dX8_isClear_71 rfl (lv_at hl 1 rfl) ?_
        refine lv_iload_n hx hb dX8_isClear_72 rfl (lv_at hl 2 rfl) ?_
        obtain ⟨r73, hr73, hf⟩ := Option.bind_eq_some_iff.mp hf
        refine call_vi (As := [.int x1]) (rest := [.int (((u.2.1 7) (Int32.toNatClampNeg ((1 + ((u.2.1 0) (Int32.toNatClampNeg x1))) + (x3 * x6)))) * x4)]) C Z (c_X8_eye l hr73) mf_X8_eye (ml_of C mw_1010) rfl (oM_0 g _) rfl ⟨rfl, rfl, by decide, by decide⟩ rfl hl.1 (Nat.le_of_ble_eq_true rfl) dX8_isClear_73 (fun H locs Z => ?_)
        refine lv_iload hx hb dX8_isClear_76 (lv_at hl 5 rfl) ?_
        refine lv_iload hx hb dX8_isClear_78 (lv_at hl 7 rfl) ?_
        refine lv_isub hx hb dX8_isClear_80 ?_
        refine lv_imul hx hb dX8_isClear_81 ?_
        refine lv_aload_n hx hb dX8_isClear_82 rfl (lv_at hl 1 rfl) ?_
        refine gM_0_10 C Z (fl_of C mw_827) dX8_isClear_83 ?_
        refine lv_iconst (v := 1) hx hb dX8_isClear_86 (by decide +kernel) ?_
        refine lv_iload_n hx hb dX8_isClear_87 rfl (lv_at hl 3 rfl) ?_
        refine lv_iadd hx hb dX8_isClear_88 ?_
        by_cases ho89 : oob (1 + x2) 507 = true
        · rw [if_pos ho89] at hf; cases hf
        rw [if_neg ho89] at hf
        refine r_ald C Z (aM_8 g _ (f := (u.2.1 7)) rfl) ho89 rfl dX8_isClear_89 (x := ((u.2.1 7) (Int32.toNatClampNeg (1 + x2)))) rfl ?_
        refine lv_iload hx hb dX8_isClear_90 (lv_at hl 7 rfl) ?_
        refine lv_imul hx hb dX8_isClear_92 ?_
        refine lv_iadd hx hb dX8_isClear_93 ?_
        refine lv_icmp_gt (tgt := 101) hx hb dX8_isClear_94 (by decide) (fun hc94 => ?_) (fun hc94 => ?_)
        · rw [if_pos hc94] at hf
          refine lv_iconst (v := 0) hx hb dX8_isClear_101 (by decide +kernel) ?_
          refine lv_istore (lv' := [(5, .int 0), (7, .int ((u.2.1 7) (Int32.toNatClampNeg ((1 + ((u.2.1 0) (Int32.toNatClampNeg x1))) + (x3 * x6))))), (0, .ref (g.2.2 0)), (1, .int x1), (2, .int x2), (3, .int x3), (4, .int x4), (6, .int x6)]) hx hb dX8_isClear_102 hl (by decide) rfl (fun ls hl => ?_)
          refine lv_iinc (v := (x6 + 1)) (lv' := [(6, .int (x6 + 1)), (5, .int 0), (7, .int ((u.2.1 7) (Int32.toNatClampNeg ((1 + ((u.2.1 0) (Int32.toNatClampNeg x1))) + (x3 * x6))))), (0, .ref (g.2.2 0)), (1, .int x1), (2, .int x2), (3, .int x3), (4, .int x4)]) hx hb dX8_isClear_104 hl (k := 7) rfl rfl (by decide) rfl (fun ls hl => ?_)
          refine lv_goto (tgt := 34) hx hb dX8_isClear_107 (by decide) ?_
          exact ih _ _ _ _ _ Z (lv_sub hl [3, 4, 5, 6, 7, 1, 0] rfl) hf
        · rw [if_neg hc94] at hf
          refine lv_iconst (v := 1) hx hb dX8_isClear_97 (by decide +kernel) ?_
          refine lv_goto (tgt := 102) hx hb dX8_isClear_98 (by decide) ?_
          refine lv_istore (lv' := [(5, .int 1), (7, .int ((u.2.1 7) (Int32.toNatClampNeg ((1 + ((u.2.1 0) (Int32.toNatClampNeg x1))) + (x3 * x6))))), (0, .ref (g.2.2 0)), (1, .int x1), (2, .int x2), (3, .int x3), (4, .int x4), (6, .int x6)]) hx hb dX8_isClear_102 hl (by decide) rfl (fun ls hl => ?_)
          refine lv_iinc (v := (x6 + 1)) (lv' := [(6, .int (x6 + 1)), (5, .int 1), (7, .int ((u.2.1 7) (Int32.toNatClampNeg ((1 + ((u.2.1 0) (Int32.toNatClampNeg x1))) + (x3 * x6))))), (0, .ref (g.2.2 0)), (1, .int x1), (2, .int x2), (3, .int x3), (4, .int x4)]) hx hb dX8_isClear_104 hl (k := 7) rfl rfl (by decide) rfl (fun ls hl => ?_)
          refine lv_goto (tgt := 34) hx hb dX8_isClear_107 (by decide) ?_
          exact ih _ _ _ _ _ Z (lv_sub hl [3, 4, 5, 6, 7, 1, 0] rfl) hf
def f_X8_isClear (u : St) (x1 x2 : Int32) : Option (Int32) :=
  if oob x1 5 then none else
  if x2 ≤ ((u.2.1 0) (Int32.toNatClampNeg x1)) then
    L_X8_isClear_34 (fun x5 x6 =>
      if nb x5 then some x5 else none) u x1 x2 (-1) ((x2 - ((u.2.1 0) (Int32.toNatClampNeg x1))) * (-1)) FU 1 1
  else
    L_X8_isClear_34 (fun x5 x6 =>
      if nb x5 then some x5 else none) u x1 x2 1 ((x2 - ((u.2.1 0) (Int32.toNatClampNeg x1))) * 1) FU 1 1
set_option maxHeartbeats 4000000 in
set_option maxRecDepth 100000 in
theorem c_X8_isClear (l : Launch) {g : Gx} {u : St} {x1 x2 : Int32} {res : Int32} (hf : f_X8_isClear u x1 x2 = some res) : CI wM 22 l yX8_isClear (wsY yX8_isClear cX8_isClear 8 (some .boolean)) (rmX 1 21) g [.ref (g.2.2 0), .int x1, .int x2] u res u := by
  refine CI_start (by decide +kernel) rfl (Nat.le_of_ble_eq_true rfl) (fun {p e s m args below meth c ls} C Z hl => ?_)
  have hl : lv_has ls 8 [(0, .ref (g.2.2 0)), (1, .int x1), (2, .int x2)] := hl
  have hx := C.1
  have hb := C.2.1
  unfold f_X8_isClear at hf
  refine lv_iload_n hx hb dX8_isClear_0 rfl (lv_at hl 2 rfl) ?_
  refine lv_aload_n hx hb dX8_isClear_1 rfl (lv_at hl 0 rfl) ?_
  refine gM_0_1 C Z (fl_of C mw_818) dX8_isClear_2 ?_
  refine lv_iload_n hx hb dX8_isClear_5 rfl (lv_at hl 1 rfl) ?_
  by_cases ho6 : oob x1 5 = true
  · rw [if_pos ho6] at hf; cases hf
  rw [if_neg ho6] at hf
  refine r_ald C Z (aM_1 g _ (f := (u.2.1 0)) rfl) ho6 rfl dX8_isClear_6 (x := ((u.2.1 0) (Int32.toNatClampNeg x1))) rfl ?_
  refine lv_icmp_le (tgt := 14) hx hb dX8_isClear_7 (by decide) (fun hc7 => ?_) (fun hc7 => ?_)
  · rw [if_pos hc7] at hf
    refine lv_iconst (v := (-1)) hx hb dX8_isClear_14 (by decide +kernel) ?_
    refine lv_istore_n (lv' := [(3, .int (-1)), (0, .ref (g.2.2 0)), (1, .int x1), (2, .int x2)]) hx hb dX8_isClear_15 rfl hl (by decide) rfl (fun ls hl => ?_)
    refine lv_iload_n hx hb dX8_isClear_16 rfl (lv_at hl 3 rfl) ?_
    refine lv_aload_n hx hb dX8_isClear_17 rfl (lv_at hl 1 rfl) ?_
    refine gM_0_1 C Z (fl_of C mw_818) dX8_isClear_18 ?_
    refine lv_iload_n hx hb dX8_isClear_21 rfl (lv_at hl 2 rfl) ?_
    refine r_ald C Z (aM_1 g _ (f := (u.2.1 0)) rfl) ho6 rfl dX8_isClear_22 (x := ((u.2.1 0) (Int32.toNatClampNeg x1))) rfl ?_
    refine lv_isub hx hb dX8_isClear_23 ?_
    refine lv_iload_n hx hb dX8_isClear_24 rfl (lv_at hl 0 rfl) ?_
    refine lv_imul hx hb dX8_isClear_25 ?_
    refine lv_istore (lv' := [(4, .int ((x2 - ((u.2.1 0) (Int32.toNatClampNeg x1))) * (-1))), (3, .int (-1)), (0, .ref (g.2.2 0)), (1, .int x1), (2, .int x2)]) hx hb dX8_isClear_26 hl (by decide) rfl (fun ls hl => ?_)
    refine lv_iconst (v := 1) hx hb dX8_isClear_28 (by decide +kernel) ?_
    refine lv_istore (lv' := [(5, .int 1), (4, .int ((x2 - ((u.2.1 0) (Int32.toNatClampNeg x1))) * (-1))), (3, .int (-1)), (0, .ref (g.2.2 0)), (1, .int x1), (2, .int x2)]) hx hb dX8_isClear_29 hl (by decide) rfl (fun ls hl => ?_)
    refine lv_iconst (v := 1) hx hb dX8_isClear_31 (by decide +kernel) ?_
    refine lv_istore (lv' := [(6, .int 1), (5, .int 1), (4, .int ((x2 - ((u.2.1 0) (Int32.toNatClampNeg x1))) * (-1))), (3, .int (-1)), (0, .ref (g.2.2 0)), (1, .int x1), (2, .int x2)]) hx hb dX8_isClear_32 hl (by decide) rfl (fun ls hl => ?_)
    refine b_X8_isClear_34 C (fun x5 x6 H locs ls Z hl hf => ?_) FU _ _ _ _ _ Z (lv_sub hl [4, 5, 6, 3, 2, 1, 0] rfl) hf
    refine lv_iload hx hb dX8_isClear_110 (lv_at hl 0 rfl) ?_
    by_cases hn112 : nb x5 = true
    · rw [if_pos hn112] at hf
      have hf := Option.some.inj hf
      subst hf
      exact ret_z C Z hn112 dX8_isClear_112
    · rw [if_neg hn112] at hf
      cases hf
  · rw [if_neg hc7] at hf
    refine lv_iconst (v := 1) hx hb dX8_isClear_10 (by decide +kernel) ?_
    refine lv_goto (tgt := 15) hx hb dX8_isClear_11 (by decide) ?_
    refine lv_istore_n (lv' := [(3, .int 1), (0, .ref (g.2.2 0)), (1, .int x1), (2, .int x2)]) hx hb dX8_isClear_15 rfl hl (by decide) rfl (fun ls hl => ?_)
    refine lv_iload_n hx hb dX8_isClear_16 rfl (lv_at hl 3 rfl) ?_
    refine lv_aload_n hx hb dX8_isClear_17 rfl (lv_at hl 1 rfl) ?_
    refine gM_0_1 C Z (fl_of C mw_818) dX8_isClear_18 ?_
    refine lv_iload_n hx hb dX8_isClear_21 rfl (lv_at hl 2 rfl) ?_
    refine r_ald C Z (aM_1 g _ (f := (u.2.1 0)) rfl) ho6 rfl dX8_isClear_22 (x := ((u.2.1 0) (Int32.toNatClampNeg x1))) rfl ?_
    refine lv_isub hx hb dX8_isClear_23 ?_
    refine lv_iload_n hx hb dX8_isClear_24 rfl (lv_at hl 0 rfl) ?_
    refine lv_imul hx hb dX8_isClear_25 ?_
    refine lv_istore (lv' := [(4, .int ((x2 - ((u.2.1 0) (Int32.toNatClampNeg x1))) * 1)), (3, .int 1), (0, .ref (g.2.2 0)), (1, .int x1), (2, .int x2)]) hx hb dX8_isClear_26 hl (by decide) rfl (fun ls hl => ?_)
    refine lv_iconst (v := 1) hx hb dX8_isClear_28 (by decide +kernel) ?_
    refine lv_istore (lv' := [(5, .int 1), (4, .int ((x2 - ((u.2.1 0) (Int32.toNatClampNeg x1))) * 1)), (3, .int 1), (0, .ref (g.2.2 0)), (1, .int x1), (2, .int x2)]) hx hb dX8_isClear_29 hl (by decide) rfl (fun ls hl => ?_)
    refine lv_iconst (v := 1) hx hb dX8_isClear_31 (by decide +kernel) ?_
    refine lv_istore (lv' := [(6, .int 1), (5, .int 1), (4, .int ((x2 - ((u.2.1 0) (Int32.toNatClampNeg x1))) * 1)), (3, .int 1), (0, .ref (g.2.2 0)), (1, .int x1), (2, .int x2)]) hx hb dX8_isClear_32 hl (by decide) rfl (fun ls hl => ?_)
    refine b_X8_isClear_34 C (fun x5 x6 H locs ls Z hl hf => ?_) FU _ _ _ _ _ Z (lv_sub hl [4, 5, 6, 3, 2, 1, 0] rfl) hf
    refine lv_iload hx hb dX8_isClear_110 (lv_at hl 0 rfl) ?_
    by_cases hn112 : nb x5 = true
    · rw [if_pos hn112] at hf
      have hf := Option.some.inj hf
      subst hf
      exact ret_z C Z hn112 dX8_isClear_112
    · rw [if_neg hn112] at hf
      cases hf
def f_X8_sees (u : St) (x1 x2 x3 : Int32) : Option (Int32) :=
  if oob x1 5 then none else
  Option.bind (f_X8_sideBy ((u.2.1 2) (Int32.toNatClampNeg x1)) ((u.2.1 3) (Int32.toNatClampNeg x1)) x3) fun r13 =>
  if x2 = ((u.2.1 0) (Int32.toNatClampNeg x1)) then
    some 0
  else
    if r13 = 1 then
      if x2 ≤ ((u.2.1 0) (Int32.toNatClampNeg x1)) then
        some 0
      else
        Option.bind (f_X8_isClear u x1 x2) fun r60 =>
        if r60 = 0 then
          some 0
        else
          some 1
    else
      if x2 ≤ ((u.2.1 0) (Int32.toNatClampNeg x1)) then
        Option.bind (f_X8_isClear u x1 x2) fun r60 =>
        if r60 = 0 then
          some 0
        else
          some 1
      else
        some 0
set_option maxHeartbeats 4000000 in
set_option maxRecDepth 100000 in
theorem c_X8_sees (l : Launch) {g : Gx} {u : St} {x1 x2 x3 : Int32} {res : Int32} (hf : f_X8_sees u x1 x2 x3 = some res) : CI wM 22 l yX8_sees (wsY yX8_sees cX8_sees 5 (some .boolean)) (rmX 2 48) g [.ref (g.2.2 0), .int x1, .int x2, .int x3] u res u := by
  refine CI_start (by decide +kernel) rfl (Nat.le_of_ble_eq_true rfl) (fun {p e s m args below meth c ls} C Z hl => ?_)
  have hl : lv_has ls 5 [(0, .ref (g.2.2 0)), (1, .int x1), (2, .int x2), (3, .int x3)] := hl
  have hx := C.1
  have hb := C.2.1
  unfold f_X8_sees at hf
  refine lv_aload_n hx hb dX8_sees_0 rfl (lv_at hl 0 rfl) ?_
  refine gM_0_3 C Z (fl_of C mw_820) dX8_sees_1 ?_
  refine lv_iload_n hx hb dX8_sees_4 rfl (lv_at hl 1 rfl) ?_
  by_cases ho5 : oob x1 5 = true
  · rw [if_pos ho5] at hf; cases hf
  rw [if_neg ho5] at hf
  refine r_ald C Z (aM_3 g _ (f := (u.2.1 2)) rfl) ho5 rfl dX8_sees_5 (x := ((u.2.1 2) (Int32.toNatClampNeg x1))) rfl ?_
  refine lv_aload_n hx hb dX8_sees_6 rfl (lv_at hl 0 rfl) ?_
  refine gM_0_4 C Z (fl_of C mw_821) dX8_sees_7 ?_
  refine lv_iload_n hx hb dX8_sees_10 rfl (lv_at hl 1 rfl) ?_
  refine r_ald C Z (aM_4 g _ (f := (u.2.1 3)) rfl) ho5 rfl dX8_sees_11 (x := ((u.2.1 3) (Int32.toNatClampNeg x1))) rfl ?_
  refine lv_iload_n hx hb dX8_sees_12 rfl (lv_at hl 3 rfl) ?_
  obtain ⟨r13, hr13, hf⟩ := Option.bind_eq_some_iff.mp hf
  refine call_si (As := [.int ((u.2.1 2) (Int32.toNatClampNeg x1)), .int ((u.2.1 3) (Int32.toNatClampNeg x1)), .int x3]) (rest := []) C Z (c_X8_sideBy l hr13) mf_X8_sideBy (ml_of C mw_1014) rfl ⟨rfl, rfl, by decide, by decide⟩ rfl hl.1 (Nat.le_of_ble_eq_true rfl) dX8_sees_13 (fun H locs Z => ?_)
  refine lv_istore (lv' := [(4, .int r13), (0, .ref (g.2.2 0)), (1, .int x1), (2, .int x2), (3, .int x3)]) hx hb dX8_sees_16 hl (by decide) rfl (fun ls hl => ?_)
  refine lv_iload_n hx hb dX8_sees_18 rfl (lv_at hl 3 rfl) ?_
  refine lv_aload_n hx hb dX8_sees_19 rfl (lv_at hl 1 rfl) ?_
  refine gM_0_1 C Z (fl_of C mw_818) dX8_sees_20 ?_
  refine lv_iload_n hx hb dX8_sees_23 rfl (lv_at hl 2 rfl) ?_
  refine r_ald C Z (aM_1 g _ (f := (u.2.1 0)) rfl) ho5 rfl dX8_sees_24 (x := ((u.2.1 0) (Int32.toNatClampNeg x1))) rfl ?_
  refine lv_icmp_eq (tgt := 70) hx hb dX8_sees_25 (by decide) (fun hc25 => ?_) (fun hc25 => ?_)
  · rw [if_pos hc25] at hf
    refine lv_iconst (v := 0) hx hb dX8_sees_70 (by decide +kernel) ?_
    have hf := Option.some.inj hf
    subst hf
    exact ret_z C Z rfl dX8_sees_71
  · rw [if_neg hc25] at hf
    refine lv_iload hx hb dX8_sees_28 (lv_at hl 0 rfl) ?_
    refine lv_iconst (v := 1) hx hb dX8_sees_30 (by decide +kernel) ?_
    refine lv_icmp_ne (tgt := 38) hx hb dX8_sees_31 (by decide) (fun hc31 => ?_) (fun hc31 => ?_)
    · rw [if_neg hc31] at hf
      refine lv_iconst (v := 0) hx hb dX8_sees_38 (by decide +kernel) ?_
      refine lv_iload_n hx hb dX8_sees_39 rfl (lv_at hl 3 rfl) ?_
      refine lv_aload_n hx hb dX8_sees_40 rfl (lv_at hl 1 rfl) ?_
      refine gM_0_1 C Z (fl_of C mw_818) dX8_sees_41 ?_
      refine lv_iload_n hx hb dX8_sees_44 rfl (lv_at hl 2 rfl) ?_
      refine r_ald C Z (aM_1 g _ (f := (u.2.1 0)) rfl) ho5 rfl dX8_sees_45 (x := ((u.2.1 0) (Int32.toNatClampNeg x1))) rfl ?_
      refine lv_icmp_le (tgt := 53) hx hb dX8_sees_46 (by decide) (fun hc46 => ?_) (fun hc46 => ?_)
      · rw [if_pos hc46] at hf
        refine lv_iconst (v := 0) hx hb dX8_sees_53 (by decide +kernel) ?_
        refine lv_icmp_ne (tgt := 70) hx hb dX8_sees_54 (by decide) (fun hq => absurd hq (by decide)) (fun _ => ?_)
        refine lv_aload_n hx hb dX8_sees_57 rfl (lv_at hl 1 rfl) ?_
        refine lv_iload_n hx hb dX8_sees_58 rfl (lv_at hl 2 rfl) ?_
        refine lv_iload_n hx hb dX8_sees_59 rfl (lv_at hl 3 rfl) ?_
        obtain ⟨r60, hr60, hf⟩ := Option.bind_eq_some_iff.mp hf
        refine call_vi (As := [.int x1, .int x2]) (rest := []) C Z (c_X8_isClear l hr60) mf_X8_isClear (ml_of C mw_1072) rfl (oM_0 g _) rfl ⟨rfl, rfl, by decide, by decide⟩ rfl hl.1 (Nat.le_of_ble_eq_true rfl) dX8_sees_60 (fun H locs Z => ?_)
        refine lv_if_eq (tgt := 70) hx hb dX8_sees_63 (by decide) (fun hc63 => ?_) (fun hc63 => ?_)
        · rw [if_pos hc63] at hf
          refine lv_iconst (v := 0) hx hb dX8_sees_70 (by decide +kernel) ?_
          have hf := Option.some.inj hf
          subst hf
          exact ret_z C Z rfl dX8_sees_71
        · rw [if_neg hc63] at hf
          refine lv_iconst (v := 1) hx hb dX8_sees_66 (by decide +kernel) ?_
          refine lv_goto (tgt := 71) hx hb dX8_sees_67 (by decide) ?_
          have hf := Option.some.inj hf
          subst hf
          exact ret_z C Z rfl dX8_sees_71
      · rw [if_neg hc46] at hf
        refine lv_iconst (v := 1) hx hb dX8_sees_49 (by decide +kernel) ?_
        refine lv_goto (tgt := 54) hx hb dX8_sees_50 (by decide) ?_
        refine lv_icmp_ne (tgt := 70) hx hb dX8_sees_54 (by decide) (fun _ => ?_) (fun hq => absurd hq (by decide))
        refine lv_iconst (v := 0) hx hb dX8_sees_70 (by decide +kernel) ?_
        have hf := Option.some.inj hf
        subst hf
        exact ret_z C Z rfl dX8_sees_71
    · rw [if_pos hc31] at hf
      refine lv_iconst (v := 1) hx hb dX8_sees_34 (by decide +kernel) ?_
      refine lv_goto (tgt := 39) hx hb dX8_sees_35 (by decide) ?_
      refine lv_iload_n hx hb dX8_sees_39 rfl (lv_at hl 3 rfl) ?_
      refine lv_aload_n hx hb dX8_sees_40 rfl (lv_at hl 1 rfl) ?_
      refine gM_0_1 C Z (fl_of C mw_818) dX8_sees_41 ?_
      refine lv_iload_n hx hb dX8_sees_44 rfl (lv_at hl 2 rfl) ?_
      refine r_ald C Z (aM_1 g _ (f := (u.2.1 0)) rfl) ho5 rfl dX8_sees_45 (x := ((u.2.1 0) (Int32.toNatClampNeg x1))) rfl ?_
      refine lv_icmp_le (tgt := 53) hx hb dX8_sees_46 (by decide) (fun hc46 => ?_) (fun hc46 => ?_)
      · rw [if_pos hc46] at hf
        refine lv_iconst (v := 0) hx hb dX8_sees_53 (by decide +kernel) ?_
        refine lv_icmp_ne (tgt := 70) hx hb dX8_sees_54 (by decide) (fun _ => ?_) (fun hq => absurd hq (by decide))
        refine lv_iconst (v := 0) hx hb dX8_sees_70 (by decide +kernel) ?_
        have hf := Option.some.inj hf
        subst hf
        exact ret_z C Z rfl dX8_sees_71
      · rw [if_neg hc46] at hf
        refine lv_iconst (v := 1) hx hb dX8_sees_49 (by decide +kernel) ?_
        refine lv_goto (tgt := 54) hx hb dX8_sees_50 (by decide) ?_
        refine lv_icmp_ne (tgt := 70) hx hb dX8_sees_54 (by decide) (fun hq => absurd hq (by decide)) (fun _ => ?_)
        refine lv_aload_n hx hb dX8_sees_57 rfl (lv_at hl 1 rfl) ?_
        refine lv_iload_n hx hb dX8_sees_58 rfl (lv_at hl 2 rfl) ?_
        refine lv_iload_n hx hb dX8_sees_59 rfl (lv_at hl 3 rfl) ?_
        obtain ⟨r60, hr60, hf⟩ := Option.bind_eq_some_iff.mp hf
        refine call_vi (As := [.int x1, .int x2]) (rest := []) C Z (c_X8_isClear l hr60) mf_X8_isClear (ml_of C mw_1072) rfl (oM_0 g _) rfl ⟨rfl, rfl, by decide, by decide⟩ rfl hl.1 (Nat.le_of_ble_eq_true rfl) dX8_sees_60 (fun H locs Z => ?_)
        refine lv_if_eq (tgt := 70) hx hb dX8_sees_63 (by decide) (fun hc63 => ?_) (fun hc63 => ?_)
        · rw [if_pos hc63] at hf
          refine lv_iconst (v := 0) hx hb dX8_sees_70 (by decide +kernel) ?_
          have hf := Option.some.inj hf
          subst hf
          exact ret_z C Z rfl dX8_sees_71
        · rw [if_neg hc63] at hf
          refine lv_iconst (v := 1) hx hb dX8_sees_66 (by decide +kernel) ?_
          refine lv_goto (tgt := 71) hx hb dX8_sees_67 (by decide) ?_
          have hf := Option.some.inj hf
          subst hf
          exact ret_z C Z rfl dX8_sees_71
def L_X8_isSmoke_5 (k : Int32 → Int32 → Option (Int32)) (u : St) (x1 x2 : Int32) : Nat → Int32 → Int32 → Option (Int32)
  | 0, _, _ => none
  | n + 1, x3, x4 =>
    if (u.1 2) ≤ x4 then
      k x3 x4
    else
      if x3 = 0 then
        if oob (3 * x4) 12 then none else
        if ((u.2.1 6) (Int32.toNatClampNeg (3 * x4))) = x1 then
          if oob ((3 * x4) + 1) 12 then none else
          if oob ((3 * x4) + 2) 12 then none else
          Option.bind (f_X8_in x2 ((u.2.1 6) (Int32.toNatClampNeg ((3 * x4) + 1))) ((u.2.1 6) (Int32.toNatClampNeg ((3 * x4) + 2)))) fun r54 =>
          if r54 = 0 then
            L_X8_isSmoke_5 k u x1 x2 n 0 (x4 + 1)
          else
            L_X8_isSmoke_5 k u x1 x2 n 1 (x4 + 1)
        else
          L_X8_isSmoke_5 k u x1 x2 n 0 (x4 + 1)
      else
        L_X8_isSmoke_5 k u x1 x2 n 1 (x4 + 1)
set_option maxHeartbeats 4000000 in
set_option maxRecDepth 100000 in
theorem b_X8_isSmoke_5 {p : Program} {l : Launch} {e : Env} {s : State} {m : MethodId} {args : Array Value} {below : List Frame} {meth : Method} {c : Code} {g : Gx} {u : St} {x1 x2 : Int32} {res : Int32} {k : Int32 → Int32 → Option (Int32)} (C : Cx p s m meth c args cX8_isSmoke RX8 5 (some .boolean) 22 g)
    (hk : ∀ (x3 x4 : Int32) (H : Heap) (locs : List Loc) (ls : Array Slot), Zx wM g (Aw 22 g s.heap.size) s H locs u → lv_has ls 5 [(3, .int x3)] → k x3 x4 = some res → W p l e (rmX 1 22) s m args below meth c H locs 0 0 (QI wM 22 g res u below args s) (F0 m 72 ls [])) :
    ∀ (n : Nat) (x3 x4 : Int32) (H : Heap) (locs : List Loc) (ls : Array Slot), Zx wM g (Aw 22 g s.heap.size) s H locs u → lv_has ls 5 [(0, .ref (g.2.2 0)), (1, .int x1), (2, .int x2), (3, .int x3), (4, .int x4)] → L_X8_isSmoke_5 k u x1 x2 n x3 x4 = some res → W p l e (rmX 1 22) s m args below meth c H locs 0 0 (QI wM 22 g res u below args s) (F0 m 5 ls []) := by
  have hx := C.1
  have hb := C.2.1
  intro n
  induction n with
  | zero =>
    intro x3 x4 H locs ls Z hl hf
    rw [L_X8_isSmoke_5.eq_1] at hf
    cases hf
  | succ n ih =>
    intro x3 x4 H locs ls Z hl hf
    rw [L_X8_isSmoke_5.eq_2] at hf
    refine lv_iload hx hb dX8_isSmoke_5 (lv_at hl 4 rfl) ?_
    refine lv_aload_n hx hb dX8_isSmoke_7 rfl (lv_at hl 0 rfl) ?_
    refine gM_0_8 C Z (fl_of C mw_825) dX8_isSmoke_8 (x := (u.1 2)) rfl ?_
    refine lv_icmp_ge (tgt := 72) hx hb dX8_isSmoke_11 (by decide) (fun hc11 => ?_) (fun hc11 => ?_)
    · rw [if_pos hc11] at hf
      exact hk _ _ H locs ls Z (lv_sub hl [3] rfl) hf
    · rw [if_neg hc11] at hf
      refine lv_iload_n hx hb dX8_isSmoke_14 rfl (lv_at hl 3 rfl) ?_
      refine lv_if_ne (tgt := 60) hx hb dX8_isSmoke_15 (by decide) (fun hc15 => ?_) (fun hc15 => ?_)
      · rw [if_neg hc15] at hf
        refine lv_iconst (v := 1) hx hb dX8_isSmoke_60 (by decide +kernel) ?_
        refine lv_goto (tgt := 65) hx hb dX8_isSmoke_61 (by decide) ?_
        refine lv_istore_n (lv' := [(3, .int 1), (0, .ref (g.2.2 0)), (1, .int x1), (2, .int x2), (4, .int x4)]) hx hb dX8_isSmoke_65 rfl hl (by decide) rfl (fun ls hl => ?_)
        refine lv_iinc (v := (x4 + 1)) (lv' := [(4, .int (x4 + 1)), (3, .int 1), (0, .ref (g.2.2 0)), (1, .int x1), (2, .int x2)]) hx hb dX8_isSmoke_66 hl (k := 4) rfl rfl (by decide) rfl (fun ls hl => ?_)
        refine lv_goto (tgt := 5) hx hb dX8_isSmoke_69 (by decide) ?_
        exact ih _ _ _ _ _ Z (lv_sub hl [2, 3, 4, 1, 0] rfl) hf
      · rw [if_pos hc15] at hf
        refine lv_aload_n hx hb dX8_isSmoke_18 rfl (lv_at hl 0 rfl) ?_
        refine gM_0_9 C Z (fl_of C mw_826) dX8_isSmoke_19 ?_
        refine lv_iconst (v := 3) hx hb dX8_isSmoke_22 (by decide +kernel) ?_
        refine lv_iload hx hb dX8_isSmoke_23 (lv_at hl 4 rfl) ?_
        refine lv_imul hx hb dX8_isSmoke_25 ?_
        by_cases ho26 : oob (3 * x4) 12 = true
        · rw [if_pos ho26] at hf; cases hf
        rw [if_neg ho26] at hf
        refine r_ald C Z (aM_7 g _ (f := (u.2.1 6)) rfl) ho26 rfl dX8_isSmoke_26 (x := ((u.2.1 6) (Int32.toNatClampNeg (3 * x4)))) rfl ?_
        refine lv_iload_n hx hb dX8_isSmoke_27 rfl (lv_at hl 1 rfl) ?_
        refine lv_icmp_ne (tgt := 64) hx hb dX8_isSmoke_28 (by decide) (fun hc28 => ?_) (fun hc28 => ?_)
        · rw [if_neg hc28] at hf
          refine lv_iconst (v := 0) hx hb dX8_isSmoke_64 (by decide +kernel) ?_
          refine lv_istore_n (lv' := [(3, .int 0), (0, .ref (g.2.2 0)), (1, .int x1), (2, .int x2), (4, .int x4)]) hx hb dX8_isSmoke_65 rfl hl (by decide) rfl (fun ls hl => ?_)
          refine lv_iinc (v := (x4 + 1)) (lv' := [(4, .int (x4 + 1)), (3, .int 0), (0, .ref (g.2.2 0)), (1, .int x1), (2, .int x2)]) hx hb dX8_isSmoke_66 hl (k := 4) rfl rfl (by decide) rfl (fun ls hl => ?_)
          refine lv_goto (tgt := 5) hx hb dX8_isSmoke_69 (by decide) ?_
          exact ih _ _ _ _ _ Z (lv_sub hl [2, 3, 4, 1, 0] rfl) hf
        · rw [if_pos hc28] at hf
          refine lv_iload_n hx hb dX8_isSmoke_31 rfl (lv_at hl 2 rfl) ?_
          refine lv_aload_n hx hb dX8_isSmoke_32 rfl (lv_at hl 0 rfl) ?_
          refine gM_0_9 C Z (fl_of C mw_826) dX8_isSmoke_33 ?_
          refine lv_iconst (v := 3) hx hb dX8_isSmoke_36 (by decide +kernel) ?_
          refine lv_iload hx hb dX8_isSmoke_37 (lv_at hl 4 rfl) ?_
          refine lv_imul hx hb dX8_isSmoke_39 ?_
          refine lv_iconst (v := 1) hx hb dX8_isSmoke_40 (by decide +kernel) ?_
          refine lv_iadd hx hb dX8_isSmoke_41 ?_
          by_cases ho42 : oob ((3 * x4) + 1) 12 = true
          · rw [if_pos ho42] at hf; cases hf
          rw [if_neg ho42] at hf
          refine r_ald C Z (aM_7 g _ (f := (u.2.1 6)) rfl) ho42 rfl dX8_isSmoke_42 (x := ((u.2.1 6) (Int32.toNatClampNeg ((3 * x4) + 1)))) rfl ?_
          refine lv_aload_n hx hb dX8_isSmoke_43 rfl (lv_at hl 0 rfl) ?_
          refine gM_0_9 C Z (fl_of C mw_826) dX8_isSmoke_44 ?_
          refine lv_iconst (v := 3) hx hb dX8_isSmoke_47 (by decide +kernel) ?_
          refine lv_iload hx hb dX8_isSmoke_48 (lv_at hl 4 rfl) ?_
          refine lv_imul hx hb dX8_isSmoke_50 ?_
          refine lv_iconst (v := 2) hx hb dX8_isSmoke_51 (by decide +kernel) ?_
          refine lv_iadd hx hb dX8_isSmoke_52 ?_
          by_cases ho53 : oob ((3 * x4) + 2) 12 = true
          · rw [if_pos ho53] at hf; cases hf
          rw [if_neg ho53] at hf
          refine r_ald C Z (aM_7 g _ (f := (u.2.1 6)) rfl) ho53 rfl dX8_isSmoke_53 (x := ((u.2.1 6) (Int32.toNatClampNeg ((3 * x4) + 2)))) rfl ?_
          obtain ⟨r54, hr54, hf⟩ := Option.bind_eq_some_iff.mp hf
          refine call_si (As := [.int x2, .int ((u.2.1 6) (Int32.toNatClampNeg ((3 * x4) + 1))), .int ((u.2.1 6) (Int32.toNatClampNeg ((3 * x4) + 2)))]) (rest := []) C Z (c_X8_in l hr54) mf_X8_in (ml_of C mw_934) rfl ⟨rfl, rfl, by decide, by decide⟩ rfl hl.1 (Nat.le_of_ble_eq_true rfl) dX8_isSmoke_54 (fun H locs Z => ?_)
          refine lv_if_eq (tgt := 64) hx hb dX8_isSmoke_57 (by decide) (fun hc57 => ?_) (fun hc57 => ?_)
          · rw [if_pos hc57] at hf
            refine lv_iconst (v := 0) hx hb dX8_isSmoke_64 (by decide +kernel) ?_
            refine lv_istore_n (lv' := [(3, .int 0), (0, .ref (g.2.2 0)), (1, .int x1), (2, .int x2), (4, .int x4)]) hx hb dX8_isSmoke_65 rfl hl (by decide) rfl (fun ls hl => ?_)
            refine lv_iinc (v := (x4 + 1)) (lv' := [(4, .int (x4 + 1)), (3, .int 0), (0, .ref (g.2.2 0)), (1, .int x1), (2, .int x2)]) hx hb dX8_isSmoke_66 hl (k := 4) rfl rfl (by decide) rfl (fun ls hl => ?_)
            refine lv_goto (tgt := 5) hx hb dX8_isSmoke_69 (by decide) ?_
            exact ih _ _ _ _ _ Z (lv_sub hl [2, 3, 4, 1, 0] rfl) hf
          · rw [if_neg hc57] at hf
            refine lv_iconst (v := 1) hx hb dX8_isSmoke_60 (by decide +kernel) ?_
            refine lv_goto (tgt := 65) hx hb dX8_isSmoke_61 (by decide) ?_
            refine lv_istore_n (lv' := [(3, .int 1), (0, .ref (g.2.2 0)), (1, .int x1), (2, .int x2), (4, .int x4)]) hx hb dX8_isSmoke_65 rfl hl (by decide) rfl (fun ls hl => ?_)
            refine lv_iinc (v := (x4 + 1)) (lv' := [(4, .int (x4 + 1)), (3, .int 1), (0, .ref (g.2.2 0)), (1, .int x1), (2, .int x2)]) hx hb dX8_isSmoke_66 hl (k := 4) rfl rfl (by decide) rfl (fun ls hl => ?_)
            refine lv_goto (tgt := 5) hx hb dX8_isSmoke_69 (by decide) ?_
            exact ih _ _ _ _ _ Z (lv_sub hl [2, 3, 4, 1, 0] rfl) hf
def f_X8_isSmoke (u : St) (x1 x2 : Int32) : Option (Int32) :=
  L_X8_isSmoke_5 (fun x3 x4 =>
    if nb x3 then some x3 else none) u x1 x2 FU 0 0
set_option maxHeartbeats 4000000 in
set_option maxRecDepth 100000 in
theorem c_X8_isSmoke (l : Launch) {g : Gx} {u : St} {x1 x2 : Int32} {res : Int32} (hf : f_X8_isSmoke u x1 x2 = some res) : CI wM 22 l yX8_isSmoke (wsY yX8_isSmoke cX8_isSmoke 5 (some .boolean)) (rmX 1 22) g [.ref (g.2.2 0), .int x1, .int x2] u res u := by
  refine CI_start (by decide +kernel) rfl (Nat.le_of_ble_eq_true rfl) (fun {p e s m args below meth c ls} C Z hl => ?_)
  have hl : lv_has ls 5 [(0, .ref (g.2.2 0)), (1, .int x1), (2, .int x2)] := hl
  have hx := C.1
  have hb := C.2.1
  unfold f_X8_isSmoke at hf
  refine lv_iconst (v := 0) hx hb dX8_isSmoke_0 (by decide +kernel) ?_
  refine lv_istore_n (lv' := [(3, .int 0), (0, .ref (g.2.2 0)), (1, .int x1), (2, .int x2)]) hx hb dX8_isSmoke_1 rfl hl (by decide) rfl (fun ls hl => ?_)
  refine lv_iconst (v := 0) hx hb dX8_isSmoke_2 (by decide +kernel) ?_
  refine lv_istore (lv' := [(4, .int 0), (3, .int 0), (0, .ref (g.2.2 0)), (1, .int x1), (2, .int x2)]) hx hb dX8_isSmoke_3 hl (by decide) rfl (fun ls hl => ?_)
  refine b_X8_isSmoke_5 C (fun x3 x4 H locs ls Z hl hf => ?_) FU _ _ _ _ _ Z (lv_sub hl [2, 3, 4, 1, 0] rfl) hf
  refine lv_iload_n hx hb dX8_isSmoke_72 rfl (lv_at hl 0 rfl) ?_
  by_cases hn73 : nb x3 = true
  · rw [if_pos hn73] at hf
    have hf := Option.some.inj hf
    subst hf
    exact ret_z C Z hn73 dX8_isSmoke_73
  · rw [if_neg hn73] at hf
    cases hf
