def L_X1_isSmoky_2 (k : Int32 → Option (Int32)) (u : St) (x1 x2 : Int32) : Nat → Int32 → Option (Int32)
  | 0, _ => none
  | n + 1, x3 =>
    if (u.1 9) ≤ x3 then
      k x3
    else
      if oob x3 4 then none else
      if ((u.2.1 (26 + (Int32.toNatClampNeg x3))) 0) = x1 then
        Option.bind (f_X7_isWithin x2 ((u.2.1 (26 + (Int32.toNatClampNeg x3))) 1) ((u.2.1 (26 + (Int32.toNatClampNeg x3))) 2)) fun r39 =>
        if r39 = 0 then
          L_X1_isSmoky_2 k u x1 x2 n (x3 + 1)
        else
          some 1
      else
        L_X1_isSmoky_2 k u x1 x2 n (x3 + 1)
set_option maxHeartbeats 4000000 in
set_option maxRecDepth 100000 in
theorem b_X1_isSmoky_2 {p : Program} {l : Launch} {e : Env} {s : State} {m : MethodId} {args : Array Value} {below : List Frame} {meth : Method} {c : Code} {g : Gx} {u : St} {x1 x2 : Int32} {res : Int32} {k : Int32 → Option (Int32)} (C : Cx p s m meth c args cX1_isSmoky RX1 4 (some .boolean) 82 g)
    (hk : ∀ (x3 : Int32) (H : Heap) (locs : List Loc) (ls : Array Slot), Zx wC g (Aw 82 g s.heap.size) s H locs u → lv_has ls 4 [] → k x3 = some res → W p l e (rmX 1 22) s m args below meth c H locs 0 0 (QI wC 82 g res u below args s) (F0 m 53 ls [])) :
    ∀ (n : Nat) (x3 : Int32) (H : Heap) (locs : List Loc) (ls : Array Slot), Zx wC g (Aw 82 g s.heap.size) s H locs u → lv_has ls 4 [(0, .ref (g.2.2 24)), (1, .int x1), (2, .int x2), (3, .int x3)] → L_X1_isSmoky_2 k u x1 x2 n x3 = some res → W p l e (rmX 1 22) s m args below meth c H locs 0 0 (QI wC 82 g res u below args s) (F0 m 2 ls []) := by
  have hx := C.1
  have hb := C.2.1
  intro n
  induction n with
  | zero =>
    intro x3 H locs ls Z hl hf
    rw [L_X1_isSmoky_2.eq_1] at hf
    cases hf
  | succ n ih =>
    intro x3 H locs ls Z hl hf
    rw [L_X1_isSmoky_2.eq_2] at hf
    refine lv_iload_n hx hb dX1_isSmoky_2 rfl (lv_at hl 3 rfl) ?_
    refine lv_aload_n hx hb dX1_isSmoky_3 rfl (lv_at hl 0 rfl) ?_
    refine gC_24_6 C Z (fl_of C mw_177) dX1_isSmoky_4 (x := (u.1 9)) rfl ?_
    refine lv_icmp_ge (tgt := 53) hx hb dX1_isSmoky_7 (by decide) (fun hc7 => ?_) (fun hc7 => ?_)
    · rw [if_pos hc7] at hf
      exact hk _ H locs ls Z (lv_sub hl [] rfl) hf
    · rw [if_neg hc7] at hf
      refine lv_aload_n hx hb dX1_isSmoky_10 rfl (lv_at hl 0 rfl) ?_
      refine gC_24_3 C Z (fl_of C mw_168) dX1_isSmoky_11 ?_
      refine lv_iload_n hx hb dX1_isSmoky_14 rfl (lv_at hl 3 rfl) ?_
      by_cases ho15 : oob x3 4 = true
      · rw [if_pos ho15] at hf; cases hf
      rw [if_neg ho15] at hf
      refine r_aldr C Z (aC_37 g _) ho15 dX1_isSmoky_15 (b := g.2.2 (38 + (Int32.toNatClampNeg x3))) rfl ?_
      refine lv_iconst (v := 0) hx hb dX1_isSmoky_16 (by decide +kernel) ?_
      refine r_ald C Z (arC_37 g _ (oob_lt ho15) (f := (u.2.1 (26 + (Int32.toNatClampNeg x3)))) rfl) (by decide) (k := 0) (by decide) dX1_isSmoky_17 (x := ((u.2.1 (26 + (Int32.toNatClampNeg x3))) 0)) rfl ?_
      refine lv_iload_n hx hb dX1_isSmoky_18 rfl (lv_at hl 1 rfl) ?_
      refine lv_icmp_ne (tgt := 47) hx hb dX1_isSmoky_19 (by decide) (fun hc19 => ?_) (fun hc19 => ?_)
      · rw [if_neg hc19] at hf
        refine lv_iinc (v := (x3 + 1)) (lv' := [(3, .int (x3 + 1)), (0, .ref (g.2.2 24)), (1, .int x1), (2, .int x2)]) hx hb dX1_isSmoky_47 hl (k := 3) rfl rfl (by decide) rfl (fun ls hl => ?_)
        refine lv_goto (tgt := 2) hx hb dX1_isSmoky_50 (by decide) ?_
        exact ih _ _ _ _ Z (lv_sub hl [1, 2, 3, 0] rfl) hf
      · rw [if_pos hc19] at hf
        refine lv_iload_n hx hb dX1_isSmoky_22 rfl (lv_at hl 2 rfl) ?_
        refine lv_aload_n hx hb dX1_isSmoky_23 rfl (lv_at hl 0 rfl) ?_
        refine gC_24_3 C Z (fl_of C mw_168) dX1_isSmoky_24 ?_
        refine lv_iload_n hx hb dX1_isSmoky_27 rfl (lv_at hl 3 rfl) ?_
        refine r_aldr C Z (aC_37 g _) ho15 dX1_isSmoky_28 (b := g.2.2 (38 + (Int32.toNatClampNeg x3))) rfl ?_
        refine lv_iconst (v := 1) hx hb dX1_isSmoky_29 (by decide +kernel) ?_
        refine r_ald C Z (arC_37 g _ (oob_lt ho15) (f := (u.2.1 (26 + (Int32.toNatClampNeg x3)))) rfl) (by decide) (k := 1) (by decide) dX1_isSmoky_30 (x := ((u.2.1 (26 + (Int32.toNatClampNeg x3))) 1)) rfl ?_
        refine lv_aload_n hx hb dX1_isSmoky_31 rfl (lv_at hl 0 rfl) ?_
        refine gC_24_3 C Z (fl_of C mw_168) dX1_isSmoky_32 ?_
        refine lv_iload_n hx hb dX1_isSmoky_35 rfl (lv_at hl 3 rfl) ?_
        refine r_aldr C Z (aC_37 g _) ho15 dX1_isSmoky_36 (b := g.2.2 (38 + (Int32.toNatClampNeg x3))) rfl ?_
        refine lv_iconst (v := 2) hx hb dX1_isSmoky_37 (by decide +kernel) ?_
        refine r_ald C Z (arC_37 g _ (oob_lt ho15) (f := (u.2.1 (26 + (Int32.toNatClampNeg x3)))) rfl) (by decide) (k := 2) (by decide) dX1_isSmoky_38 (x := ((u.2.1 (26 + (Int32.toNatClampNeg x3))) 2)) rfl ?_
        obtain ⟨r39, hr39, hf⟩ := Option.bind_eq_some_iff.mp hf
        refine call_si (As := [.int x2, .int ((u.2.1 (26 + (Int32.toNatClampNeg x3))) 1), .int ((u.2.1 (26 + (Int32.toNatClampNeg x3))) 2)]) (rest := []) C Z (c_X7_isWithin l hr39) mf_X7_isWithin (ml_nest C nw_38) rfl ⟨rfl, rfl, by decide, by decide⟩ rfl hl.1 (Nat.le_of_ble_eq_true rfl) dX1_isSmoky_39 (fun H locs Z => ?_)
        refine lv_if_eq (tgt := 47) hx hb dX1_isSmoky_42 (by decide) (fun hc42 => ?_) (fun hc42 => ?_)
        · rw [if_pos hc42] at hf
          refine lv_iinc (v := (x3 + 1)) (lv' := [(3, .int (x3 + 1)), (0, .ref (g.2.2 24)), (1, .int x1), (2, .int x2)]) hx hb dX1_isSmoky_47 hl (k := 3) rfl rfl (by decide) rfl (fun ls hl => ?_)
          refine lv_goto (tgt := 2) hx hb dX1_isSmoky_50 (by decide) ?_
          exact ih _ _ _ _ Z (lv_sub hl [1, 2, 3, 0] rfl) hf
        · rw [if_neg hc42] at hf
          refine lv_iconst (v := 1) hx hb dX1_isSmoky_45 (by decide +kernel) ?_
          have hf := Option.some.inj hf
          subst hf
          exact ret_z C Z rfl dX1_isSmoky_46
def f_X1_isSmoky (u : St) (x1 x2 : Int32) : Option (Int32) :=
  L_X1_isSmoky_2 (fun x3 =>
    some 0) u x1 x2 FU 0
set_option maxHeartbeats 4000000 in
set_option maxRecDepth 100000 in
theorem c_X1_isSmoky (l : Launch) {g : Gx} {u : St} {x1 x2 : Int32} {res : Int32} (hf : f_X1_isSmoky u x1 x2 = some res) : CI wC 82 l yX1_isSmoky (wsY yX1_isSmoky cX1_isSmoky 4 (some .boolean)) (rmX 1 22) g [.ref (g.2.2 24), .int x1, .int x2] u res u := by
  refine CI_start (by decide +kernel) rfl (Nat.le_of_ble_eq_true rfl) (fun {p e s m args below meth c ls} C Z hl => ?_)
  have hl : lv_has ls 4 [(0, .ref (g.2.2 24)), (1, .int x1), (2, .int x2)] := hl
  have hx := C.1
  have hb := C.2.1
  unfold f_X1_isSmoky at hf
  refine lv_iconst (v := 0) hx hb dX1_isSmoky_0 (by decide +kernel) ?_
  refine lv_istore_n (lv' := [(3, .int 0), (0, .ref (g.2.2 24)), (1, .int x1), (2, .int x2)]) hx hb dX1_isSmoky_1 rfl hl (by decide) rfl (fun ls hl => ?_)
  refine b_X1_isSmoky_2 C (fun x3 H locs ls Z hl hf => ?_) FU _ _ _ _ Z (lv_sub hl [1, 2, 3, 0] rfl) hf
  refine lv_iconst (v := 0) hx hb dX1_isSmoky_53 (by decide +kernel) ?_
  have hf := Option.some.inj hf
  subst hf
  exact ret_z C Z rfl dX1_isSmoky_54
def L_X6_isLineFree_36 (k : Int32 → Option (Int32)) (u : St) (x1 x2 x4 x5 x6 : Int32) : Nat → Int32 → Option (Int32)
  | 0, _ => none
  | n + 1, x7 =>
    if x5 ≤ x7 then
      k x7
    else
      if oob (x1 + (x7 * x4)) 24 then none else
      if (((u.2.1 30) (Int32.toNatClampNeg (x1 + (x7 * x4)))) * x5) ≤ ((x2 * x5) + (x6 * x7)) then
        L_X6_isLineFree_36 k u x1 x2 x4 x5 x6 n (x7 + 1)
      else
        some 0
set_option maxHeartbeats 4000000 in
set_option maxRecDepth 100000 in
theorem b_X6_isLineFree_36 {p : Program} {l : Launch} {e : Env} {s : State} {m : MethodId} {args : Array Value} {below : List Frame} {meth : Method} {c : Code} {g : Gx} {u : St} {x1 x2 x4 x5 x6 : Int32} {res : Int32} {k : Int32 → Option (Int32)} (C : Cx p s m meth c args cX6_isLineFree RX6 9 (some .boolean) 82 g)
    (hk : ∀ (x7 : Int32) (H : Heap) (locs : List Loc) (ls : Array Slot), Zx wC g (Aw 82 g s.heap.size) s H locs u → lv_has ls 9 [] → k x7 = some res → W p l e (rmX 1 24) s m args below meth c H locs 0 0 (QI wC 82 g res u below args s) (F0 m 86 ls [])) :
    ∀ (n : Nat) (x7 : Int32) (H : Heap) (locs : List Loc) (ls : Array Slot), Zx wC g (Aw 82 g s.heap.size) s H locs u → lv_has ls 9 [(0, .ref (g.2.2 23)), (1, .int x1), (2, .int x2), (4, .int x4), (5, .int x5), (6, .int x6), (7, .int x7)] → L_X6_isLineFree_36 k u x1 x2 x4 x5 x6 n x7 = some res → W p l e (rmX 1 24) s m args below meth c H locs 0 0 (QI wC 82 g res u below args s) (F0 m 36 ls []) := by
  have hx := C.1
  have hb := C.2.1
  intro n
  induction n with
  | zero =>
    intro x7 H locs ls Z hl hf
    rw [L_X6_isLineFree_36.eq_1] at hf
    cases hf
  | succ n ih =>
    intro x7 H locs ls Z hl hf
    rw [L_X6_isLineFree_36.eq_2] at hf
    refine lv_iload hx hb dX6_isLineFree_36 (lv_at hl 6 rfl) ?_
    refine lv_iload hx hb dX6_isLineFree_38 (lv_at hl 4 rfl) ?_
    refine lv_icmp_ge (tgt := 86) hx hb dX6_isLineFree_40 (by decide) (fun hc40 => ?_) (fun hc40 => ?_)
    · rw [if_pos hc40] at hf
      exact hk _ H locs ls Z (lv_sub hl [] rfl) hf
    · rw [if_neg hc40] at hf
      refine lv_iload_n hx hb dX6_isLineFree_43 rfl (lv_at hl 2 rfl) ?_
      refine lv_iload hx hb dX6_isLineFree_44 (lv_at hl 4 rfl) ?_
      refine lv_imul hx hb dX6_isLineFree_46 ?_
      refine lv_iload hx hb dX6_isLineFree_47 (lv_at hl 5 rfl) ?_
      refine lv_iload hx hb dX6_isLineFree_49 (lv_at hl 6 rfl) ?_
      refine lv_imul hx hb dX6_isLineFree_51 ?_
      refine lv_iadd hx hb dX6_isLineFree_52 ?_
      refine lv_istore (lv' := [(8, .int ((x2 * x5) + (x6 * x7))), (0, .ref (g.2.2 23)), (1, .int x1), (2, .int x2), (4, .int x4), (5, .int x5), (6, .int x6), (7, .int x7)]) hx hb dX6_isLineFree_53 hl (by decide) rfl (fun ls hl => ?_)
      refine lv_aload_n hx hb dX6_isLineFree_55 rfl (lv_at hl 1 rfl) ?_
      refine gC_23_1 C Z (fl_of C mw_256) dX6_isLineFree_56 ?_
      refine gC_42_2 C Z (fl_nest C nw_92) dX6_isLineFree_59 ?_
      refine lv_iload_n hx hb dX6_isLineFree_62 rfl (lv_at hl 2 rfl) ?_
      refine lv_iload hx hb dX6_isLineFree_63 (lv_at hl 7 rfl) ?_
      refine lv_iload hx hb dX6_isLineFree_65 (lv_at hl 4 rfl) ?_
      refine lv_imul hx hb dX6_isLineFree_67 ?_
      refine lv_iadd hx hb dX6_isLineFree_68 ?_
      by_cases ho69 : oob (x1 + (x7 * x4)) 24 = true
      · rw [if_pos ho69] at hf; cases hf
      rw [if_neg ho69] at hf
      refine r_ald C Z (aC_43 g _ (f := (u.2.1 30)) rfl) ho69 rfl dX6_isLineFree_69 (x := ((u.2.1 30) (Int32.toNatClampNeg (x1 + (x7 * x4))))) rfl ?_
      refine lv_iload hx hb dX6_isLineFree_70 (lv_at hl 5 rfl) ?_
      refine lv_imul hx hb dX6_isLineFree_72 ?_
      refine lv_iload hx hb dX6_isLineFree_73 (lv_at hl 0 rfl) ?_
      refine lv_icmp_le (tgt := 80) hx hb dX6_isLineFree_75 (by decide) (fun hc75 => ?_) (fun hc75 => ?_)
      · rw [if_pos hc75] at hf
        refine lv_iinc (v := (x7 + 1)) (lv' := [(7, .int (x7 + 1)), (8, .int ((x2 * x5) + (x6 * x7))), (0, .ref (g.2.2 23)), (1, .int x1), (2, .int x2), (4, .int x4), (5, .int x5), (6, .int x6)]) hx hb dX6_isLineFree_80 hl (k := 7) rfl rfl (by decide) rfl (fun ls hl => ?_)
        refine lv_goto (tgt := 36) hx hb dX6_isLineFree_83 (by decide) ?_
        exact ih _ _ _ _ Z (lv_sub hl [2, 3, 4, 5, 6, 7, 0] rfl) hf
      · rw [if_neg hc75] at hf
        refine lv_iconst (v := 0) hx hb dX6_isLineFree_78 (by decide +kernel) ?_
        have hf := Option.some.inj hf
        subst hf
        exact ret_z C Z rfl dX6_isLineFree_79
def f_X6_isLineFree (u : St) (x1 x2 x3 : Int32) : Option (Int32) :=
  if x3 ≤ x1 then
    if oob x3 24 then none else
    L_X6_isLineFree_36 (fun x7 =>
      some 1) u x1 x2 (-1) (if 0 ≤ (x3 - x1) then (x3 - x1) else 0 - (x3 - x1)) (((u.2.1 30) (Int32.toNatClampNeg x3)) - x2) FU 1
  else
    if oob x3 24 then none else
    L_X6_isLineFree_36 (fun x7 =>
      some 1) u x1 x2 1 (if 0 ≤ (x3 - x1) then (x3 - x1) else 0 - (x3 - x1)) (((u.2.1 30) (Int32.toNatClampNeg x3)) - x2) FU 1
set_option maxHeartbeats 4000000 in
set_option maxRecDepth 100000 in
theorem c_X6_isLineFree (l : Launch) {g : Gx} {u : St} {x1 x2 x3 : Int32} {res : Int32} (hf : f_X6_isLineFree u x1 x2 x3 = some res) : CI wC 82 l yX6_isLineFree (wsY yX6_isLineFree cX6_isLineFree 9 (some .boolean)) (rmX 1 24) g [.ref (g.2.2 23), .int x1, .int x2, .int x3] u res u := by
  refine CI_start (by decide +kernel) rfl (Nat.le_of_ble_eq_true rfl) (fun {p e s m args below meth c ls} C Z hl => ?_)
  have hl : lv_has ls 9 [(0, .ref (g.2.2 23)), (1, .int x1), (2, .int x2), (3, .int x3)] := hl
  have hx := C.1
  have hb := C.2.1
  unfold f_X6_isLineFree at hf
  refine lv_iload_n hx hb dX6_isLineFree_0 rfl (lv_at hl 3 rfl) ?_
  refine lv_iload_n hx hb dX6_isLineFree_1 rfl (lv_at hl 1 rfl) ?_
  refine lv_icmp_le (tgt := 9) hx hb dX6_isLineFree_2 (by decide) (fun hc2 => ?_) (fun hc2 => ?_)
  · rw [if_pos hc2] at hf
    refine lv_iconst (v := (-1)) hx hb dX6_isLineFree_9 (by decide +kernel) ?_
    refine lv_istore (lv' := [(4, .int (-1)), (0, .ref (g.2.2 23)), (1, .int x1), (2, .int x2), (3, .int x3)]) hx hb dX6_isLineFree_10 hl (by decide) rfl (fun ls hl => ?_)
    refine lv_iload_n hx hb dX6_isLineFree_12 rfl (lv_at hl 4 rfl) ?_
    refine lv_iload_n hx hb dX6_isLineFree_13 rfl (lv_at hl 2 rfl) ?_
    refine lv_isub hx hb dX6_isLineFree_14 ?_
    refine r_abs C mw_569 ⟨⟨mw_570, mw_109⟩, mw_571⟩ hl.1 (by decide) (Nat.le_of_ble_eq_true rfl) dX6_isLineFree_15 ?_
    refine lv_istore (lv' := [(5, .int (if 0 ≤ (x3 - x1) then (x3 - x1) else 0 - (x3 - x1))), (4, .int (-1)), (0, .ref (g.2.2 23)), (1, .int x1), (2, .int x2), (3, .int x3)]) hx hb dX6_isLineFree_18 hl (by decide) rfl (fun ls hl => ?_)
    refine lv_aload_n hx hb dX6_isLineFree_20 rfl (lv_at hl 2 rfl) ?_
    refine gC_23_1 C Z (fl_of C mw_256) dX6_isLineFree_21 ?_
    refine gC_42_2 C Z (fl_nest C nw_92) dX6_isLineFree_24 ?_
    refine lv_iload_n hx hb dX6_isLineFree_27 rfl (lv_at hl 5 rfl) ?_
    by_cases ho28 : oob x3 24 = true
    · rw [if_pos ho28] at hf; cases hf
    rw [if_neg ho28] at hf
    refine r_ald C Z (aC_43 g _ (f := (u.2.1 30)) rfl) ho28 rfl dX6_isLineFree_28 (x := ((u.2.1 30) (Int32.toNatClampNeg x3))) rfl ?_
    refine lv_iload_n hx hb dX6_isLineFree_29 rfl (lv_at hl 4 rfl) ?_
    refine lv_isub hx hb dX6_isLineFree_30 ?_
    refine lv_istore (lv' := [(6, .int (((u.2.1 30) (Int32.toNatClampNeg x3)) - x2)), (5, .int (if 0 ≤ (x3 - x1) then (x3 - x1) else 0 - (x3 - x1))), (4, .int (-1)), (0, .ref (g.2.2 23)), (1, .int x1), (2, .int x2), (3, .int x3)]) hx hb dX6_isLineFree_31 hl (by decide) rfl (fun ls hl => ?_)
    refine lv_iconst (v := 1) hx hb dX6_isLineFree_33 (by decide +kernel) ?_
    refine lv_istore (lv' := [(7, .int 1), (6, .int (((u.2.1 30) (Int32.toNatClampNeg x3)) - x2)), (5, .int (if 0 ≤ (x3 - x1) then (x3 - x1) else 0 - (x3 - x1))), (4, .int (-1)), (0, .ref (g.2.2 23)), (1, .int x1), (2, .int x2), (3, .int x3)]) hx hb dX6_isLineFree_34 hl (by decide) rfl (fun ls hl => ?_)
    refine b_X6_isLineFree_36 C (fun x7 H locs ls Z hl hf => ?_) FU _ _ _ _ Z (lv_sub hl [4, 5, 6, 3, 2, 1, 0] rfl) hf
    refine lv_iconst (v := 1) hx hb dX6_isLineFree_86 (by decide +kernel) ?_
    have hf := Option.some.inj hf
    subst hf
    exact ret_z C Z rfl dX6_isLineFree_87
  · rw [if_neg hc2] at hf
    refine lv_iconst (v := 1) hx hb dX6_isLineFree_5 (by decide +kernel) ?_
    refine lv_goto (tgt := 10) hx hb dX6_isLineFree_6 (by decide) ?_
    refine lv_istore (lv' := [(4, .int 1), (0, .ref (g.2.2 23)), (1, .int x1), (2, .int x2), (3, .int x3)]) hx hb dX6_isLineFree_10 hl (by decide) rfl (fun ls hl => ?_)
    refine lv_iload_n hx hb dX6_isLineFree_12 rfl (lv_at hl 4 rfl) ?_
    refine lv_iload_n hx hb dX6_isLineFree_13 rfl (lv_at hl 2 rfl) ?_
    refine lv_isub hx hb dX6_isLineFree_14 ?_
    refine r_abs C mw_569 ⟨⟨mw_570, mw_109⟩, mw_571⟩ hl.1 (by decide) (Nat.le_of_ble_eq_true rfl) dX6_isLineFree_15 ?_
    refine lv_istore (lv' := [(5, .int (if 0 ≤ (x3 - x1) then (x3 - x1) else 0 - (x3 - x1))), (4, .int 1), (0, .ref (g.2.2 23)), (1, .int x1), (2, .int x2), (3, .int x3)]) hx hb dX6_isLineFree_18 hl (by decide) rfl (fun ls hl => ?_)
    refine lv_aload_n hx hb dX6_isLineFree_20 rfl (lv_at hl 2 rfl) ?_
    refine gC_23_1 C Z (fl_of C mw_256) dX6_isLineFree_21 ?_
    refine gC_42_2 C Z (fl_nest C nw_92) dX6_isLineFree_24 ?_
    refine lv_iload_n hx hb dX6_isLineFree_27 rfl (lv_at hl 5 rfl) ?_
    by_cases ho28 : oob x3 24 = true
    · rw [if_pos ho28] at hf; cases hf
    rw [if_neg ho28] at hf
    refine r_ald C Z (aC_43 g _ (f := (u.2.1 30)) rfl) ho28 rfl dX6_isLineFree_28 (x := ((u.2.1 30) (Int32.toNatClampNeg x3))) rfl ?_
    refine lv_iload_n hx hb dX6_isLineFree_29 rfl (lv_at hl 4 rfl) ?_
    refine lv_isub hx hb dX6_isLineFree_30 ?_
    refine lv_istore (lv' := [(6, .int (((u.2.1 30) (Int32.toNatClampNeg x3)) - x2)), (5, .int (if 0 ≤ (x3 - x1) then (x3 - x1) else 0 - (x3 - x1))), (4, .int 1), (0, .ref (g.2.2 23)), (1, .int x1), (2, .int x2), (3, .int x3)]) hx hb dX6_isLineFree_31 hl (by decide) rfl (fun ls hl => ?_)
    refine lv_iconst (v := 1) hx hb dX6_isLineFree_33 (by decide +kernel) ?_
    refine lv_istore (lv' := [(7, .int 1), (6, .int (((u.2.1 30) (Int32.toNatClampNeg x3)) - x2)), (5, .int (if 0 ≤ (x3 - x1) then (x3 - x1) else 0 - (x3 - x1))), (4, .int 1), (0, .ref (g.2.2 23)), (1, .int x1), (2, .int x2), (3, .int x3)]) hx hb dX6_isLineFree_34 hl (by decide) rfl (fun ls hl => ?_)
    refine b_X6_isLineFree_36 C (fun x7 H locs ls Z hl hf => ?_) FU _ _ _ _ Z (lv_sub hl [4, 5, 6, 3, 2, 1, 0] rfl) hf
    refine lv_iconst (v := 1) hx hb dX6_isLineFree_86 (by decide +kernel) ?_
    have hf := Option.some.inj hf
    subst hf
    exact ret_z C Z rfl dX6_isLineFree_87
def f_X6_canSee (u : St) (x1 x2 x3 : Int32) : Option (Int32) :=
  if oob x1 5 then none else
  if x2 = ((u.2.1 (17 + (Int32.toNatClampNeg x1))) 0) then
    some 0
  else
    if x2 ≤ ((u.2.1 (17 + (Int32.toNatClampNeg x1))) 0) then
      Option.bind (f_X1_sideOf u x1 x3) fun r42 =>
      if 0 = r42 then
        Option.bind (f_X6_eyeOf u x1) fun r53 =>
        Option.bind (f_X6_isLineFree u ((u.2.1 (17 + (Int32.toNatClampNeg x1))) 0) r53 x2) fun r57 =>
        if r57 = 0 then
          some 0
        else
          some 1
      else
        some 0
    else
      Option.bind (f_X1_sideOf u x1 x3) fun r42 =>
      if 1 = r42 then
        Option.bind (f_X6_eyeOf u x1) fun r53 =>
        Option.bind (f_X6_isLineFree u ((u.2.1 (17 + (Int32.toNatClampNeg x1))) 0) r53 x2) fun r57 =>
        if r57 = 0 then
          some 0
        else
          some 1
      else
        some 0
set_option maxHeartbeats 4000000 in
set_option maxRecDepth 100000 in
theorem c_X6_canSee (l : Launch) {g : Gx} {u : St} {x1 x2 x3 : Int32} {res : Int32} (hf : f_X6_canSee u x1 x2 x3 = some res) : CI wC 82 l yX6_canSee (wsY yX6_canSee cX6_canSee 6 (some .boolean)) (rmX 2 52) g [.ref (g.2.2 23), .int x1, .int x2, .int x3] u res u := by
  refine CI_start (by decide +kernel) rfl (Nat.le_of_ble_eq_true rfl) (fun {p e s m args below meth c ls} C Z hl => ?_)
  have hl : lv_has ls 6 [(0, .ref (g.2.2 23)), (1, .int x1), (2, .int x2), (3, .int x3)] := hl
  have hx := C.1
  have hb := C.2.1
  unfold f_X6_canSee at hf
  refine lv_aload_n hx hb dX6_canSee_0 rfl (lv_at hl 0 rfl) ?_
  refine gC_23_0 C Z (fl_of C mw_253) dX6_canSee_1 ?_
  refine gC_24_1 C Z (fl_nest C nw_74) dX6_canSee_4 ?_
  refine lv_iload_n hx hb dX6_canSee_7 rfl (lv_at hl 1 rfl) ?_
  by_cases ho8 : oob x1 5 = true
  · rw [if_pos ho8] at hf; cases hf
  rw [if_neg ho8] at hf
  refine r_aldr C Z (aC_26 g _) ho8 dX6_canSee_8 (b := g.2.2 (27 + (Int32.toNatClampNeg x1))) rfl ?_
  refine lv_iconst (v := 0) hx hb dX6_canSee_9 (by decide +kernel) ?_
  refine r_ald C Z (arC_26 g _ (oob_lt ho8) (f := (u.2.1 (17 + (Int32.toNatClampNeg x1)))) rfl) (by decide) (k := 0) (by decide) dX6_canSee_10 (x := ((u.2.1 (17 + (Int32.toNatClampNeg x1))) 0)) rfl ?_
  refine lv_istore (lv' := [(4, .int ((u.2.1 (17 + (Int32.toNatClampNeg x1))) 0)), (0, .ref (g.2.2 23)), (1, .int x1), (2, .int x2), (3, .int x3)]) hx hb dX6_canSee_11 hl (by decide) rfl (fun ls hl => ?_)
  refine lv_iload_n hx hb dX6_canSee_13 rfl (lv_at hl 3 rfl) ?_
  refine lv_iload hx hb dX6_canSee_14 (lv_at hl 0 rfl) ?_
  refine lv_icmp_ne (tgt := 21) hx hb dX6_canSee_16 (by decide) (fun hc16 => ?_) (fun hc16 => ?_)
  · rw [if_neg hc16] at hf
    refine lv_iload_n hx hb dX6_canSee_21 rfl (lv_at hl 3 rfl) ?_
    refine lv_iload hx hb dX6_canSee_22 (lv_at hl 0 rfl) ?_
    refine lv_icmp_le (tgt := 31) hx hb dX6_canSee_24 (by decide) (fun hc24 => ?_) (fun hc24 => ?_)
    · rw [if_pos hc24] at hf
      refine lv_iconst (v := 0) hx hb dX6_canSee_31 (by decide +kernel) ?_
      refine lv_istore (lv' := [(5, .int 0), (4, .int ((u.2.1 (17 + (Int32.toNatClampNeg x1))) 0)), (0, .ref (g.2.2 23)), (1, .int x1), (2, .int x2), (3, .int x3)]) hx hb dX6_canSee_32 hl (by decide) rfl (fun ls hl => ?_)
      refine lv_iload hx hb dX6_canSee_34 (lv_at hl 0 rfl) ?_
      refine lv_aload_n hx hb dX6_canSee_36 rfl (lv_at hl 2 rfl) ?_
      refine gC_23_0 C Z (fl_of C mw_253) dX6_canSee_37 ?_
      refine lv_iload_n hx hb dX6_canSee_40 rfl (lv_at hl 3 rfl) ?_
      refine lv_iload_n hx hb dX6_canSee_41 rfl (lv_at hl 5 rfl) ?_
      obtain ⟨r42, hr42, hf⟩ := Option.bind_eq_some_iff.mp hf
      refine call_vi (As := [.int x1, .int x3]) (rest := [.int 0]) C Z (c_X1_sideOf l hr42) mf_X1_sideOf (ml_nest C nw_40) rfl (oC_24 g _) rfl ⟨rfl, rfl, by decide, by decide⟩ rfl hl.1 (Nat.le_of_ble_eq_true rfl) dX6_canSee_42 (fun H locs Z => ?_)
      refine lv_icmp_ne (tgt := 67) hx hb dX6_canSee_45 (by decide) (fun hc45 => ?_) (fun hc45 => ?_)
      · rw [if_neg hc45] at hf
        refine lv_iconst (v := 0) hx hb dX6_canSee_67 (by decide +kernel) ?_
        have hf := Option.some.inj hf
        subst hf
        exact ret_z C Z rfl dX6_canSee_68
      · rw [if_pos hc45] at hf
        refine lv_aload_n hx hb dX6_canSee_48 rfl (lv_at hl 2 rfl) ?_
        refine lv_iload hx hb dX6_canSee_49 (lv_at hl 1 rfl) ?_
        refine lv_aload_n hx hb dX6_canSee_51 rfl (lv_at hl 2 rfl) ?_
        refine lv_iload_n hx hb dX6_canSee_52 rfl (lv_at hl 3 rfl) ?_
        obtain ⟨r53, hr53, hf⟩ := Option.bind_eq_some_iff.mp hf
        refine call_vi (As := [.int x1]) (rest := [.int ((u.2.1 (17 + (Int32.toNatClampNeg x1))) 0), .ref (g.2.2 23)]) C Z (c_X6_eyeOf l hr53) mf_X6_eyeOf (ml_of C mw_564) rfl (oC_23 g _) rfl ⟨rfl, rfl, by decide, by decide⟩ rfl hl.1 (Nat.le_of_ble_eq_true rfl) dX6_canSee_53 (fun H locs Z => ?_)
        refine lv_iload_n hx hb dX6_canSee_56 rfl (lv_at hl 4 rfl) ?_
        obtain ⟨r57, hr57, hf⟩ := Option.bind_eq_some_iff.mp hf
        refine call_vi (As := [.int ((u.2.1 (17 + (Int32.toNatClampNeg x1))) 0), .int r53, .int x2]) (rest := []) C Z (c_X6_isLineFree l hr57) mf_X6_isLineFree (ml_of C mw_565) rfl (oC_23 g _) rfl ⟨rfl, rfl, by decide, by decide⟩ rfl hl.1 (Nat.le_of_ble_eq_true rfl) dX6_canSee_57 (fun H locs Z => ?_)
        refine lv_if_eq (tgt := 67) hx hb dX6_canSee_60 (by decide) (fun hc60 => ?_) (fun hc60 => ?_)
        · rw [if_pos hc60] at hf
          refine lv_iconst (v := 0) hx hb dX6_canSee_67 (by decide +kernel) ?_
          have hf := Option.some.inj hf
          subst hf
          exact ret_z C Z rfl dX6_canSee_68
        · rw [if_neg hc60] at hf
          refine lv_iconst (v := 1) hx hb dX6_canSee_63 (by decide +kernel) ?_
          refine lv_goto (tgt := 68) hx hb dX6_canSee_64 (by decide) ?_
          have hf := Option.some.inj hf
          subst hf
          exact ret_z C Z rfl dX6_canSee_68
    · rw [if_neg hc24] at hf
      refine lv_iconst (v := 1) hx hb dX6_canSee_27 (by decide +kernel) ?_
      refine lv_goto (tgt := 32) hx hb dX6_canSee_28 (by decide) ?_
      refine lv_istore (lv' := [(5, .int 1), (4, .int ((u.2.1 (17 + (Int32.toNatClampNeg x1))) 0)), (0, .ref (g.2.2 23)), (1, .int x1), (2, .int x2), (3, .int x3)]) hx hb dX6_canSee_32 hl (by decide) rfl (fun ls hl => ?_)
      refine lv_iload hx hb dX6_canSee_34 (lv_at hl 0 rfl) ?_
      refine lv_aload_n hx hb dX6_canSee_36 rfl (lv_at hl 2 rfl) ?_
      refine gC_23_0 C Z (fl_of C mw_253) dX6_canSee_37 ?_
      refine lv_iload_n hx hb dX6_canSee_40 rfl (lv_at hl 3 rfl) ?_
      refine lv_iload_n hx hb dX6_canSee_41 rfl (lv_at hl 5 rfl) ?_
      obtain ⟨r42, hr42, hf⟩ := Option.bind_eq_some_iff.mp hf
      refine call_vi (As := [.int x1, .int x3]) (rest := [.int 1]) C Z (c_X1_sideOf l hr42) mf_X1_sideOf (ml_nest C nw_40) rfl (oC_24 g _) rfl ⟨rfl, rfl, by decide, by decide⟩ rfl hl.1 (Nat.le_of_ble_eq_true rfl) dX6_canSee_42 (fun H locs Z => ?_)
      refine lv_icmp_ne (tgt := 67) hx hb dX6_canSee_45 (by decide) (fun hc45 => ?_) (fun hc45 => ?_)
      · rw [if_neg hc45] at hf
        refine lv_iconst (v := 0) hx hb dX6_canSee_67 (by decide +kernel) ?_
        have hf := Option.some.inj hf
        subst hf
        exact ret_z C Z rfl dX6_canSee_68
      · rw [if_pos hc45] at hf
        refine lv_aload_n hx hb dX6_canSee_48 rfl (lv_at hl 2 rfl) ?_
        refine lv_iload hx hb dX6_canSee_49 (lv_at hl 1 rfl) ?_
        refine lv_aload_n hx hb dX6_canSee_51 rfl (lv_at hl 2 rfl) ?_
        refine lv_iload_n hx hb dX6_canSee_52 rfl (lv_at hl 3 rfl) ?_
        obtain ⟨r53, hr53, hf⟩ := Option.bind_eq_some_iff.mp hf
        refine call_vi (As := [.int x1]) (rest := [.int ((u.2.1 (17 + (Int32.toNatClampNeg x1))) 0), .ref (g.2.2 23)]) C Z (c_X6_eyeOf l hr53) mf_X6_eyeOf (ml_of C mw_564) rfl (oC_23 g _) rfl ⟨rfl, rfl, by decide, by decide⟩ rfl hl.1 (Nat.le_of_ble_eq_true rfl) dX6_canSee_53 (fun H locs Z => ?_)
        refine lv_iload_n hx hb dX6_canSee_56 rfl (lv_at hl 4 rfl) ?_
        obtain ⟨r57, hr57, hf⟩ := Option.bind_eq_some_iff.mp hf
        refine call_vi (As := [.int ((u.2.1 (17 + (Int32.toNatClampNeg x1))) 0), .int r53, .int x2]) (rest := []) C Z (c_X6_isLineFree l hr57) mf_X6_isLineFree (ml_of C mw_565) rfl (oC_23 g _) rfl ⟨rfl, rfl, by decide, by decide⟩ rfl hl.1 (Nat.le_of_ble_eq_true rfl) dX6_canSee_57 (fun H locs Z => ?_)
        refine lv_if_eq (tgt := 67) hx hb dX6_canSee_60 (by decide) (fun hc60 => ?_) (fun hc60 => ?_)
        · rw [if_pos hc60] at hf
          refine lv_iconst (v := 0) hx hb dX6_canSee_67 (by decide +kernel) ?_
          have hf := Option.some.inj hf
          subst hf
          exact ret_z C Z rfl dX6_canSee_68
        · rw [if_neg hc60] at hf
          refine lv_iconst (v := 1) hx hb dX6_canSee_63 (by decide +kernel) ?_
          refine lv_goto (tgt := 68) hx hb dX6_canSee_64 (by decide) ?_
          have hf := Option.some.inj hf
          subst hf
          exact ret_z C Z rfl dX6_canSee_68
  · rw [if_pos hc16] at hf
    refine lv_iconst (v := 0) hx hb dX6_canSee_19 (by decide +kernel) ?_
    have hf := Option.some.inj hf
    subst hf
    exact ret_z C Z rfl dX6_canSee_20
def L_X6_seeOne_3 (k : Int32 → St → Option (St)) (x1 x2 x3 : Int32) : Nat → Int32 → St → Option (St)
  | 0, _, _ => none
  | n + 1, x4, u =>
    if (u.1 7) ≤ x4 then
      k x4 u
    else
      Option.bind (f_X3_isAsked u x4) fun r21 =>
      if r21 = 0 then
        Option.bind (f_X6_canSee u x4 x2 x3) fun r32 =>
        if r32 = 0 then
          L_X6_seeOne_3 k x1 x2 x3 n (x4 + 1) u
        else
          if oob x4 5 then none else
          if oob x1 4 then none else
          L_X6_seeOne_3 k x1 x2 x3 n (x4 + 1) (sA u (31 + (Int32.toNatClampNeg x4)) (upd (u.2.1 (31 + (Int32.toNatClampNeg x4))) (Int32.toNatClampNeg x1) (((u.2.1 (31 + (Int32.toNatClampNeg x4))) (Int32.toNatClampNeg x1)) ||| (1 <<< (x3 &&& 31)))))
      else
        L_X6_seeOne_3 k x1 x2 x3 n (x4 + 1) u
set_option maxHeartbeats 4000000 in
set_option maxRecDepth 100000 in
theorem b_X6_seeOne_3 {p : Program} {l : Launch} {e : Env} {s : State} {m : MethodId} {args : Array Value} {below : List Frame} {meth : Method} {c : Code} {g : Gx} {x1 x2 x3 : Int32} {res : St} {k : Int32 → St → Option (St)} (C : Cx p s m meth c args cX6_seeOne RX6 5 (none) 82 g)
    (hk : ∀ (x4 : Int32) (u : St) (H : Heap) (locs : List Loc) (ls : Array Slot), Zx wC g (Aw 82 g s.heap.size) s H locs u → lv_has ls 5 [] → k x4 u = some res → W p l e (rmX 3 77) s m args below meth c H locs 0 0 (QV wC 82 g res below args s) (F0 m 62 ls [])) :
    ∀ (n : Nat) (x4 : Int32) (u : St) (H : Heap) (locs : List Loc) (ls : Array Slot), Zx wC g (Aw 82 g s.heap.size) s H locs u → lv_has ls 5 [(0, .ref (g.2.2 23)), (1, .int x1), (2, .int x2), (3, .int x3), (4, .int x4)] → L_X6_seeOne_3 k x1 x2 x3 n x4 u = some res → W p l e (rmX 3 77) s m args below meth c H locs 0 0 (QV wC 82 g res below args s) (F0 m 3 ls []) := by
  have hx := C.1
  have hb := C.2.1
  intro n
  induction n with
  | zero =>
    intro x4 u H locs ls Z hl hf
    rw [L_X6_seeOne_3.eq_1] at hf
    cases hf
  | succ n ih =>
    intro x4 u H locs ls Z hl hf
    rw [L_X6_seeOne_3.eq_2] at hf
    refine lv_iload hx hb dX6_seeOne_3 (lv_at hl 4 rfl) ?_
    refine lv_aload_n hx hb dX6_seeOne_5 rfl (lv_at hl 0 rfl) ?_
    refine gC_23_0 C Z (fl_of C mw_253) dX6_seeOne_6 ?_
    refine gC_24_4 C Z (fl_nest C nw_79) dX6_seeOne_9 (x := (u.1 7)) rfl ?_
    refine lv_icmp_ge (tgt := 62) hx hb dX6_seeOne_12 (by decide) (fun hc12 => ?_) (fun hc12 => ?_)
    · rw [if_pos hc12] at hf
      exact hk _ _ H locs ls Z (lv_sub hl [] rfl) hf
    · rw [if_neg hc12] at hf
      refine lv_aload_n hx hb dX6_seeOne_15 rfl (lv_at hl 0 rfl) ?_
      refine gC_23_1 C Z (fl_of C mw_256) dX6_seeOne_16 ?_
      refine lv_iload hx hb dX6_seeOne_19 (lv_at hl 4 rfl) ?_
      obtain ⟨r21, hr21, hf⟩ := Option.bind_eq_some_iff.mp hf
      refine call_vi (As := [.int x4]) (rest := []) C Z (c_X3_isAsked l hr21) mf_X3_isAsked (ml_nest C nw_39) rfl (oC_42 g _) rfl ⟨rfl, rfl, by decide, by decide⟩ rfl hl.1 (Nat.le_of_ble_eq_true rfl) dX6_seeOne_21 (fun H locs Z => ?_)
      refine lv_if_ne (tgt := 56) hx hb dX6_seeOne_24 (by decide) (fun hc24 => ?_) (fun hc24 => ?_)
      · rw [if_neg hc24] at hf
        refine lv_iinc (v := (x4 + 1)) (lv' := [(4, .int (x4 + 1)), (0, .ref (g.2.2 23)), (1, .int x1), (2, .int x2), (3, .int x3)]) hx hb dX6_seeOne_56 hl (k := 4) rfl rfl (by decide) rfl (fun ls hl => ?_)
        refine lv_goto (tgt := 3) hx hb dX6_seeOne_59 (by decide) ?_
        exact ih _ _ _ _ _ Z (lv_sub hl [1, 2, 3, 4, 0] rfl) hf
      · rw [if_pos hc24] at hf
        refine lv_aload_n hx hb dX6_seeOne_27 rfl (lv_at hl 0 rfl) ?_
        refine lv_iload hx hb dX6_seeOne_28 (lv_at hl 4 rfl) ?_
        refine lv_iload_n hx hb dX6_seeOne_30 rfl (lv_at hl 2 rfl) ?_
        refine lv_iload_n hx hb dX6_seeOne_31 rfl (lv_at hl 3 rfl) ?_
        obtain ⟨r32, hr32, hf⟩ := Option.bind_eq_some_iff.mp hf
        refine call_vi (As := [.int x4, .int x2, .int x3]) (rest := []) C Z (c_X6_canSee l hr32) mf_X6_canSee (ml_of C mw_559) rfl (oC_23 g _) rfl ⟨rfl, rfl, by decide, by decide⟩ rfl hl.1 (Nat.le_of_ble_eq_true rfl) dX6_seeOne_32 (fun H locs Z => ?_)
        refine lv_if_eq (tgt := 56) hx hb dX6_seeOne_35 (by decide) (fun hc35 => ?_) (fun hc35 => ?_)
        · rw [if_pos hc35] at hf
          refine lv_iinc (v := (x4 + 1)) (lv' := [(4, .int (x4 + 1)), (0, .ref (g.2.2 23)), (1, .int x1), (2, .int x2), (3, .int x3)]) hx hb dX6_seeOne_56 hl (k := 4) rfl rfl (by decide) rfl (fun ls hl => ?_)
          refine lv_goto (tgt := 3) hx hb dX6_seeOne_59 (by decide) ?_
          exact ih _ _ _ _ _ Z (lv_sub hl [1, 2, 3, 4, 0] rfl) hf
        · rw [if_neg hc35] at hf
          refine lv_aload_n hx hb dX6_seeOne_38 rfl (lv_at hl 0 rfl) ?_
          refine gC_23_1 C Z (fl_of C mw_256) dX6_seeOne_39 ?_
          refine gC_42_3 C Z (fl_nest C nw_95) dX6_seeOne_42 ?_
          refine lv_iload hx hb dX6_seeOne_45 (lv_at hl 4 rfl) ?_
          by_cases ho47 : oob x4 5 = true
          · rw [if_pos ho47] at hf; cases hf
          rw [if_neg ho47] at hf
          refine r_aldr C Z (aC_44 g _) ho47 dX6_seeOne_47 (b := g.2.2 (45 + (Int32.toNatClampNeg x4))) rfl ?_
          refine lv_iload_n hx hb dX6_seeOne_48 rfl (lv_at hl 1 rfl) ?_
          refine lv_dup2_11 hx hb dX6_seeOne_49 rfl rfl ?_
          by_cases ho50 : oob x1 4 = true
          · rw [if_pos ho50] at hf; cases hf
          rw [if_neg ho50] at hf
          refine r_ald C Z (arC_44 g _ (oob_lt ho47) (f := (u.2.1 (31 + (Int32.toNatClampNeg x4)))) rfl) ho50 rfl dX6_seeOne_50 (x := ((u.2.1 (31 + (Int32.toNatClampNeg x4))) (Int32.toNatClampNeg x1))) rfl ?_
          refine lv_iconst (v := 1) hx hb dX6_seeOne_51 (by decide +kernel) ?_
          refine lv_iload_n hx hb dX6_seeOne_52 rfl (lv_at hl 3 rfl) ?_
          refine lv_ishl hx hb dX6_seeOne_53 ?_
          refine lv_ior hx hb dX6_seeOne_54 ?_
          refine r_ast C wokC Z (arC_44 g _ (oob_lt ho47) (f := (u.2.1 (31 + (Int32.toNatClampNeg x4)))) rfl) ho50 rfl (srC_44 g _ (oob_lt ho47) _) dX6_seeOne_55 (fun H locs Z => ?_)
          refine lv_iinc (v := (x4 + 1)) (lv' := [(4, .int (x4 + 1)), (0, .ref (g.2.2 23)), (1, .int x1), (2, .int x2), (3, .int x3)]) hx hb dX6_seeOne_56 hl (k := 4) rfl rfl (by decide) rfl (fun ls hl => ?_)
          refine lv_goto (tgt := 3) hx hb dX6_seeOne_59 (by decide) ?_
          exact ih _ _ _ _ _ Z (lv_sub hl [1, 2, 3, 4, 0] rfl) hf
def f_X6_seeOne (u : St) (x1 x2 x3 : Int32) : Option (St) :=
  L_X6_seeOne_3 (fun x4 u3 =>
    some u3) x1 x2 x3 FU 0 u
set_option maxHeartbeats 4000000 in
set_option maxRecDepth 100000 in
theorem c_X6_seeOne (l : Launch) {g : Gx} {u : St} {x1 x2 x3 : Int32} {res : St} (hf : f_X6_seeOne u x1 x2 x3 = some res) : CV wC 82 l yX6_seeOne (wsY yX6_seeOne cX6_seeOne 5 (none)) (rmX 3 77) g [.ref (g.2.2 23), .int x1, .int x2, .int x3] u res := by
  refine CV_start (by decide +kernel) rfl (Nat.le_of_ble_eq_true rfl) (fun {p e s m args below meth c ls} C Z hl => ?_)
  have hl : lv_has ls 5 [(0, .ref (g.2.2 23)), (1, .int x1), (2, .int x2), (3, .int x3)] := hl
  have hx := C.1
  have hb := C.2.1
  unfold f_X6_seeOne at hf
  refine lv_iconst (v := 0) hx hb dX6_seeOne_0 (by decide +kernel) ?_
  refine lv_istore (lv' := [(4, .int 0), (0, .ref (g.2.2 23)), (1, .int x1), (2, .int x2), (3, .int x3)]) hx hb dX6_seeOne_1 hl (by decide) rfl (fun ls hl => ?_)
  refine b_X6_seeOne_3 C (fun x4 u3 H locs ls Z hl hf => ?_) FU _ _ _ _ _ Z (lv_sub hl [1, 2, 3, 4, 0] rfl) hf
  have hf := Option.some.inj hf
  subst hf
  exact ret_v C Z dX6_seeOne_62
