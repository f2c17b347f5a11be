def L_X0_isLaw_2 (k : Int32 → Option (Int32)) (u : St) (x1 x2 : Int32) : Nat → Int32 → Option (Int32)
  | 0, _ => none
  | n + 1, x3 =>
    if (u.1 13) ≤ x3 then
      k x3
    else
      if oob x3 6 then none else
      Option.bind (f_X7_sideBy x1 x2 ((u.2.1 39) (Int32.toNatClampNeg x3))) fun r18 =>
      if r18 = ((u.2.1 40) (Int32.toNatClampNeg x3)) then
        L_X0_isLaw_2 k u x1 x2 n (x3 + 1)
      else
        some 0
set_option maxHeartbeats 4000000 in
set_option maxRecDepth 100000 in
theorem b_X0_isLaw_2 {p : Program} {l : Launch} {e : Env} {s : State} {m : MethodId} {args : Array Value} {below : List Frame} {meth : Method} {c : Code} {g : Gx} {u : St} {x1 x2 : Int32} {res : Int32} {k : Int32 → Option (Int32)} (C : Cx p s m meth c args cX0_isLaw RX0 4 (some .boolean) 82 g)
    (hk : ∀ (x3 : Int32) (H : Heap) (locs : List Loc) (ls : Array Slot), Zx wC g (Aw 82 g s.heap.size) s H locs u → lv_has ls 4 [] → k x3 = some res → W p l e (rmX 1 23) s m args below meth c H locs 0 0 (QI wC 82 g res u below args s) (F0 m 38 ls [])) :
    ∀ (n : Nat) (x3 : Int32) (H : Heap) (locs : List Loc) (ls : Array Slot), Zx wC g (Aw 82 g s.heap.size) s H locs u → lv_has ls 4 [(0, .ref (g.2.2 53)), (1, .int x1), (2, .int x2), (3, .int x3)] → L_X0_isLaw_2 k u x1 x2 n x3 = some res → W p l e (rmX 1 23) s m args below meth c H locs 0 0 (QI wC 82 g res u below args s) (F0 m 2 ls []) := by
  have hx := C.1
  have hb := C.2.1
  intro n
  induction n with
  | zero =>
    intro x3 H locs ls Z hl hf
    rw [L_X0_isLaw_2.eq_1] at hf
    cases hf
  | succ n ih =>
    intro x3 H locs ls Z hl hf
    rw [L_X0_isLaw_2.eq_2] at hf
    refine lv_iload_n hx hb dX0_isLaw_2 rfl (lv_at hl 3 rfl) ?_
    refine lv_aload_n hx hb dX0_isLaw_3 rfl (lv_at hl 0 rfl) ?_
    refine gC_53_2 C Z (fl_of C mw_272) dX0_isLaw_4 (x := (u.1 13)) rfl ?_
    refine lv_icmp_ge (tgt := 38) hx hb dX0_isLaw_7 (by decide) (fun hc7 => ?_) (fun hc7 => ?_)
    · rw [if_pos hc7] at hf
      exact hk _ H locs ls Z (lv_sub hl [] rfl) hf
    · rw [if_neg hc7] at hf
      refine lv_iload_n hx hb dX0_isLaw_10 rfl (lv_at hl 1 rfl) ?_
      refine lv_iload_n hx hb dX0_isLaw_11 rfl (lv_at hl 2 rfl) ?_
      refine lv_aload_n hx hb dX0_isLaw_12 rfl (lv_at hl 0 rfl) ?_
      refine gC_53_0 C Z (fl_of C mw_270) dX0_isLaw_13 ?_
      refine lv_iload_n hx hb dX0_isLaw_16 rfl (lv_at hl 3 rfl) ?_
      by_cases ho17 : oob x3 6 = true
      · rw [if_pos ho17] at hf; cases hf
      rw [if_neg ho17] at hf
      refine r_ald C Z (aC_54 g _ (f := (u.2.1 39)) rfl) ho17 rfl dX0_isLaw_17 (x := ((u.2.1 39) (Int32.toNatClampNeg x3))) rfl ?_
      obtain ⟨r18, hr18, hf⟩ := Option.bind_eq_some_iff.mp hf
      refine call_si (As := [.int x1, .int x2, .int ((u.2.1 39) (Int32.toNatClampNeg x3))]) (rest := []) C Z (c_X7_sideBy l hr18) mf_X7_sideBy (ml_nest C nw_56) rfl ⟨rfl, rfl, by decide, by decide⟩ rfl hl.1 (Nat.le_of_ble_eq_true rfl) dX0_isLaw_18 (fun H locs Z => ?_)
      refine lv_aload_n hx hb dX0_isLaw_21 rfl (lv_at hl 0 rfl) ?_
      refine gC_53_1 C Z (fl_of C mw_271) dX0_isLaw_22 ?_
      refine lv_iload_n hx hb dX0_isLaw_25 rfl (lv_at hl 3 rfl) ?_
      refine r_ald C Z (aC_55 g _ (f := (u.2.1 40)) rfl) ho17 rfl dX0_isLaw_26 (x := ((u.2.1 40) (Int32.toNatClampNeg x3))) rfl ?_
      refine lv_icmp_eq (tgt := 32) hx hb dX0_isLaw_27 (by decide) (fun hc27 => ?_) (fun hc27 => ?_)
      · rw [if_pos hc27] at hf
        refine lv_iinc (v := (x3 + 1)) (lv' := [(3, .int (x3 + 1)), (0, .ref (g.2.2 53)), (1, .int x1), (2, .int x2)]) hx hb dX0_isLaw_32 hl (k := 3) rfl rfl (by decide) rfl (fun ls hl => ?_)
        refine lv_goto (tgt := 2) hx hb dX0_isLaw_35 (by decide) ?_
        exact ih _ _ _ _ Z (lv_sub hl [1, 2, 3, 0] rfl) hf
      · rw [if_neg hc27] at hf
        refine lv_iconst (v := 0) hx hb dX0_isLaw_30 (by decide +kernel) ?_
        have hf := Option.some.inj hf
        subst hf
        exact ret_z C Z rfl dX0_isLaw_31
def f_X0_isLaw (u : St) (x1 x2 : Int32) : Option (Int32) :=
  L_X0_isLaw_2 (fun x3 =>
    some 1) u x1 x2 FU 0
set_option maxHeartbeats 4000000 in
set_option maxRecDepth 100000 in
theorem c_X0_isLaw (l : Launch) {g : Gx} {u : St} {x1 x2 : Int32} {res : Int32} (hf : f_X0_isLaw u x1 x2 = some res) : CI wC 82 l yX0_isLaw (wsY yX0_isLaw cX0_isLaw 4 (some .boolean)) (rmX 1 23) g [.ref (g.2.2 53), .int x1, .int x2] u res u := by
  refine CI_start (by decide +kernel) rfl (Nat.le_of_ble_eq_true rfl) (fun {p e s m args below meth c ls} C Z hl => ?_)
  have hl : lv_has ls 4 [(0, .ref (g.2.2 53)), (1, .int x1), (2, .int x2)] := hl
  have hx := C.1
  have hb := C.2.1
  unfold f_X0_isLaw at hf
  refine lv_iconst (v := 0) hx hb dX0_isLaw_0 (by decide +kernel) ?_
  refine lv_istore_n (lv' := [(3, .int 0), (0, .ref (g.2.2 53)), (1, .int x1), (2, .int x2)]) hx hb dX0_isLaw_1 rfl hl (by decide) rfl (fun ls hl => ?_)
  refine b_X0_isLaw_2 C (fun x3 H locs ls Z hl hf => ?_) FU _ _ _ _ Z (lv_sub hl [1, 2, 3, 0] rfl) hf
  refine lv_iconst (v := 1) hx hb dX0_isLaw_38 (by decide +kernel) ?_
  have hf := Option.some.inj hf
  subst hf
  exact ret_z C Z rfl dX0_isLaw_39
def L_X0_lawsFacing_14 (k : Int32 → Int32 → Option (Int32)) (u : St) (x1 x2 x4 : Int32) : Nat → Int32 → Int32 → Option (Int32)
  | 0, _, _ => none
  | n + 1, x3, x5 =>
    if 9 < x5 then
      k x3 x5
    else
      Option.bind (f_X0_isLaw u x4 x5) fun r26 =>
      if r26 = 0 then
        L_X0_lawsFacing_14 k u x1 x2 x4 n x3 (x5 + 1)
      else
        Option.bind (f_X7_sideBy x4 x5 x2) fun r37 =>
        if r37 = x1 then
          L_X0_lawsFacing_14 k u x1 x2 x4 n (x3 + 1) (x5 + 1)
        else
          L_X0_lawsFacing_14 k u x1 x2 x4 n x3 (x5 + 1)
set_option maxHeartbeats 4000000 in
set_option maxRecDepth 100000 in
theorem b_X0_lawsFacing_14 {p : Program} {l : Launch} {e : Env} {s : State} {m : MethodId} {args : Array Value} {below : List Frame} {meth : Method} {c : Code} {g : Gx} {u : St} {x1 x2 x4 : Int32} {res : Int32} {k : Int32 → Int32 → Option (Int32)} (C : Cx p s m meth c args cX0_lawsFacing RX0 6 (some .int) 82 g)
    (hk : ∀ (x3 x5 : Int32) (H : Heap) (locs : List Loc) (ls : Array Slot), Zx wC g (Aw 82 g s.heap.size) s H locs u → lv_has ls 6 [(0, .ref (g.2.2 53)), (1, .int x1), (2, .int x2), (3, .int x3), (4, .int x4)] → k x3 x5 = some res → W p l e (rmX 2 46) s m args below meth c H locs 0 0 (QI wC 82 g res u below args s) (F0 m 53 ls [])) :
    ∀ (n : Nat) (x3 x5 : Int32) (H : Heap) (locs : List Loc) (ls : Array Slot), Zx wC g (Aw 82 g s.heap.size) s H locs u → lv_has ls 6 [(0, .ref (g.2.2 53)), (1, .int x1), (2, .int x2), (3, .int x3), (4, .int x4), (5, .int x5)] → L_X0_lawsFacing_14 k u x1 x2 x4 n x3 x5 = some res → W p l e (rmX 2 46) s m args below meth c H locs 0 0 (QI wC 82 g res u below args s) (F0 m 14 ls []) := by
  have hx := C.1
  have hb := C.2.1
  intro n
  induction n with
  | zero =>
    intro x3 x5 H locs ls Z hl hf
    rw [L_X0_lawsFacing_14.eq_1] at hf
    cases hf
  | succ n ih =>
    intro x3 x5 H locs ls Z hl hf
    rw [L_X0_lawsFacing_14.eq_2] at hf
    refine lv_iload hx hb dX0_lawsFacing_14 (lv_at hl 5 rfl) ?_
    refine lv_bipush (v := 9) hx hb dX0_lawsFacing_16 (by decide +kernel) ?_
    refine lv_icmp_gt (tgt := 53) hx hb dX0_lawsFacing_18 (by decide) (fun hc18 => ?_) (fun hc18 => ?_)
    · rw [if_pos hc18] at hf
      exact hk _ _ H locs ls Z (lv_sub hl [0, 1, 2, 3, 4] rfl) hf
    · rw [if_neg hc18] at hf
      refine lv_aload_n hx hb dX0_lawsFacing_21 rfl (lv_at hl 0 rfl) ?_
      refine lv_iload hx hb dX0_lawsFacing_22 (lv_at hl 4 rfl) ?_
      refine lv_iload hx hb dX0_lawsFacing_24 (lv_at hl 5 rfl) ?_
      obtain ⟨r26, hr26, hf⟩ := Option.bind_eq_some_iff.mp hf
      refine call_vi (As := [.int x4, .int x5]) (rest := []) C Z (c_X0_isLaw l hr26) mf_X0_isLaw (ml_of C mw_694) rfl (oC_53 g _) rfl ⟨rfl, rfl, by decide, by decide⟩ rfl hl.1 (Nat.le_of_ble_eq_true rfl) dX0_lawsFacing_26 (fun H locs Z => ?_)
      refine lv_if_eq (tgt := 47) hx hb dX0_lawsFacing_29 (by decide) (fun hc29 => ?_) (fun hc29 => ?_)
      · rw [if_pos hc29] at hf
        refine lv_iinc (v := (x5 + 1)) (lv' := [(5, .int (x5 + 1)), (0, .ref (g.2.2 53)), (1, .int x1), (2, .int x2), (3, .int x3), (4, .int x4)]) hx hb dX0_lawsFacing_47 hl (k := 5) rfl rfl (by decide) rfl (fun ls hl => ?_)
        refine lv_goto (tgt := 14) hx hb dX0_lawsFacing_50 (by decide) ?_
        exact ih _ _ _ _ _ Z (lv_sub hl [1, 2, 3, 4, 5, 0] rfl) hf
      · rw [if_neg hc29] at hf
        refine lv_iload hx hb dX0_lawsFacing_32 (lv_at hl 4 rfl) ?_
        refine lv_iload hx hb dX0_lawsFacing_34 (lv_at hl 5 rfl) ?_
        refine lv_iload_n hx hb dX0_lawsFacing_36 rfl (lv_at hl 2 rfl) ?_
        obtain ⟨r37, hr37, hf⟩ := Option.bind_eq_some_iff.mp hf
        refine call_si (As := [.int x4, .int x5, .int x2]) (rest := []) C Z (c_X7_sideBy l hr37) mf_X7_sideBy (ml_nest C nw_56) rfl ⟨rfl, rfl, by decide, by decide⟩ rfl hl.1 (Nat.le_of_ble_eq_true rfl) dX0_lawsFacing_37 (fun H locs Z => ?_)
        refine lv_iload_n hx hb dX0_lawsFacing_40 rfl (lv_at hl 1 rfl) ?_
        refine lv_icmp_ne (tgt := 47) hx hb dX0_lawsFacing_41 (by decide) (fun hc41 => ?_) (fun hc41 => ?_)
        · rw [if_neg hc41] at hf
          refine lv_iinc (v := (x5 + 1)) (lv' := [(5, .int (x5 + 1)), (0, .ref (g.2.2 53)), (1, .int x1), (2, .int x2), (3, .int x3), (4, .int x4)]) hx hb dX0_lawsFacing_47 hl (k := 5) rfl rfl (by decide) rfl (fun ls hl => ?_)
          refine lv_goto (tgt := 14) hx hb dX0_lawsFacing_50 (by decide) ?_
          exact ih _ _ _ _ _ Z (lv_sub hl [1, 2, 3, 4, 5, 0] rfl) hf
        · rw [if_pos hc41] at hf
          refine lv_iinc (v := (x3 + 1)) (lv' := [(3, .int (x3 + 1)), (0, .ref (g.2.2 53)), (1, .int x1), (2, .int x2), (4, .int x4), (5, .int x5)]) hx hb dX0_lawsFacing_44 hl (k := 3) rfl rfl (by decide) rfl (fun ls hl => ?_)
          refine lv_iinc (v := (x5 + 1)) (lv' := [(5, .int (x5 + 1)), (3, .int (x3 + 1)), (0, .ref (g.2.2 53)), (1, .int x1), (2, .int x2), (4, .int x4)]) hx hb dX0_lawsFacing_47 hl (k := 5) rfl rfl (by decide) rfl (fun ls hl => ?_)
          refine lv_goto (tgt := 14) hx hb dX0_lawsFacing_50 (by decide) ?_
          exact ih _ _ _ _ _ Z (lv_sub hl [2, 3, 4, 1, 5, 0] rfl) hf
def L_X0_lawsFacing_5 (k : Int32 → Int32 → Option (Int32)) (u : St) (x1 x2 : Int32) : Nat → Int32 → Int32 → Option (Int32)
  | 0, _, _ => none
  | n + 1, x3, x4 =>
    if 1 < x4 then
      k x3 x4
    else
      L_X0_lawsFacing_14 (fun x3 x5 =>
        L_X0_lawsFacing_5 k u x1 x2 n x3 (x4 + 1)) u x1 x2 x4 FU x3 0
set_option maxHeartbeats 4000000 in
set_option maxRecDepth 100000 in
theorem b_X0_lawsFacing_5 {p : Program} {l : Launch} {e : Env} {s : State} {m : MethodId} {args : Array Value} {below : List Frame} {meth : Method} {c : Code} {g : Gx} {u : St} {x1 x2 : Int32} {res : Int32} {k : Int32 → Int32 → Option (Int32)} (C : Cx p s m meth c args cX0_lawsFacing RX0 6 (some .int) 82 g)
    (hk : ∀ (x3 x4 : Int32) (H : Heap) (locs : List Loc) (ls : Array Slot), Zx wC g (Aw 82 g s.heap.size) s H locs u → lv_has ls 6 [(3, .int x3)] → k x3 x4 = some res → W p l e (rmX 2 46) s m args below meth c H locs 0 0 (QI wC 82 g res u below args s) (F0 m 59 ls [])) :
    ∀ (n : Nat) (x3 x4 : Int32) (H : Heap) (locs : List Loc) (ls : Array Slot), Zx wC g (Aw 82 g s.heap.size) s H locs u → lv_has ls 6 [(0, .ref (g.2.2 53)), (1, .int x1), (2, .int x2), (3, .int x3), (4, .int x4)] → L_X0_lawsFacing_5 k u x1 x2 n x3 x4 = some res → W p l e (rmX 2 46) s m args below meth c H locs 0 0 (QI wC 82 g res u below args s) (F0 m 5 ls []) := by
  have hx := C.1
  have hb := C.2.1
  intro n
  induction n with
  | zero =>
    intro x3 x4 H locs ls Z hl hf
    rw [L_X0_lawsFacing_5.eq_1] at hf
    cases hf
  | succ n ih =>
    intro x3 x4 H locs ls Z hl hf
    rw [L_X0_lawsFacing_5.eq_2] at hf
    refine lv_iload hx hb dX0_lawsFacing_5 (lv_at hl 4 rfl) ?_
    refine lv_iconst (v := 1) hx hb dX0_lawsFacing_7 (by decide +kernel) ?_
    refine lv_icmp_gt (tgt := 59) hx hb dX0_lawsFacing_8 (by decide) (fun hc8 => ?_) (fun hc8 => ?_)
    · rw [if_pos hc8] at hf
      exact hk _ _ H locs ls Z (lv_sub hl [3] rfl) hf
    · rw [if_neg hc8] at hf
      refine lv_iconst (v := 0) hx hb dX0_lawsFacing_11 (by decide +kernel) ?_
      refine lv_istore (lv' := [(5, .int 0), (0, .ref (g.2.2 53)), (1, .int x1), (2, .int x2), (3, .int x3), (4, .int x4)]) hx hb dX0_lawsFacing_12 hl (by decide) rfl (fun ls hl => ?_)
      refine b_X0_lawsFacing_14 C (fun x3 x5 H locs ls Z hl hf => ?_) FU _ _ _ _ _ Z (lv_sub hl [1, 2, 3, 4, 5, 0] rfl) hf
      refine lv_iinc (v := (x4 + 1)) (lv' := [(4, .int (x4 + 1)), (0, .ref (g.2.2 53)), (1, .int x1), (2, .int x2), (3, .int x3)]) hx hb dX0_lawsFacing_53 hl (k := 4) rfl rfl (by decide) rfl (fun ls hl => ?_)
      refine lv_goto (tgt := 5) hx hb dX0_lawsFacing_56 (by decide) ?_
      exact ih _ _ _ _ _ Z (lv_sub hl [1, 2, 3, 4, 0] rfl) hf
def f_X0_lawsFacing (u : St) (x1 x2 : Int32) : Option (Int32) :=
  L_X0_lawsFacing_5 (fun x3 x4 =>
    some x3) u x1 x2 FU 0 0
set_option maxHeartbeats 4000000 in
set_option maxRecDepth 100000 in
theorem c_X0_lawsFacing (l : Launch) {g : Gx} {u : St} {x1 x2 : Int32} {res : Int32} (hf : f_X0_lawsFacing u x1 x2 = some res) : CI wC 82 l yX0_lawsFacing (wsY yX0_lawsFacing cX0_lawsFacing 6 (some .int)) (rmX 2 46) g [.ref (g.2.2 53), .int x1, .int x2] u res u := by
  refine CI_start (by decide +kernel) rfl (Nat.le_of_ble_eq_true rfl) (fun {p e s m args below meth c ls} C Z hl => ?_)
  have hl : lv_has ls 6 [(0, .ref (g.2.2 53)), (1, .int x1), (2, .int x2)] := hl
  have hx := C.1
  have hb := C.2.1
  unfold f_X0_lawsFacing at hf
  refine lv_iconst (v := 0) hx hb dX0_lawsFacing_0 (by decide +kernel) ?_
  refine lv_istore_n (lv' := [(3, .int 0), (0, .ref (g.2.2 53)), (1, .int x1), (2, .int x2)]) hx hb dX0_lawsFacing_1 rfl hl (by decide) rfl (fun ls hl => ?_)
  refine lv_iconst (v := 0) hx hb dX0_lawsFacing_2 (by decide +kernel) ?_
  refine lv_istore (lv' := [(4, .int 0), (3, .int 0), (0, .ref (g.2.2 53)), (1, .int x1), (2, .int x2)]) hx hb dX0_lawsFacing_3 hl (by decide) rfl (fun ls hl => ?_)
  refine b_X0_lawsFacing_5 C (fun x3 x4 H locs ls Z hl hf => ?_) FU _ _ _ _ _ Z (lv_sub hl [2, 3, 4, 1, 0] rfl) hf
  refine lv_iload_n hx hb dX0_lawsFacing_59 rfl (lv_at hl 0 rfl) ?_
  have hf := Option.some.inj hf
  subst hf
  exact ret_i C Z dX0_lawsFacing_60
def f_X0_lawCount (u : St) : Option (Int32) :=
  Option.bind (f_X0_lawsFacing u 0 0) fun r3 =>
  Option.bind (f_X0_lawsFacing u 1 0) fun r9 =>
  some (r3 + r9)
set_option maxHeartbeats 4000000 in
set_option maxRecDepth 100000 in
theorem c_X0_lawCount (l : Launch) {g : Gx} {u : St} {res : Int32} (hf : f_X0_lawCount u = some res) : CI wC 82 l yX0_lawCount (wsY yX0_lawCount cX0_lawCount 1 (some .int)) (rmX 3 71) g [.ref (g.2.2 53)] u res u := by
  refine CI_start (by decide +kernel) rfl (Nat.le_of_ble_eq_true rfl) (fun {p e s m args below meth c ls} C Z hl => ?_)
  have hl : lv_has ls 1 [(0, .ref (g.2.2 53))] := hl
  have hx := C.1
  have hb := C.2.1
  unfold f_X0_lawCount at hf
  refine lv_aload_n hx hb dX0_lawCount_0 rfl (lv_at hl 0 rfl) ?_
  refine lv_iconst (v := 0) hx hb dX0_lawCount_1 (by decide +kernel) ?_
  refine lv_iconst (v := 0) hx hb dX0_lawCount_2 (by decide +kernel) ?_
  obtain ⟨r3, hr3, hf⟩ := Option.bind_eq_some_iff.mp hf
  refine call_vi (As := [.int 0, .int 0]) (rest := []) C Z (c_X0_lawsFacing l hr3) mf_X0_lawsFacing (ml_of C mw_690) rfl (oC_53 g _) rfl ⟨rfl, rfl, by decide, by decide⟩ rfl hl.1 (Nat.le_of_ble_eq_true rfl) dX0_lawCount_3 (fun H locs Z => ?_)
  refine lv_aload_n hx hb dX0_lawCount_6 rfl (lv_at hl 0 rfl) ?_
  refine lv_iconst (v := 1) hx hb dX0_lawCount_7 (by decide +kernel) ?_
  refine lv_iconst (v := 0) hx hb dX0_lawCount_8 (by decide +kernel) ?_
  obtain ⟨r9, hr9, hf⟩ := Option.bind_eq_some_iff.mp hf
  refine call_vi (As := [.int 1, .int 0]) (rest := [.int r3]) C Z (c_X0_lawsFacing l hr9) mf_X0_lawsFacing (ml_of C mw_690) rfl (oC_53 g _) rfl ⟨rfl, rfl, by decide, by decide⟩ rfl hl.1 (Nat.le_of_ble_eq_true rfl) dX0_lawCount_9 (fun H locs Z => ?_)
  refine lv_iadd hx hb dX0_lawCount_12 ?_
  have hf := Option.some.inj hf
  subst hf
  exact ret_i C Z dX0_lawCount_13
def L_X0_firstLaw_9 (k : Int32 → Option (Int32)) (u : St) (x1 : Int32) : Nat → Int32 → Option (Int32)
  | 0, _ => none
  | n + 1, x2 =>
    if 9 < x2 then
      k x2
    else
      Option.bind (f_X0_isLaw u x1 x2) fun r18 =>
      if r18 = 0 then
        L_X0_firstLaw_9 k u x1 n (x2 + 1)
      else
        some ((10 * x1) + x2)
set_option maxHeartbeats 4000000 in
set_option maxRecDepth 100000 in
theorem b_X0_firstLaw_9 {p : Program} {l : Launch} {e : Env} {s : State} {m : MethodId} {args : Array Value} {below : List Frame} {meth : Method} {c : Code} {g : Gx} {u : St} {x1 : Int32} {res : Int32} {k : Int32 → Option (Int32)} (C : Cx p s m meth c args cX0_firstLaw RX0 3 (some .int) 82 g)
    (hk : ∀ (x2 : Int32) (H : Heap) (locs : List Loc) (ls : Array Slot), Zx wC g (Aw 82 g s.heap.size) s H locs u → lv_has ls 3 [(0, .ref (g.2.2 53)), (1, .int x1)] → k x2 = some res → W p l e (rmX 2 46) s m args below meth c H locs 0 0 (QI wC 82 g res u below args s) (F0 m 37 ls [])) :
    ∀ (n : Nat) (x2 : Int32) (H : Heap) (locs : List Loc) (ls : Array Slot), Zx wC g (Aw 82 g s.heap.size) s H locs u → lv_has ls 3 [(0, .ref (g.2.2 53)), (1, .int x1), (2, .int x2)] → L_X0_firstLaw_9 k u x1 n x2 = some res → W p l e (rmX 2 46) s m args below meth c H locs 0 0 (QI wC 82 g res u below args s) (F0 m 9 ls []) := by
  have hx := C.1
  have hb := C.2.1
  intro n
  induction n with
  | zero =>
    intro x2 H locs ls Z hl hf
    rw [L_X0_firstLaw_9.eq_1] at hf
    cases hf
  | succ n ih =>
    intro x2 H locs ls Z hl hf
    rw [L_X0_firstLaw_9.eq_2] at hf
    refine lv_iload_n hx hb dX0_firstLaw_9 rfl (lv_at hl 2 rfl) ?_
    refine lv_bipush (v := 9) hx hb dX0_firstLaw_10 (by decide +kernel) ?_
    refine lv_icmp_gt (tgt := 37) hx hb dX0_firstLaw_12 (by decide) (fun hc12 => ?_) (fun hc12 => ?_)
    · rw [if_pos hc12] at hf
      exact hk _ H locs ls Z (lv_sub hl [0, 1] rfl) hf
    · rw [if_neg hc12] at hf
      refine lv_aload_n hx hb dX0_firstLaw_15 rfl (lv_at hl 0 rfl) ?_
      refine lv_iload_n hx hb dX0_firstLaw_16 rfl (lv_at hl 1 rfl) ?_
      refine lv_iload_n hx hb dX0_firstLaw_17 rfl (lv_at hl 2 rfl) ?_
      obtain ⟨r18, hr18, hf⟩ := Option.bind_eq_some_iff.mp hf
      refine call_vi (As := [.int x1, .int x2]) (rest := []) C Z (c_X0_isLaw l hr18) mf_X0_isLaw (ml_of C mw_694) rfl (oC_53 g _) rfl ⟨rfl, rfl, by decide, by decide⟩ rfl hl.1 (Nat.le_of_ble_eq_true rfl) dX0_firstLaw_18 (fun H locs Z => ?_)
      refine lv_if_eq (tgt := 31) hx hb dX0_firstLaw_21 (by decide) (fun hc21 => ?_) (fun hc21 => ?_)
      · rw [if_pos hc21] at hf
        refine lv_iinc (v := (x2 + 1)) (lv' := [(2, .int (x2 + 1)), (0, .ref (g.2.2 53)), (1, .int x1)]) hx hb dX0_firstLaw_31 hl (k := 2) rfl rfl (by decide) rfl (fun ls hl => ?_)
        refine lv_goto (tgt := 9) hx hb dX0_firstLaw_34 (by decide) ?_
        exact ih _ _ _ _ Z (lv_sub hl [1, 2, 0] rfl) hf
      · rw [if_neg hc21] at hf
        refine lv_bipush (v := 10) hx hb dX0_firstLaw_24 (by decide +kernel) ?_
        refine lv_iload_n hx hb dX0_firstLaw_26 rfl (lv_at hl 1 rfl) ?_
        refine lv_imul hx hb dX0_firstLaw_27 ?_
        refine lv_iload_n hx hb dX0_firstLaw_28 rfl (lv_at hl 2 rfl) ?_
        refine lv_iadd hx hb dX0_firstLaw_29 ?_
        have hf := Option.some.inj hf
        subst hf
        exact ret_i C Z dX0_firstLaw_30
def L_X0_firstLaw_2 (k : Int32 → Option (Int32)) (u : St) : Nat → Int32 → Option (Int32)
  | 0, _ => none
  | n + 1, x1 =>
    if 1 < x1 then
      k x1
    else
      L_X0_firstLaw_9 (fun x2 =>
        L_X0_firstLaw_2 k u n (x1 + 1)) u x1 FU 0
set_option maxHeartbeats 4000000 in
set_option maxRecDepth 100000 in
theorem b_X0_firstLaw_2 {p : Program} {l : Launch} {e : Env} {s : State} {m : MethodId} {args : Array Value} {below : List Frame} {meth : Method} {c : Code} {g : Gx} {u : St} {res : Int32} {k : Int32 → Option (Int32)} (C : Cx p s m meth c args cX0_firstLaw RX0 3 (some .int) 82 g)
    (hk : ∀ (x1 : Int32) (H : Heap) (locs : List Loc) (ls : Array Slot), Zx wC g (Aw 82 g s.heap.size) s H locs u → lv_has ls 3 [] → k x1 = some res → W p l e (rmX 2 46) s m args below meth c H locs 0 0 (QI wC 82 g res u below args s) (F0 m 43 ls [])) :
    ∀ (n : Nat) (x1 : Int32) (H : Heap) (locs : List Loc) (ls : Array Slot), Zx wC g (Aw 82 g s.heap.size) s H locs u → lv_has ls 3 [(0, .ref (g.2.2 53)), (1, .int x1)] → L_X0_firstLaw_2 k u n x1 = some res → W p l e (rmX 2 46) s m args below meth c H locs 0 0 (QI wC 82 g res u below args s) (F0 m 2 ls []) := by
  have hx := C.1
  have hb := C.2.1
  intro n
  induction n with
  | zero =>
    intro x1 H locs ls Z hl hf
    rw [L_X0_firstLaw_2.eq_1] at hf
    cases hf
  | succ n ih =>
    intro x1 H locs ls Z hl hf
    rw [L_X0_firstLaw_2.eq_2] at hf
    refine lv_iload_n hx hb dX0_firstLaw_2 rfl (lv_at hl 1 rfl) ?_
    refine lv_iconst (v := 1) hx hb dX0_firstLaw_3 (by decide +kernel) ?_
    refine lv_icmp_gt (tgt := 43) hx hb dX0_firstLaw_4 (by decide) (fun hc4 => ?_) (fun hc4 => ?_)
    · rw [if_pos hc4] at hf
      exact hk _ H locs ls Z (lv_sub hl [] rfl) hf
    · rw [if_neg hc4] at hf
      refine lv_iconst (v := 0) hx hb dX0_firstLaw_7 (by decide +kernel) ?_
      refine lv_istore_n (lv' := [(2, .int 0), (0, .ref (g.2.2 53)), (1, .int x1)]) hx hb dX0_firstLaw_8 rfl hl (by decide) rfl (fun ls hl => ?_)
      refine b_X0_firstLaw_9 C (fun x2 H locs ls Z hl hf => ?_) FU _ _ _ _ Z (lv_sub hl [1, 2, 0] rfl) hf
      refine lv_iinc (v := (x1 + 1)) (lv' := [(1, .int (x1 + 1)), (0, .ref (g.2.2 53))]) hx hb dX0_firstLaw_37 hl (k := 1) rfl rfl (by decide) rfl (fun ls hl => ?_)
      refine lv_goto (tgt := 2) hx hb dX0_firstLaw_40 (by decide) ?_
      exact ih _ _ _ _ Z (lv_sub hl [1, 0] rfl) hf
def f_X0_firstLaw (u : St) : Option (Int32) :=
  L_X0_firstLaw_2 (fun x1 =>
    some (-9)) u FU 0
set_option maxHeartbeats 4000000 in
set_option maxRecDepth 100000 in
theorem c_X0_firstLaw (l : Launch) {g : Gx} {u : St} {res : Int32} (hf : f_X0_firstLaw u = some res) : CI wC 82 l yX0_firstLaw (wsY yX0_firstLaw cX0_firstLaw 3 (some .int)) (rmX 2 46) g [.ref (g.2.2 53)] u res u := by
  refine CI_start (by decide +kernel) rfl (Nat.le_of_ble_eq_true rfl) (fun {p e s m args below meth c ls} C Z hl => ?_)
  have hl : lv_has ls 3 [(0, .ref (g.2.2 53))] := hl
  have hx := C.1
  have hb := C.2.1
  unfold f_X0_firstLaw at hf
  refine lv_iconst (v := 0) hx hb dX0_firstLaw_0 (by decide +kernel) ?_
  refine lv_istore_n (lv' := [(1, .int 0), (0, .ref (g.2.2 53))]) hx hb dX0_firstLaw_1 rfl hl (by decide) rfl (fun ls hl => ?_)
  refine b_X0_firstLaw_2 C (fun x1 H locs ls Z hl hf => ?_) FU _ _ _ _ Z (lv_sub hl [1, 0] rfl) hf
  refine lv_bipush (v := (-9)) hx hb dX0_firstLaw_43 (by decide +kernel) ?_
  have hf := Option.some.inj hf
  subst hf
  exact ret_i C Z dX0_firstLaw_45
def f_X7_laws (u : St) (x1 : Int32) : Option (Int32) :=
  if x1 = 0 then
    Option.bind (f_X0_lawCount u) fun r32 =>
    some r32
  else
  if x1 = 1 then
    Option.bind (f_X0_firstLaw u) fun r40 =>
    some r40
  else
  some (-1)
set_option maxHeartbeats 4000000 in
set_option maxRecDepth 100000 in
theorem c_X7_laws (l : Launch) {g : Gx} {u : St} {x1 : Int32} {res : Int32} (hf : f_X7_laws u x1 = some res) : CI wC 82 l yX7_laws (wsY yX7_laws cX7_laws 2 (some .int)) (rmX 4 91) g [.ref (g.2.2 0), .int x1] u res u := by
  refine CI_start (by decide +kernel) rfl (Nat.le_of_ble_eq_true rfl) (fun {p e s m args below meth c ls} C Z hl => ?_)
  have hl : lv_has ls 2 [(0, .ref (g.2.2 0)), (1, .int x1)] := hl
  have hx := C.1
  have hb := C.2.1
  unfold f_X7_laws at hf
  refine lv_iload_n hx hb dX7_laws_0 rfl (lv_at hl 1 rfl) ?_
  by_cases hs1_0 : x1 = 0
  · rw [if_pos hs1_0] at hf
    refine lv_lookup (tgt := 28) hx hb dX7_laws_1 (by decide) (by rw [hs1_0]; first | done | rfl) (by decide) ?_
    refine lv_aload_n hx hb dX7_laws_28 rfl (lv_at hl 0 rfl) ?_
    refine gC_0_3 C Z (fl_of C mw_308) dX7_laws_29 ?_
    obtain ⟨r32, hr32, hf⟩ := Option.bind_eq_some_iff.mp hf
    refine call_vi (As := []) (rest := []) C Z (c_X0_lawCount l hr32) mf_X0_lawCount (ml_nest C nw_55) rfl (oC_53 g _) rfl ⟨rfl, rfl, by decide, by decide⟩ rfl hl.1 (Nat.le_of_ble_eq_true rfl) dX7_laws_32 (fun H locs Z => ?_)
    have hf := Option.some.inj hf
    subst hf
    exact ret_i C Z dX7_laws_35
  rw [if_neg hs1_0] at hf
  by_cases hs1_1 : x1 = 1
  · rw [if_pos hs1_1] at hf
    refine lv_lookup (tgt := 36) hx hb dX7_laws_1 (by decide) (by rw [hs1_1]; first | done | rfl) (by decide) ?_
    refine lv_aload_n hx hb dX7_laws_36 rfl (lv_at hl 0 rfl) ?_
    refine gC_0_3 C Z (fl_of C mw_308) dX7_laws_37 ?_
    obtain ⟨r40, hr40, hf⟩ := Option.bind_eq_some_iff.mp hf
    refine call_vi (As := []) (rest := []) C Z (c_X0_firstLaw l hr40) mf_X0_firstLaw (ml_nest C nw_57) rfl (oC_53 g _) rfl ⟨rfl, rfl, by decide, by decide⟩ rfl hl.1 (Nat.le_of_ble_eq_true rfl) dX7_laws_40 (fun H locs Z => ?_)
    have hf := Option.some.inj hf
    subst hf
    exact ret_i C Z dX7_laws_43
  rw [if_neg hs1_1] at hf
  refine lv_lookup (tgt := 44) (off := 43) hx hb dX7_laws_1 (by decide) (by show Op.lookupswitch.offset [(0, 27), (1, 35)] 43 _ = _; rw [lv_osw hs1_0 (by decide), lv_osw hs1_1 (by decide)]; rfl) (by decide) ?_
  refine lv_iconst (v := (-1)) hx hb dX7_laws_44 (by decide +kernel) ?_
  have hf := Option.some.inj hf
  subst hf
  exact ret_i C Z dX7_laws_45
def L_X8_isLaw_4 (k : Int32 → Int32 → Option (Int32)) (u : St) (x1 : Int32) : Nat → Int32 → Int32 → Option (Int32)
  | 0, _, _ => none
  | n + 1, x2, x3 =>
    if (u.1 3) ≤ x3 then
      k x2 x3
    else
      if x2 = 0 then
        L_X8_isLaw_4 k u x1 n 0 (x3 + 1)
      else
        if oob (2 * x3) 12 then none else
        Option.bind (f_X8_sideBy (x1 / 10) (x1 - (x1 / 10) * 10) ((u.2.1 10) (Int32.toNatClampNeg (2 * x3)))) fun r32 =>
        if oob ((2 * x3) + 1) 12 then none else
        if r32 = ((u.2.1 10) (Int32.toNatClampNeg ((2 * x3) + 1))) then
          L_X8_isLaw_4 k u x1 n 1 (x3 + 1)
        else
          L_X8_isLaw_4 k u x1 n 0 (x3 + 1)
set_option maxHeartbeats 4000000 in
set_option maxRecDepth 100000 in
theorem b_X8_isLaw_4 {p : Program} {l : Launch} {e : Env} {s : State} {m : MethodId} {args : Array Value} {below : List Frame} {meth : Method} {c : Code} {g : Gx} {u : St} {x1 : Int32} {res : Int32} {k : Int32 → Int32 → Option (Int32)} (C : Cx p s m meth c args cX8_isLaw RX8 4 (some .boolean) 22 g)
    (hk : ∀ (x2 x3 : Int32) (H : Heap) (locs : List Loc) (ls : Array Slot), Zx wM g (Aw 22 g s.heap.size) s H locs u → lv_has ls 4 [(2, .int x2)] → k x2 x3 = some res → W p l e (rmX 1 22) s m args below meth c H locs 0 0 (QI wM 22 g res u below args s) (F0 m 60 ls [])) :
    ∀ (n : Nat) (x2 x3 : Int32) (H : Heap) (locs : List Loc) (ls : Array Slot), Zx wM g (Aw 22 g s.heap.size) s H locs u → lv_has ls 4 [(0, .ref (g.2.2 0)), (1, .int x1), (2, .int x2), (3, .int x3)] → L_X8_isLaw_4 k u x1 n x2 x3 = some res → W p l e (rmX 1 22) s m args below meth c H locs 0 0 (QI wM 22 g res u below args s) (F0 m 4 ls []) := by
  have hx := C.1
  have hb := C.2.1
  intro n
  induction n with
  | zero =>
    intro x2 x3 H locs ls Z hl hf
    rw [L_X8_isLaw_4.eq_1] at hf
    cases hf
  | succ n ih =>
    intro x2 x3 H locs ls Z hl hf
    rw [L_X8_isLaw_4.eq_2] at hf
    refine lv_iload_n hx hb dX8_isLaw_4 rfl (lv_at hl 3 rfl) ?_
    refine lv_aload_n hx hb dX8_isLaw_5 rfl (lv_at hl 0 rfl) ?_
    refine gM_0_13 C Z (fl_of C mw_830) dX8_isLaw_6 (x := (u.1 3)) rfl ?_
    refine lv_icmp_ge (tgt := 60) hx hb dX8_isLaw_9 (by decide) (fun hc9 => ?_) (fun hc9 => ?_)
    · rw [if_pos hc9] at hf
      exact hk _ _ H locs ls Z (lv_sub hl [2] rfl) hf
    · rw [if_neg hc9] at hf
      refine lv_iload_n hx hb dX8_isLaw_12 rfl (lv_at hl 2 rfl) ?_
      refine lv_if_eq (tgt := 52) hx hb dX8_isLaw_13 (by decide) (fun hc13 => ?_) (fun hc13 => ?_)
      · rw [if_pos hc13] at hf
        refine lv_iconst (v := 0) hx hb dX8_isLaw_52 (by decide +kernel) ?_
        refine lv_istore_n (lv' := [(2, .int 0), (0, .ref (g.2.2 0)), (1, .int x1), (3, .int x3)]) hx hb dX8_isLaw_53 rfl hl (by decide) rfl (fun ls hl => ?_)
        refine lv_iinc (v := (x3 + 1)) (lv' := [(3, .int (x3 + 1)), (2, .int 0), (0, .ref (g.2.2 0)), (1, .int x1)]) hx hb dX8_isLaw_54 hl (k := 3) rfl rfl (by decide) rfl (fun ls hl => ?_)
        refine lv_goto (tgt := 4) hx hb dX8_isLaw_57 (by decide) ?_
        exact ih _ _ _ _ _ Z (lv_sub hl [2, 3, 1, 0] rfl) hf
      · rw [if_neg hc13] at hf
        refine lv_iload_n hx hb dX8_isLaw_16 rfl (lv_at hl 1 rfl) ?_
        refine lv_bipush (v := 10) hx hb dX8_isLaw_17 (by decide +kernel) ?_
        refine lv_idiv hx hb dX8_isLaw_19 (by decide) ?_
        refine lv_iload_n hx hb dX8_isLaw_20 rfl (lv_at hl 1 rfl) ?_
        refine lv_bipush (v := 10) hx hb dX8_isLaw_21 (by decide +kernel) ?_
        refine lv_irem hx hb dX8_isLaw_23 (by decide) ?_
        refine lv_aload_n hx hb dX8_isLaw_24 rfl (lv_at hl 0 rfl) ?_
        refine gM_0_14 C Z (fl_of C mw_831) dX8_isLaw_25 ?_
        refine lv_iconst (v := 2) hx hb dX8_isLaw_28 (by decide +kernel) ?_
        refine lv_iload_n hx hb dX8_isLaw_29 rfl (lv_at hl 3 rfl) ?_
        refine lv_imul hx hb dX8_isLaw_30 ?_
        by_cases ho31 : oob (2 * x3) 12 = true
        · rw [if_pos ho31] at hf; cases hf
        rw [if_neg ho31] at hf
        refine r_ald C Z (aM_11 g _ (f := (u.2.1 10)) rfl) ho31 rfl dX8_isLaw_31 (x := ((u.2.1 10) (Int32.toNatClampNeg (2 * x3)))) rfl ?_
        obtain ⟨r32, hr32, hf⟩ := Option.bind_eq_some_iff.mp hf
        refine call_si (As := [.int (x1 / 10), .int (x1 - (x1 / 10) * 10), .int ((u.2.1 10) (Int32.toNatClampNeg (2 * x3)))]) (rest := []) C Z (c_X8_sideBy l hr32) mf_X8_sideBy (ml_of C mw_1014) rfl ⟨rfl, rfl, by decide, by decide⟩ rfl hl.1 (Nat.le_of_ble_eq_true rfl) dX8_isLaw_32 (fun H locs Z => ?_)
        refine lv_aload_n hx hb dX8_isLaw_35 rfl (lv_at hl 0 rfl) ?_
        refine gM_0_14 C Z (fl_of C mw_831) dX8_isLaw_36 ?_
        refine lv_iconst (v := 2) hx hb dX8_isLaw_39 (by decide +kernel) ?_
        refine lv_iload_n hx hb dX8_isLaw_40 rfl (lv_at hl 3 rfl) ?_
        refine lv_imul hx hb dX8_isLaw_41 ?_
        refine lv_iconst (v := 1) hx hb dX8_isLaw_42 (by decide +kernel) ?_
        refine lv_iadd hx hb dX8_isLaw_43 ?_
        by_cases ho44 : oob ((2 * x3) + 1) 12 = true
        · rw [if_pos ho44] at hf; cases hf
        rw [if_neg ho44] at hf
        refine r_ald C Z (aM_11 g _ (f := (u.2.1 10)) rfl) ho44 rfl dX8_isLaw_44 (x := ((u.2.1 10) (Int32.toNatClampNeg ((2 * x3) + 1)))) rfl ?_
        refine lv_icmp_ne (tgt := 52) hx hb dX8_isLaw_45 (by decide) (fun hc45 => ?_) (fun hc45 => ?_)
        · rw [if_neg hc45] at hf
          refine lv_iconst (v := 0) hx hb dX8_isLaw_52 (by decide +kernel) ?_
          refine lv_istore_n (lv' := [(2, .int 0), (0, .ref (g.2.2 0)), (1, .int x1), (3, .int x3)]) hx hb dX8_isLaw_53 rfl hl (by decide) rfl (fun ls hl => ?_)
          refine lv_iinc (v := (x3 + 1)) (lv' := [(3, .int (x3 + 1)), (2, .int 0), (0, .ref (g.2.2 0)), (1, .int x1)]) hx hb dX8_isLaw_54 hl (k := 3) rfl rfl (by decide) rfl (fun ls hl => ?_)
          refine lv_goto (tgt := 4) hx hb dX8_isLaw_57 (by decide) ?_
          exact ih _ _ _ _ _ Z (lv_sub hl [2, 3, 1, 0] rfl) hf
        · rw [if_pos hc45] at hf
          refine lv_iconst (v := 1) hx hb dX8_isLaw_48 (by decide +kernel) ?_
          refine lv_goto (tgt := 53) hx hb dX8_isLaw_49 (by decide) ?_
          refine lv_istore_n (lv' := [(2, .int 1), (0, .ref (g.2.2 0)), (1, .int x1), (3, .int x3)]) hx hb dX8_isLaw_53 rfl hl (by decide) rfl (fun ls hl => ?_)
          refine lv_iinc (v := (x3 + 1)) (lv' := [(3, .int (x3 + 1)), (2, .int 1), (0, .ref (g.2.2 0)), (1, .int x1)]) hx hb dX8_isLaw_54 hl (k := 3) rfl rfl (by decide) rfl (fun ls hl => ?_)
          refine lv_goto (tgt := 4) hx hb dX8_isLaw_57 (by decide) ?_
          exact ih _ _ _ _ _ Z (lv_sub hl [2, 3, 1, 0] rfl) hf
def f_X8_isLaw (u : St) (x1 : Int32) : Option (Int32) :=
  L_X8_isLaw_4 (fun x2 x3 =>
    if nb x2 then some x2 else none) u x1 FU 1 0
set_option maxHeartbeats 4000000 in
set_option maxRecDepth 100000 in
theorem c_X8_isLaw (l : Launch) {g : Gx} {u : St} {x1 : Int32} {res : Int32} (hf : f_X8_isLaw u x1 = some res) : CI wM 22 l yX8_isLaw (wsY yX8_isLaw cX8_isLaw 4 (some .boolean)) (rmX 1 22) g [.ref (g.2.2 0), .int x1] u res u := by
  refine CI_start (by decide +kernel) rfl (Nat.le_of_ble_eq_true rfl) (fun {p e s m args below meth c ls} C Z hl => ?_)
  have hl : lv_has ls 4 [(0, .ref (g.2.2 0)), (1, .int x1)] := hl
  have hx := C.1
  have hb := C.2.1
  unfold f_X8_isLaw at hf
  refine lv_iconst (v := 1) hx hb dX8_isLaw_0 (by decide +kernel) ?_
  refine lv_istore_n (lv' := [(2, .int 1), (0, .ref (g.2.2 0)), (1, .int x1)]) hx hb dX8_isLaw_1 rfl hl (by decide) rfl (fun ls hl => ?_)
  refine lv_iconst (v := 0) hx hb dX8_isLaw_2 (by decide +kernel) ?_
  refine lv_istore_n (lv' := [(3, .int 0), (2, .int 1), (0, .ref (g.2.2 0)), (1, .int x1)]) hx hb dX8_isLaw_3 rfl hl (by decide) rfl (fun ls hl => ?_)
  refine b_X8_isLaw_4 C (fun x2 x3 H locs ls Z hl hf => ?_) FU _ _ _ _ _ Z (lv_sub hl [2, 3, 1, 0] rfl) hf
  refine lv_iload_n hx hb dX8_isLaw_60 rfl (lv_at hl 0 rfl) ?_
  by_cases hn61 : nb x2 = true
  · rw [if_pos hn61] at hf
    have hf := Option.some.inj hf
    subst hf
    exact ret_z C Z hn61 dX8_isLaw_61
  · rw [if_neg hn61] at hf
    cases hf
