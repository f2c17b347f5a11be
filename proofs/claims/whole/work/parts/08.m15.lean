def L_X6_seeAllIn_2 (k : Int32 → St → Option (St)) (x1 : Int32) : Nat → Int32 → St → Option (St)
  | 0, _, _ => none
  | n + 1, x2, u =>
    if (u.1 8) ≤ x2 then
      k x2 u
    else
      Option.bind (f_X1_cellOf u x2 x1) fun r19 =>
      if r19 = (-9) then
        L_X6_seeAllIn_2 k x1 n (x2 + 1) u
      else
        Option.bind (f_X1_isSmoky u r19 x1) fun r35 =>
        if r35 = 0 then
          Option.bind (f_X6_seeOne u x2 r19 x1) fun r45 =>
          L_X6_seeAllIn_2 k x1 n (x2 + 1) r45
        else
          L_X6_seeAllIn_2 k x1 n (x2 + 1) u
set_option maxHeartbeats 4000000 in
set_option maxRecDepth 100000 in
theorem b_X6_seeAllIn_2 {p : Program} {l : Launch} {e : Env} {s : State} {m : MethodId} {args : Array Value} {below : List Frame} {meth : Method} {c : Code} {g : Gx} {x1 : Int32} {res : St} {k : Int32 → St → Option (St)} (C : Cx p s m meth c args cX6_seeAllIn RX6 4 (none) 82 g)
    (hk : ∀ (x2 : Int32) (u : St) (H : Heap) (locs : List Loc) (ls : Array Slot), Zx wC g (Aw 82 g s.heap.size) s H locs u → lv_has ls 4 [] → k x2 u = some res → W p l e (rmX 4 101) s m args below meth c H locs 0 0 (QV wC 82 g res below args s) (F0 m 54 ls [])) :
    ∀ (n : Nat) (x2 : Int32) (u : St) (H : Heap) (locs : List Loc) (ls : Array Slot), Zx wC g (Aw 82 g s.heap.size) s H locs u → lv_has ls 4 [(0, .ref (g.2.2 23)), (1, .int x1), (2, .int x2)] → L_X6_seeAllIn_2 k x1 n x2 u = some res → W p l e (rmX 4 101) s m args below meth c H locs 0 0 (QV wC 82 g res below args s) (F0 m 2 ls []) := by
  have hx := C.1
  have hb := C.2.1
  intro n
  induction n with
  | zero =>
    intro x2 u H locs ls Z hl hf
    rw [L_X6_seeAllIn_2.eq_1] at hf
    cases hf
  | succ n ih =>
    intro x2 u H locs ls Z hl hf
    rw [L_X6_seeAllIn_2.eq_2] at hf
    refine lv_iload_n hx hb dX6_seeAllIn_2 rfl (lv_at hl 2 rfl) ?_
    refine lv_aload_n hx hb dX6_seeAllIn_3 rfl (lv_at hl 0 rfl) ?_
    refine gC_23_0 C Z (fl_of C mw_253) dX6_seeAllIn_4 ?_
    refine gC_24_5 C Z (fl_nest C nw_82) dX6_seeAllIn_7 (x := (u.1 8)) rfl ?_
    refine lv_icmp_ge (tgt := 54) hx hb dX6_seeAllIn_10 (by decide) (fun hc10 => ?_) (fun hc10 => ?_)
    · rw [if_pos hc10] at hf
      exact hk _ _ H locs ls Z (lv_sub hl [] rfl) hf
    · rw [if_neg hc10] at hf
      refine lv_aload_n hx hb dX6_seeAllIn_13 rfl (lv_at hl 0 rfl) ?_
      refine gC_23_0 C Z (fl_of C mw_253) dX6_seeAllIn_14 ?_
      refine lv_iload_n hx hb dX6_seeAllIn_17 rfl (lv_at hl 2 rfl) ?_
      refine lv_iload_n hx hb dX6_seeAllIn_18 rfl (lv_at hl 1 rfl) ?_
      obtain ⟨r19, hr19, hf⟩ := Option.bind_eq_some_iff.mp hf
      refine call_vi (As := [.int x2, .int x1]) (rest := []) C Z (c_X1_cellOf l hr19) mf_X1_cellOf (ml_nest C nw_36) rfl (oC_24 g _) rfl ⟨rfl, rfl, by decide, by decide⟩ rfl hl.1 (Nat.le_of_ble_eq_true rfl) dX6_seeAllIn_19 (fun H locs Z => ?_)
      refine lv_istore_n (lv' := [(3, .int r19), (0, .ref (g.2.2 23)), (1, .int x1), (2, .int x2)]) hx hb dX6_seeAllIn_22 rfl hl (by decide) rfl (fun ls hl => ?_)
      refine lv_iload_n hx hb dX6_seeAllIn_23 rfl (lv_at hl 0 rfl) ?_
      refine lv_bipush (v := (-9)) hx hb dX6_seeAllIn_24 (by decide +kernel) ?_
      refine lv_icmp_eq (tgt := 48) hx hb dX6_seeAllIn_26 (by decide) (fun hc26 => ?_) (fun hc26 => ?_)
      · rw [if_pos hc26] at hf
        refine lv_iinc (v := (x2 + 1)) (lv' := [(2, .int (x2 + 1)), (3, .int r19), (0, .ref (g.2.2 23)), (1, .int x1)]) hx hb dX6_seeAllIn_48 hl (k := 3) rfl rfl (by decide) rfl (fun ls hl => ?_)
        refine lv_goto (tgt := 2) hx hb dX6_seeAllIn_51 (by decide) ?_
        exact ih _ _ _ _ _ Z (lv_sub hl [2, 3, 0] rfl) hf
      · rw [if_neg hc26] at hf
        refine lv_aload_n hx hb dX6_seeAllIn_29 rfl (lv_at hl 1 rfl) ?_
        refine gC_23_0 C Z (fl_of C mw_253) dX6_seeAllIn_30 ?_
        refine lv_iload_n hx hb dX6_seeAllIn_33 rfl (lv_at hl 0 rfl) ?_
        refine lv_iload_n hx hb dX6_seeAllIn_34 rfl (lv_at hl 2 rfl) ?_
        obtain ⟨r35, hr35, hf⟩ := Option.bind_eq_some_iff.mp hf
        refine call_vi (As := [.int r19, .int x1]) (rest := []) C Z (c_X1_isSmoky l hr35) mf_X1_isSmoky (ml_nest C nw_37) rfl (oC_24 g _) rfl ⟨rfl, rfl, by decide, by decide⟩ rfl hl.1 (Nat.le_of_ble_eq_true rfl) dX6_seeAllIn_35 (fun H locs Z => ?_)
        refine lv_if_ne (tgt := 48) hx hb dX6_seeAllIn_38 (by decide) (fun hc38 => ?_) (fun hc38 => ?_)
        · rw [if_neg hc38] at hf
          refine lv_iinc (v := (x2 + 1)) (lv' := [(2, .int (x2 + 1)), (3, .int r19), (0, .ref (g.2.2 23)), (1, .int x1)]) hx hb dX6_seeAllIn_48 hl (k := 3) rfl rfl (by decide) rfl (fun ls hl => ?_)
          refine lv_goto (tgt := 2) hx hb dX6_seeAllIn_51 (by decide) ?_
          exact ih _ _ _ _ _ Z (lv_sub hl [2, 3, 0] rfl) hf
        · rw [if_pos hc38] at hf
          refine lv_aload_n hx hb dX6_seeAllIn_41 rfl (lv_at hl 1 rfl) ?_
          refine lv_iload_n hx hb dX6_seeAllIn_42 rfl (lv_at hl 3 rfl) ?_
          refine lv_iload_n hx hb dX6_seeAllIn_43 rfl (lv_at hl 0 rfl) ?_
          refine lv_iload_n hx hb dX6_seeAllIn_44 rfl (lv_at hl 2 rfl) ?_
          obtain ⟨r45, hr45, hf⟩ := Option.bind_eq_some_iff.mp hf
          refine call_vv (As := [.int x2, .int r19, .int x1]) (rest := []) C Z (c_X6_seeOne l hr45) mf_X6_seeOne (ml_of C mw_554) rfl (oC_23 g _) rfl ⟨rfl, rfl, by decide, by decide⟩ rfl hl.1 (Nat.le_of_ble_eq_true rfl) dX6_seeAllIn_45 (fun H locs Z => ?_)
          refine lv_iinc (v := (x2 + 1)) (lv' := [(2, .int (x2 + 1)), (3, .int r19), (0, .ref (g.2.2 23)), (1, .int x1)]) hx hb dX6_seeAllIn_48 hl (k := 3) rfl rfl (by decide) rfl (fun ls hl => ?_)
          refine lv_goto (tgt := 2) hx hb dX6_seeAllIn_51 (by decide) ?_
          exact ih _ _ _ _ _ Z (lv_sub hl [2, 3, 0] rfl) hf
def f_X6_seeAllIn (u : St) (x1 : Int32) : Option (St) :=
  L_X6_seeAllIn_2 (fun x2 u2 =>
    some u2) x1 FU 0 u
set_option maxHeartbeats 4000000 in
set_option maxRecDepth 100000 in
theorem c_X6_seeAllIn (l : Launch) {g : Gx} {u : St} {x1 : Int32} {res : St} (hf : f_X6_seeAllIn u x1 = some res) : CV wC 82 l yX6_seeAllIn (wsY yX6_seeAllIn cX6_seeAllIn 4 (none)) (rmX 4 101) g [.ref (g.2.2 23), .int x1] u res := by
  refine CV_start (by decide +kernel) rfl (Nat.le_of_ble_eq_true rfl) (fun {p e s m args below meth c ls} C Z hl => ?_)
  have hl : lv_has ls 4 [(0, .ref (g.2.2 23)), (1, .int x1)] := hl
  have hx := C.1
  have hb := C.2.1
  unfold f_X6_seeAllIn at hf
  refine lv_iconst (v := 0) hx hb dX6_seeAllIn_0 (by decide +kernel) ?_
  refine lv_istore_n (lv' := [(2, .int 0), (0, .ref (g.2.2 23)), (1, .int x1)]) hx hb dX6_seeAllIn_1 rfl hl (by decide) rfl (fun ls hl => ?_)
  refine b_X6_seeAllIn_2 C (fun x2 u2 H locs ls Z hl hf => ?_) FU _ _ _ _ _ Z (lv_sub hl [1, 2, 0] rfl) hf
  have hf := Option.some.inj hf
  subst hf
  exact ret_v C Z dX6_seeAllIn_54
def L_X6_goBy_30 (k : Int32 → St → Option (St)) (x2 : Int32) : Nat → Int32 → St → Option (St)
  | 0, _, _ => none
  | n + 1, x3, u =>
    if x2 ≤ x3 then
      k x3 u
    else
      Option.bind (f_X6_seeAllIn u x3) fun r37 =>
      L_X6_goBy_30 k x2 n (x3 + 1) r37
set_option maxHeartbeats 4000000 in
set_option maxRecDepth 100000 in
theorem b_X6_goBy_30 {p : Program} {l : Launch} {e : Env} {s : State} {m : MethodId} {args : Array Value} {below : List Frame} {meth : Method} {c : Code} {g : Gx} {x2 : Int32} {res : St} {k : Int32 → St → Option (St)} (C : Cx p s m meth c args cX6_goBy RX6 4 (none) 82 g)
    (hk : ∀ (x3 : Int32) (u : St) (H : Heap) (locs : List Loc) (ls : Array Slot), Zx wC g (Aw 82 g s.heap.size) s H locs u → lv_has ls 4 [(0, .ref (g.2.2 23)), (2, .int x2)] → k x3 u = some res → W p l e (rmX 5 124) s m args below meth c H locs 0 0 (QV wC 82 g res below args s) (F0 m 46 ls [])) :
    ∀ (n : Nat) (x3 : Int32) (u : St) (H : Heap) (locs : List Loc) (ls : Array Slot), Zx wC g (Aw 82 g s.heap.size) s H locs u → lv_has ls 4 [(0, .ref (g.2.2 23)), (2, .int x2), (3, .int x3)] → L_X6_goBy_30 k x2 n x3 u = some res → W p l e (rmX 5 124) s m args below meth c H locs 0 0 (QV wC 82 g res below args s) (F0 m 30 ls []) := by
  have hx := C.1
  have hb := C.2.1
  intro n
  induction n with
  | zero =>
    intro x3 u H locs ls Z hl hf
    rw [L_X6_goBy_30.eq_1] at hf
    cases hf
  | succ n ih =>
    intro x3 u H locs ls Z hl hf
    rw [L_X6_goBy_30.eq_2] at hf
    refine lv_iload_n hx hb dX6_goBy_30 rfl (lv_at hl 2 rfl) ?_
    refine lv_iload_n hx hb dX6_goBy_31 rfl (lv_at hl 1 rfl) ?_
    refine lv_icmp_ge (tgt := 46) hx hb dX6_goBy_32 (by decide) (fun hc32 => ?_) (fun hc32 => ?_)
    · rw [if_pos hc32] at hf
      exact hk _ _ H locs ls Z (lv_sub hl [0, 1] rfl) hf
    · rw [if_neg hc32] at hf
      refine lv_aload_n hx hb dX6_goBy_35 rfl (lv_at hl 0 rfl) ?_
      refine lv_iload_n hx hb dX6_goBy_36 rfl (lv_at hl 2 rfl) ?_
      obtain ⟨r37, hr37, hf⟩ := Option.bind_eq_some_iff.mp hf
      refine call_vv (As := [.int x3]) (rest := []) C Z (c_X6_seeAllIn l hr37) mf_X6_seeAllIn (ml_of C mw_544) rfl (oC_23 g _) rfl ⟨rfl, rfl, by decide, by decide⟩ rfl hl.1 (Nat.le_of_ble_eq_true rfl) dX6_goBy_37 (fun H locs Z => ?_)
      refine lv_iinc (v := (x3 + 1)) (lv' := [(3, .int (x3 + 1)), (0, .ref (g.2.2 23)), (2, .int x2)]) hx hb dX6_goBy_40 hl (k := 2) rfl rfl (by decide) rfl (fun ls hl => ?_)
      refine lv_goto (tgt := 30) hx hb dX6_goBy_43 (by decide) ?_
      exact ih _ _ _ _ _ Z (lv_sub hl [1, 2, 0] rfl) hf
def f_X6_goBy (u : St) (x1 : Int32) : Option (St) :=
  Option.bind (f_X3_rememberHour u) fun r4 =>
  L_X6_goBy_30 (fun x3 u30 =>
    some (sI u30 10 (if 30 < ((r4.1 10) + x1) then 30 else ((r4.1 10) + x1)))) (if 30 < ((r4.1 10) + x1) then 30 else ((r4.1 10) + x1)) FU (r4.1 10) r4
set_option maxHeartbeats 4000000 in
set_option maxRecDepth 100000 in
theorem c_X6_goBy (l : Launch) {g : Gx} {u : St} {x1 : Int32} {res : St} (hf : f_X6_goBy u x1 = some res) : CV wC 82 l yX6_goBy (wsY yX6_goBy cX6_goBy 4 (none)) (rmX 5 124) g [.ref (g.2.2 23), .int x1] u res := by
  refine CV_start (by decide +kernel) rfl (Nat.le_of_ble_eq_true rfl) (fun {p e s m args below meth c ls} C Z hl => ?_)
  have hl : lv_has ls 4 [(0, .ref (g.2.2 23)), (1, .int x1)] := hl
  have hx := C.1
  have hb := C.2.1
  unfold f_X6_goBy at hf
  refine lv_aload_n hx hb dX6_goBy_0 rfl (lv_at hl 0 rfl) ?_
  refine gC_23_1 C Z (fl_of C mw_256) dX6_goBy_1 ?_
  obtain ⟨r4, hr4, hf⟩ := Option.bind_eq_some_iff.mp hf
  refine call_vv (As := []) (rest := []) C Z (c_X3_rememberHour l hr4) mf_X3_rememberHour (ml_nest C nw_35) rfl (oC_42 g _) rfl ⟨rfl, rfl, by decide, by decide⟩ rfl hl.1 (Nat.le_of_ble_eq_true rfl) dX6_goBy_4 (fun H locs Z => ?_)
  refine lv_aload_n hx hb dX6_goBy_7 rfl (lv_at hl 0 rfl) ?_
  refine gC_23_1 C Z (fl_of C mw_256) dX6_goBy_8 ?_
  refine gC_42_0 C Z (fl_nest C nw_89) dX6_goBy_11 (x := (r4.1 10)) rfl ?_
  refine lv_iload_n hx hb dX6_goBy_14 rfl (lv_at hl 1 rfl) ?_
  refine lv_iadd hx hb dX6_goBy_15 ?_
  refine lv_bipush (v := 30) hx hb dX6_goBy_16 (by decide +kernel) ?_
  refine r_min C mw_543 ⟨⟨mw_438, mw_109⟩, mw_439⟩ hl.1 (by decide) (Nat.le_of_ble_eq_true rfl) dX6_goBy_18 ?_
  refine lv_istore_n (lv' := [(2, .int (if 30 < ((r4.1 10) + x1) then 30 else ((r4.1 10) + x1))), (0, .ref (g.2.2 23)), (1, .int x1)]) hx hb dX6_goBy_21 rfl hl (by decide) rfl (fun ls hl => ?_)
  refine lv_aload_n hx hb dX6_goBy_22 rfl (lv_at hl 1 rfl) ?_
  refine gC_23_1 C Z (fl_of C mw_256) dX6_goBy_23 ?_
  refine gC_42_0 C Z (fl_nest C nw_89) dX6_goBy_26 (x := (r4.1 10)) rfl ?_
  refine lv_istore_n (lv' := [(3, .int (r4.1 10)), (2, .int (if 30 < ((r4.1 10) + x1) then 30 else ((r4.1 10) + x1))), (0, .ref (g.2.2 23)), (1, .int x1)]) hx hb dX6_goBy_29 rfl hl (by decide) rfl (fun ls hl => ?_)
  refine b_X6_goBy_30 C (fun x3 u30 H locs ls Z hl hf => ?_) FU _ _ _ _ _ Z (lv_sub hl [2, 1, 0] rfl) hf
  refine lv_aload_n hx hb dX6_goBy_46 rfl (lv_at hl 0 rfl) ?_
  refine gC_23_1 C Z (fl_of C mw_256) dX6_goBy_47 ?_
  refine lv_iload_n hx hb dX6_goBy_50 rfl (lv_at hl 1 rfl) ?_
  refine pC_42_0 C Z (fl_nest C nw_89) dX6_goBy_51 (fun H locs Z => ?_)
  have hf := Option.some.inj hf
  subst hf
  exact ret_v C Z dX6_goBy_54
def f_X7_hours (u : St) (x1 : Int32) : Option (Int32 × St) :=
  Option.bind (f_X7_isWithin x1 1 9) fun r4 =>
  if r4 = 0 then
    some ((-1), u)
  else
    if (u.1 10) < 30 then
      Option.bind (f_X6_goBy u x1) fun r35 =>
      some ((r35.1 10), r35)
    else
      some ((-2), u)
set_option maxHeartbeats 4000000 in
set_option maxRecDepth 100000 in
theorem c_X7_hours (l : Launch) {g : Gx} {u : St} {x1 : Int32} {res : Int32 × St} (hf : f_X7_hours u x1 = some res) : CI wC 82 l yX7_hours (wsY yX7_hours cX7_hours 2 (some .int)) (rmX 6 147) g [.ref (g.2.2 0), .int x1] u res.1 res.2 := by
  refine CI_start (by decide +kernel) rfl (Nat.le_of_ble_eq_true rfl) (fun {p e s m args below meth c ls} C Z hl => ?_)
  have hl : lv_has ls 2 [(0, .ref (g.2.2 0)), (1, .int x1)] := hl
  have hx := C.1
  have hb := C.2.1
  unfold f_X7_hours at hf
  refine lv_iload_n hx hb dX7_hours_0 rfl (lv_at hl 1 rfl) ?_
  refine lv_iconst (v := 1) hx hb dX7_hours_1 (by decide +kernel) ?_
  refine lv_bipush (v := 9) hx hb dX7_hours_2 (by decide +kernel) ?_
  obtain ⟨r4, hr4, hf⟩ := Option.bind_eq_some_iff.mp hf
  refine call_si (As := [.int x1, .int 1, .int 9]) (rest := []) C Z (c_X7_isWithin l hr4) mf_X7_isWithin (ml_of C mw_331) rfl ⟨rfl, rfl, by decide, by decide⟩ rfl hl.1 (Nat.le_of_ble_eq_true rfl) dX7_hours_4 (fun H locs Z => ?_)
  refine lv_if_ne (tgt := 12) hx hb dX7_hours_7 (by decide) (fun hc7 => ?_) (fun hc7 => ?_)
  · rw [if_neg hc7] at hf
    refine lv_aload_n hx hb dX7_hours_12 rfl (lv_at hl 0 rfl) ?_
    refine gC_0_2 C Z (fl_of C mw_307) dX7_hours_13 ?_
    refine gC_23_1 C Z (fl_nest C nw_100) dX7_hours_16 ?_
    refine gC_42_0 C Z (fl_nest C nw_87) dX7_hours_19 (x := (u.1 10)) rfl ?_
    refine lv_bipush (v := 30) hx hb dX7_hours_22 (by decide +kernel) ?_
    refine lv_icmp_lt (tgt := 30) hx hb dX7_hours_24 (by decide) (fun hc24 => ?_) (fun hc24 => ?_)
    · rw [if_pos hc24] at hf
      refine lv_aload_n hx hb dX7_hours_30 rfl (lv_at hl 0 rfl) ?_
      refine gC_0_2 C Z (fl_of C mw_307) dX7_hours_31 ?_
      refine lv_iload_n hx hb dX7_hours_34 rfl (lv_at hl 1 rfl) ?_
      obtain ⟨r35, hr35, hf⟩ := Option.bind_eq_some_iff.mp hf
      refine call_vv (As := [.int x1]) (rest := []) C Z (c_X6_goBy l hr35) mf_X6_goBy (ml_nest C nw_34) rfl (oC_23 g _) rfl ⟨rfl, rfl, by decide, by decide⟩ rfl hl.1 (Nat.le_of_ble_eq_true rfl) dX7_hours_35 (fun H locs Z => ?_)
      refine lv_aload_n hx hb dX7_hours_38 rfl (lv_at hl 0 rfl) ?_
      refine gC_0_2 C Z (fl_of C mw_307) dX7_hours_39 ?_
      refine gC_23_1 C Z (fl_nest C nw_100) dX7_hours_42 ?_
      refine gC_42_0 C Z (fl_nest C nw_87) dX7_hours_45 (x := (r35.1 10)) rfl ?_
      have hf := Option.some.inj hf
      subst hf
      exact ret_i C Z dX7_hours_48
    · rw [if_neg hc24] at hf
      refine lv_bipush (v := (-2)) hx hb dX7_hours_27 (by decide +kernel) ?_
      have hf := Option.some.inj hf
      subst hf
      exact ret_i C Z dX7_hours_29
  · rw [if_pos hc7] at hf
    refine lv_iconst (v := (-1)) hx hb dX7_hours_10 (by decide +kernel) ?_
    have hf := Option.some.inj hf
    subst hf
    exact ret_i C Z dX7_hours_11
def L_X8_remembers_70 (k : Int32 → St → Option (St)) (x1 : Int32) : Nat → Int32 → St → Option (St)
  | 0, _, _ => none
  | n + 1, x2, u =>
    if 46 ≤ x2 then
      k x2 u
    else
      if oob x2 507 then none else
      if oob (x1 + x2) 507 then none else
      L_X8_remembers_70 k x1 n (x2 + 1) (sA u 7 (upd (u.2.1 7) (Int32.toNatClampNeg (x1 + x2)) ((u.2.1 7) (Int32.toNatClampNeg x2))))
set_option maxHeartbeats 4000000 in
set_option maxRecDepth 100000 in
theorem b_X8_remembers_70 {p : Program} {l : Launch} {e : Env} {s : State} {m : MethodId} {args : Array Value} {below : List Frame} {meth : Method} {c : Code} {g : Gx} {x1 : Int32} {res : St} {k : Int32 → St → Option (St)} (C : Cx p s m meth c args cX8_remembers RX8 3 (none) 22 g)
    (hk : ∀ (x2 : Int32) (u : St) (H : Heap) (locs : List Loc) (ls : Array Slot), Zx wM g (Aw 22 g s.heap.size) s H locs u → lv_has ls 3 [(0, .ref (g.2.2 0))] → k x2 u = some res → W p l e (rmX 0 0) s m args below meth c H locs 0 0 (QV wM 22 g res below args s) (F0 m 96 ls [])) :
    ∀ (n : Nat) (x2 : Int32) (u : St) (H : Heap) (locs : List Loc) (ls : Array Slot), Zx wM g (Aw 22 g s.heap.size) s H locs u → lv_has ls 3 [(0, .ref (g.2.2 0)), (1, .int x1), (2, .int x2)] → L_X8_remembers_70 k x1 n x2 u = some res → W p l e (rmX 0 0) s m args below meth c H locs 0 0 (QV wM 22 g res below args s) (F0 m 70 ls []) := by
  have hx := C.1
  have hb := C.2.1
  intro n
  induction n with
  | zero =>
    intro x2 u H locs ls Z hl hf
    rw [L_X8_remembers_70.eq_1] at hf
    cases hf
  | succ n ih =>
    intro x2 u H locs ls Z hl hf
    rw [L_X8_remembers_70.eq_2] at hf
    refine lv_iload_n hx hb dX8_remembers_70 rfl (lv_at hl 2 rfl) ?_
    refine lv_bipush (v := 46) hx hb dX8_remembers_71 (by decide +kernel) ?_
    refine lv_icmp_ge (tgt := 96) hx hb dX8_remembers_73 (by decide) (fun hc73 => ?_) (fun hc73 => ?_)
    · rw [if_pos hc73] at hf
      exact hk _ _ H locs ls Z (lv_sub hl [0] rfl) hf
    · rw [if_neg hc73] at hf
      refine lv_aload_n hx hb dX8_remembers_76 rfl (lv_at hl 0 rfl) ?_
      refine gM_0_10 C Z (fl_of C mw_827) dX8_remembers_77 ?_
      refine lv_iload_n hx hb dX8_remembers_80 rfl (lv_at hl 1 rfl) ?_
      refine lv_iload_n hx hb dX8_remembers_81 rfl (lv_at hl 2 rfl) ?_
      refine lv_iadd hx hb dX8_remembers_82 ?_
      refine lv_aload_n hx hb dX8_remembers_83 rfl (lv_at hl 0 rfl) ?_
      refine gM_0_10 C Z (fl_of C mw_827) dX8_remembers_84 ?_
      refine lv_iload_n hx hb dX8_remembers_87 rfl (lv_at hl 2 rfl) ?_
      by_cases ho88 : oob x2 507 = true
      · rw [if_pos ho88] at hf; cases hf
      rw [if_neg ho88] at hf
      refine r_ald C Z (aM_8 g _ (f := (u.2.1 7)) rfl) ho88 rfl dX8_remembers_88 (x := ((u.2.1 7) (Int32.toNatClampNeg x2))) rfl ?_
      by_cases ho89 : oob (x1 + x2) 507 = true
      · rw [if_pos ho89] at hf; cases hf
      rw [if_neg ho89] at hf
      refine r_ast C wokM Z (aM_8 g _ (f := (u.2.1 7)) rfl) ho89 rfl (sM_8 g _ _) dX8_remembers_89 (fun H locs Z => ?_)
      refine lv_iinc (v := (x2 + 1)) (lv' := [(2, .int (x2 + 1)), (0, .ref (g.2.2 0)), (1, .int x1)]) hx hb dX8_remembers_90 hl (k := 2) rfl rfl (by decide) rfl (fun ls hl => ?_)
      refine lv_goto (tgt := 70) hx hb dX8_remembers_93 (by decide) ?_
      exact ih _ _ _ _ _ Z (lv_sub hl [1, 2, 0] rfl) hf
def L_X8_remembers_15 (k : Int32 → St → Option (St)) : Nat → Int32 → St → Option (St)
  | 0, _, _ => none
  | n + 1, x1, u =>
    if 461 ≤ x1 then
      k x1 u
    else
      if oob (x1 + 46) 507 then none else
      if oob x1 507 then none else
      L_X8_remembers_15 k n (x1 + 1) (sA u 7 (upd (u.2.1 7) (Int32.toNatClampNeg x1) ((u.2.1 7) (Int32.toNatClampNeg (x1 + 46)))))
set_option maxHeartbeats 4000000 in
set_option maxRecDepth 100000 in
theorem b_X8_remembers_15 {p : Program} {l : Launch} {e : Env} {s : State} {m : MethodId} {args : Array Value} {below : List Frame} {meth : Method} {c : Code} {g : Gx} {res : St} {k : Int32 → St → Option (St)} (C : Cx p s m meth c args cX8_remembers RX8 3 (none) 22 g)
    (hk : ∀ (x1 : Int32) (u : St) (H : Heap) (locs : List Loc) (ls : Array Slot), Zx wM g (Aw 22 g s.heap.size) s H locs u → lv_has ls 3 [(0, .ref (g.2.2 0))] → k x1 u = some res → W p l e (rmX 0 0) s m args below meth c H locs 0 0 (QV wM 22 g res below args s) (F0 m 43 ls [])) :
    ∀ (n : Nat) (x1 : Int32) (u : St) (H : Heap) (locs : List Loc) (ls : Array Slot), Zx wM g (Aw 22 g s.heap.size) s H locs u → lv_has ls 3 [(0, .ref (g.2.2 0)), (1, .int x1)] → L_X8_remembers_15 k n x1 u = some res → W p l e (rmX 0 0) s m args below meth c H locs 0 0 (QV wM 22 g res below args s) (F0 m 15 ls []) := by
  have hx := C.1
  have hb := C.2.1
  intro n
  induction n with
  | zero =>
    intro x1 u H locs ls Z hl hf
    rw [L_X8_remembers_15.eq_1] at hf
    cases hf
  | succ n ih =>
    intro x1 u H locs ls Z hl hf
    rw [L_X8_remembers_15.eq_2] at hf
    refine lv_iload_n hx hb dX8_remembers_15 rfl (lv_at hl 1 rfl) ?_
    refine lv_sipush (v := 461) hx hb dX8_remembers_16 (by decide +kernel) ?_
    refine lv_icmp_ge (tgt := 43) hx hb dX8_remembers_19 (by decide) (fun hc19 => ?_) (fun hc19 => ?_)
    · rw [if_pos hc19] at hf
      exact hk _ _ H locs ls Z (lv_sub hl [0] rfl) hf
    · rw [if_neg hc19] at hf
      refine lv_aload_n hx hb dX8_remembers_22 rfl (lv_at hl 0 rfl) ?_
      refine gM_0_10 C Z (fl_of C mw_827) dX8_remembers_23 ?_
      refine lv_iload_n hx hb dX8_remembers_26 rfl (lv_at hl 1 rfl) ?_
      refine lv_aload_n hx hb dX8_remembers_27 rfl (lv_at hl 0 rfl) ?_
      refine gM_0_10 C Z (fl_of C mw_827) dX8_remembers_28 ?_
      refine lv_iload_n hx hb dX8_remembers_31 rfl (lv_at hl 1 rfl) ?_
      refine lv_bipush (v := 46) hx hb dX8_remembers_32 (by decide +kernel) ?_
      refine lv_iadd hx hb dX8_remembers_34 ?_
      by_cases ho35 : oob (x1 + 46) 507 = true
      · rw [if_pos ho35] at hf; cases hf
      rw [if_neg ho35] at hf
      refine r_ald C Z (aM_8 g _ (f := (u.2.1 7)) rfl) ho35 rfl dX8_remembers_35 (x := ((u.2.1 7) (Int32.toNatClampNeg (x1 + 46)))) rfl ?_
      by_cases ho36 : oob x1 507 = true
      · rw [if_pos ho36] at hf; cases hf
      rw [if_neg ho36] at hf
      refine r_ast C wokM Z (aM_8 g _ (f := (u.2.1 7)) rfl) ho36 rfl (sM_8 g _ _) dX8_remembers_36 (fun H locs Z => ?_)
      refine lv_iinc (v := (x1 + 1)) (lv' := [(1, .int (x1 + 1)), (0, .ref (g.2.2 0))]) hx hb dX8_remembers_37 hl (k := 1) rfl rfl (by decide) rfl (fun ls hl => ?_)
      refine lv_goto (tgt := 15) hx hb dX8_remembers_40 (by decide) ?_
      exact ih _ _ _ _ _ Z (lv_sub hl [1, 0] rfl) hf
def f_X8_remembers (u : St) : Option (St) :=
  if ((u.2.1 7) 46) = 10 then
    L_X8_remembers_15 (fun x1 u15 =>
      L_X8_remembers_70 (fun x2 u70 =>
        some (sA u70 7 (upd (u70.2.1 7) 46 (((u70.2.1 7) 46) + 1)))) (47 + (46 * ((upd (u15.2.1 7) 46 (((u15.2.1 7) 46) - 1)) 46))) FU 0 (sA u15 7 (upd (u15.2.1 7) 46 (((u15.2.1 7) 46) - 1)))) FU 47 u
  else
    L_X8_remembers_70 (fun x2 u70 =>
      some (sA u70 7 (upd (u70.2.1 7) 46 (((u70.2.1 7) 46) + 1)))) (47 + (46 * ((u.2.1 7) 46))) FU 0 u
set_option maxHeartbeats 4000000 in
set_option maxRecDepth 100000 in
theorem c_X8_remembers (l : Launch) {g : Gx} {u : St} {res : St} (hf : f_X8_remembers u = some res) : CV wM 22 l yX8_remembers (wsY yX8_remembers cX8_remembers 3 (none)) (rmX 0 0) g [.ref (g.2.2 0)] u res := by
  refine CV_start (by decide +kernel) rfl (Nat.le_of_ble_eq_true rfl) (fun {p e s m args below meth c ls} C Z hl => ?_)
  have hl : lv_has ls 3 [(0, .ref (g.2.2 0))] := hl
  have hx := C.1
  have hb := C.2.1
  unfold f_X8_remembers at hf
  refine lv_aload_n hx hb dX8_remembers_0 rfl (lv_at hl 0 rfl) ?_
  refine gM_0_10 C Z (fl_of C mw_827) dX8_remembers_1 ?_
  refine lv_bipush (v := 46) hx hb dX8_remembers_4 (by decide +kernel) ?_
  refine r_ald C Z (aM_8 g _ (f := (u.2.1 7)) rfl) (by decide) (k := 46) (by decide) dX8_remembers_6 (x := ((u.2.1 7) 46)) rfl ?_
  refine lv_bipush (v := 10) hx hb dX8_remembers_7 (by decide +kernel) ?_
  refine lv_icmp_ne (tgt := 54) hx hb dX8_remembers_9 (by decide) (fun hc9 => ?_) (fun hc9 => ?_)
  · rw [if_neg hc9] at hf
    refine lv_bipush (v := 47) hx hb dX8_remembers_54 (by decide +kernel) ?_
    refine lv_bipush (v := 46) hx hb dX8_remembers_56 (by decide +kernel) ?_
    refine lv_aload_n hx hb dX8_remembers_58 rfl (lv_at hl 0 rfl) ?_
    refine gM_0_10 C Z (fl_of C mw_827) dX8_remembers_59 ?_
    refine lv_bipush (v := 46) hx hb dX8_remembers_62 (by decide +kernel) ?_
    refine r_ald C Z (aM_8 g _ (f := (u.2.1 7)) rfl) (by decide) (k := 46) (by decide) dX8_remembers_64 (x := ((u.2.1 7) 46)) rfl ?_
    refine lv_imul hx hb dX8_remembers_65 ?_
    refine lv_iadd hx hb dX8_remembers_66 ?_
    refine lv_istore_n (lv' := [(1, .int (47 + (46 * ((u.2.1 7) 46)))), (0, .ref (g.2.2 0))]) hx hb dX8_remembers_67 rfl hl (by decide) rfl (fun ls hl => ?_)
    refine lv_iconst (v := 0) hx hb dX8_remembers_68 (by decide +kernel) ?_
    refine lv_istore_n (lv' := [(2, .int 0), (1, .int (47 + (46 * ((u.2.1 7) 46)))), (0, .ref (g.2.2 0))]) hx hb dX8_remembers_69 rfl hl (by decide) rfl (fun ls hl => ?_)
    refine b_X8_remembers_70 C (fun x2 u70 H locs ls Z hl hf => ?_) FU _ _ _ _ _ Z (lv_sub hl [2, 1, 0] rfl) hf
    refine lv_aload_n hx hb dX8_remembers_96 rfl (lv_at hl 0 rfl) ?_
    refine gM_0_10 C Z (fl_of C mw_827) dX8_remembers_97 ?_
    refine lv_bipush (v := 46) hx hb dX8_remembers_100 (by decide +kernel) ?_
    refine lv_dup2_11 hx hb dX8_remembers_102 rfl rfl ?_
    refine r_ald C Z (aM_8 g _ (f := (u70.2.1 7)) rfl) (by decide) (k := 46) (by decide) dX8_remembers_103 (x := ((u70.2.1 7) 46)) rfl ?_
    refine lv_iconst (v := 1) hx hb dX8_remembers_104 (by decide +kernel) ?_
    refine lv_iadd hx hb dX8_remembers_105 ?_
    refine r_ast C wokM Z (aM_8 g _ (f := (u70.2.1 7)) rfl) (by decide) (k := 46) (by decide) (sM_8 g _ _) dX8_remembers_106 (fun H locs Z => ?_)
    have hf := Option.some.inj hf
    subst hf
    exact ret_v C Z dX8_remembers_107
  · rw [if_pos hc9] at hf
    refine lv_bipush (v := 47) hx hb dX8_remembers_12 (by decide +kernel) ?_
    refine lv_istore_n (lv' := [(1, .int 47), (0, .ref (g.2.2 0))]) hx hb dX8_remembers_14 rfl hl (by decide) rfl (fun ls hl => ?_)
    refine b_X8_remembers_15 C (fun x1 u15 H locs ls Z hl hf => ?_) FU _ _ _ _ _ Z (lv_sub hl [1, 0] rfl) hf
    refine lv_aload_n hx hb dX8_remembers_43 rfl (lv_at hl 0 rfl) ?_
    refine gM_0_10 C Z (fl_of C mw_827) dX8_remembers_44 ?_
    refine lv_bipush (v := 46) hx hb dX8_remembers_47 (by decide +kernel) ?_
    refine lv_dup2_11 hx hb dX8_remembers_49 rfl rfl ?_
    refine r_ald C Z (aM_8 g _ (f := (u15.2.1 7)) rfl) (by decide) (k := 46) (by decide) dX8_remembers_50 (x := ((u15.2.1 7) 46)) rfl ?_
    refine lv_iconst (v := 1) hx hb dX8_remembers_51 (by decide +kernel) ?_
    refine lv_isub hx hb dX8_remembers_52 ?_
    refine r_ast C wokM Z (aM_8 g _ (f := (u15.2.1 7)) rfl) (by decide) (k := 46) (by decide) (sM_8 g _ _) dX8_remembers_53 (fun H locs Z => ?_)
    refine lv_bipush (v := 47) hx hb dX8_remembers_54 (by decide +kernel) ?_
    refine lv_bipush (v := 46) hx hb dX8_remembers_56 (by decide +kernel) ?_
    refine lv_aload_n hx hb dX8_remembers_58 rfl (lv_at hl 0 rfl) ?_
    refine gM_0_10 C Z (fl_of C mw_827) dX8_remembers_59 ?_
    refine lv_bipush (v := 46) hx hb dX8_remembers_62 (by decide +kernel) ?_
    refine r_ald C Z (aM_8 g _ (f := (upd (u15.2.1 7) 46 (((u15.2.1 7) 46) - 1))) rfl) (by decide) (k := 46) (by decide) dX8_remembers_64 (x := ((upd (u15.2.1 7) 46 (((u15.2.1 7) 46) - 1)) 46)) rfl ?_
    refine lv_imul hx hb dX8_remembers_65 ?_
    refine lv_iadd hx hb dX8_remembers_66 ?_
    refine lv_istore_n (lv' := [(1, .int (47 + (46 * ((upd (u15.2.1 7) 46 (((u15.2.1 7) 46) - 1)) 46)))), (0, .ref (g.2.2 0))]) hx hb dX8_remembers_67 rfl hl (by decide) rfl (fun ls hl => ?_)
    refine lv_iconst (v := 0) hx hb dX8_remembers_68 (by decide +kernel) ?_
    refine lv_istore_n (lv' := [(2, .int 0), (1, .int (47 + (46 * ((upd (u15.2.1 7) 46 (((u15.2.1 7) 46) - 1)) 46)))), (0, .ref (g.2.2 0))]) hx hb dX8_remembers_69 rfl hl (by decide) rfl (fun ls hl => ?_)
    refine b_X8_remembers_70 C (fun x2 u70 H locs ls Z hl hf => ?_) FU _ _ _ _ _ Z (lv_sub hl [2, 1, 0] rfl) hf
    refine lv_aload_n hx hb dX8_remembers_96 rfl (lv_at hl 0 rfl) ?_
    refine gM_0_10 C Z (fl_of C mw_827) dX8_remembers_97 ?_
    refine lv_bipush (v := 46) hx hb dX8_remembers_100 (by decide +kernel) ?_
    refine lv_dup2_11 hx hb dX8_remembers_102 rfl rfl ?_
    refine r_ald C Z (aM_8 g _ (f := (u70.2.1 7)) rfl) (by decide) (k := 46) (by decide) dX8_remembers_103 (x := ((u70.2.1 7) 46)) rfl ?_
    refine lv_iconst (v := 1) hx hb dX8_remembers_104 (by decide +kernel) ?_
    refine lv_iadd hx hb dX8_remembers_105 ?_
    refine r_ast C wokM Z (aM_8 g _ (f := (u70.2.1 7)) rfl) (by decide) (k := 46) (by decide) (sM_8 g _ _) dX8_remembers_106 (fun H locs Z => ?_)
    have hf := Option.some.inj hf
    subst hf
    exact ret_v C Z dX8_remembers_107
