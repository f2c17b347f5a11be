def f_X7_view (u : St) (x1 x2 : Int32) : Option (Int32) :=
  Option.bind (f_X7_isCock u x1) fun r2 =>
  if r2 = 0 then
    some (-1)
  else
    Option.bind (f_X7_isHour x2) fun r9 =>
    if r9 = 0 then
      some (-1)
    else
      Option.bind (f_X6_viewOf u x1 x2) fun r21 =>
      some r21
set_option maxHeartbeats 4000000 in
set_option maxRecDepth 100000 in
theorem c_X7_view (l : Launch) {g : Gx} {u : St} {x1 x2 : Int32} {res : Int32} (hf : f_X7_view u x1 x2 = some res) : CI wC 82 l yX7_view (wsY yX7_view cX7_view 3 (some .int)) (rmX 4 101) g [.ref (g.2.2 0), .int x1, .int x2] u res u := by
  refine CI_start (by decide +kernel) rfl (Nat.le_of_ble_eq_true rfl) (fun {p e s m args below meth c ls} C Z hl => ?_)
  have hl : lv_has ls 3 [(0, .ref (g.2.2 0)), (1, .int x1), (2, .int x2)] := hl
  have hx := C.1
  have hb := C.2.1
  unfold f_X7_view at hf
  refine lv_aload_n hx hb dX7_view_0 rfl (lv_at hl 0 rfl) ?_
  refine lv_iload_n hx hb dX7_view_1 rfl (lv_at hl 1 rfl) ?_
  obtain ⟨r2, hr2, hf⟩ := Option.bind_eq_some_iff.mp hf
  refine call_vi (As := [.int x1]) (rest := []) C Z (c_X7_isCock l hr2) mf_X7_isCock (ml_of C mw_463) rfl (oC_0 g _) rfl ⟨rfl, rfl, by decide, by decide⟩ rfl hl.1 (Nat.le_of_ble_eq_true rfl) dX7_view_2 (fun H locs Z => ?_)
  refine lv_if_eq (tgt := 27) hx hb dX7_view_5 (by decide) (fun hc5 => ?_) (fun hc5 => ?_)
  · rw [if_pos hc5] at hf
    refine lv_iconst (v := (-1)) hx hb dX7_view_27 (by decide +kernel) ?_
    have hf := Option.some.inj hf
    subst hf
    exact ret_i C Z dX7_view_28
  · rw [if_neg hc5] at hf
    refine lv_iload_n hx hb dX7_view_8 rfl (lv_at hl 2 rfl) ?_
    obtain ⟨r9, hr9, hf⟩ := Option.bind_eq_some_iff.mp hf
    refine call_si (As := [.int x2]) (rest := []) C Z (c_X7_isHour l hr9) mf_X7_isHour (ml_of C mw_644) rfl ⟨rfl, rfl, by decide, by decide⟩ rfl hl.1 (Nat.le_of_ble_eq_true rfl) dX7_view_9 (fun H locs Z => ?_)
    refine lv_if_eq (tgt := 27) hx hb dX7_view_12 (by decide) (fun hc12 => ?_) (fun hc12 => ?_)
    · rw [if_pos hc12] at hf
      refine lv_iconst (v := (-1)) hx hb dX7_view_27 (by decide +kernel) ?_
      have hf := Option.some.inj hf
      subst hf
      exact ret_i C Z dX7_view_28
    · rw [if_neg hc12] at hf
      refine lv_aload_n hx hb dX7_view_15 rfl (lv_at hl 0 rfl) ?_
      refine gC_0_2 C Z (fl_of C mw_308) dX7_view_16 ?_
      refine lv_iload_n hx hb dX7_view_19 rfl (lv_at hl 1 rfl) ?_
      refine lv_iload_n hx hb dX7_view_20 rfl (lv_at hl 2 rfl) ?_
      obtain ⟨r21, hr21, hf⟩ := Option.bind_eq_some_iff.mp hf
      refine call_vi (As := [.int x1, .int x2]) (rest := []) C Z (c_X6_viewOf l hr21) mf_X6_viewOf (ml_nest C nw_51) rfl (oC_23 g _) rfl ⟨rfl, rfl, by decide, by decide⟩ rfl hl.1 (Nat.le_of_ble_eq_true rfl) dX7_view_21 (fun H locs Z => ?_)
      refine lv_goto (tgt := 28) hx hb dX7_view_24 (by decide) ?_
      have hf := Option.some.inj hf
      subst hf
      exact ret_i C Z dX7_view_28
def f_X8_isHour (x0 : Int32) : Option (Int32) :=
  Option.bind (f_X8_in x0 0 29) fun r4 =>
  if nb r4 then some r4 else none
set_option maxHeartbeats 4000000 in
set_option maxRecDepth 100000 in
theorem c_X8_isHour (l : Launch) {g : Gx} {u : St} {x0 : Int32} {res : Int32} (hf : f_X8_isHour x0 = some res) : CI wM 22 l yX8_isHour (wsY yX8_isHour cX8_isHour 1 (some .boolean)) (rmX 1 22) g [.int x0] u res u := by
  refine CI_start (by decide +kernel) rfl (Nat.le_of_ble_eq_true rfl) (fun {p e s m args below meth c ls} C Z hl => ?_)
  have hl : lv_has ls 1 [(0, .int x0)] := hl
  have hx := C.1
  have hb := C.2.1
  unfold f_X8_isHour at hf
  refine lv_iload_n hx hb dX8_isHour_0 rfl (lv_at hl 0 rfl) ?_
  refine lv_iconst (v := 0) hx hb dX8_isHour_1 (by decide +kernel) ?_
  refine lv_bipush (v := 29) hx hb dX8_isHour_2 (by decide +kernel) ?_
  obtain ⟨r4, hr4, hf⟩ := Option.bind_eq_some_iff.mp hf
  refine call_si (As := [.int x0, .int 0, .int 29]) (rest := []) C Z (c_X8_in l hr4) mf_X8_in (ml_of C mw_940) rfl ⟨rfl, rfl, by decide, by decide⟩ rfl hl.1 (Nat.le_of_ble_eq_true rfl) dX8_isHour_4 (fun H locs Z => ?_)
  by_cases hn7 : nb r4 = true
  · rw [if_pos hn7] at hf
    have hf := Option.some.inj hf
    subst hf
    exact ret_z C Z hn7 dX8_isHour_7
  · rw [if_neg hn7] at hf
    cases hf
def L_X8_viewOf_5 (k : Int32 → Int32 → Option (Int32)) (u : St) (x1 x2 : Int32) : Nat → Int32 → Int32 → Option (Int32)
  | 0, _, _ => none
  | n + 1, x3, x4 =>
    if 24 ≤ x4 then
      k x3 x4
    else
      Option.bind (f_X8_sees u x1 x4 x2) fun r18 =>
      if r18 = 0 then
        L_X8_viewOf_5 k u x1 x2 n (x3 ||| 0) (x4 + 1)
      else
        L_X8_viewOf_5 k u x1 x2 n (x3 ||| (1 <<< (x4 &&& 31))) (x4 + 1)
set_option maxHeartbeats 4000000 in
set_option maxRecDepth 100000 in
theorem b_X8_viewOf_5 {p : Program} {l : Launch} {e : Env} {s : State} {m : MethodId} {args : Array Value} {below : List Frame} {meth : Method} {c : Code} {g : Gx} {u : St} {x1 x2 : Int32} {res : Int32} {k : Int32 → Int32 → Option (Int32)} (C : Cx p s m meth c args cX8_viewOf RX8 5 (some .int) 22 g)
    (hk : ∀ (x3 x4 : Int32) (H : Heap) (locs : List Loc) (ls : Array Slot), Zx wM g (Aw 22 g s.heap.size) s H locs u → lv_has ls 5 [(3, .int x3)] → k x3 x4 = some res → W p l e (rmX 3 72) s m args below meth c H locs 0 0 (QI wM 22 g res u below args s) (F0 m 40 ls [])) :
    ∀ (n : Nat) (x3 x4 : Int32) (H : Heap) (locs : List Loc) (ls : Array Slot), Zx wM g (Aw 22 g s.heap.size) s H locs u → lv_has ls 5 [(0, .ref (g.2.2 0)), (1, .int x1), (2, .int x2), (3, .int x3), (4, .int x4)] → L_X8_viewOf_5 k u x1 x2 n x3 x4 = some res → W p l e (rmX 3 72) s m args below meth c H locs 0 0 (QI wM 22 g res u below args s) (F0 m 5 ls []) := by
  have hx := C.1
  have hb := C.2.1
  intro n
  induction n with
  | zero =>
    intro x3 x4 H locs ls Z hl hf
    rw [L_X8_viewOf_5.eq_1] at hf
    cases hf
  | succ n ih =>
    intro x3 x4 H locs ls Z hl hf
    rw [L_X8_viewOf_5.eq_2] at hf
    refine lv_iload hx hb dX8_viewOf_5 (lv_at hl 4 rfl) ?_
    refine lv_bipush (v := 24) hx hb dX8_viewOf_7 (by decide +kernel) ?_
    refine lv_icmp_ge (tgt := 40) hx hb dX8_viewOf_9 (by decide) (fun hc9 => ?_) (fun hc9 => ?_)
    · rw [if_pos hc9] at hf
      exact hk _ _ H locs ls Z (lv_sub hl [3] rfl) hf
    · rw [if_neg hc9] at hf
      refine lv_iload_n hx hb dX8_viewOf_12 rfl (lv_at hl 3 rfl) ?_
      refine lv_aload_n hx hb dX8_viewOf_13 rfl (lv_at hl 0 rfl) ?_
      refine lv_iload_n hx hb dX8_viewOf_14 rfl (lv_at hl 1 rfl) ?_
      refine lv_iload hx hb dX8_viewOf_15 (lv_at hl 4 rfl) ?_
      refine lv_iload_n hx hb dX8_viewOf_17 rfl (lv_at hl 2 rfl) ?_
      obtain ⟨r18, hr18, hf⟩ := Option.bind_eq_some_iff.mp hf
      refine call_vi (As := [.int x1, .int x4, .int x2]) (rest := [.int x3]) C Z (c_X8_sees l hr18) mf_X8_sees (ml_of C mw_1074) rfl (oM_0 g _) rfl ⟨rfl, rfl, by decide, by decide⟩ rfl hl.1 (Nat.le_of_ble_eq_true rfl) dX8_viewOf_18 (fun H locs Z => ?_)
      refine lv_if_eq (tgt := 31) hx hb dX8_viewOf_21 (by decide) (fun hc21 => ?_) (fun hc21 => ?_)
      · rw [if_pos hc21] at hf
        refine lv_iconst (v := 0) hx hb dX8_viewOf_31 (by decide +kernel) ?_
        refine lv_ior hx hb dX8_viewOf_32 ?_
        refine lv_istore_n (lv' := [(3, .int (x3 ||| 0)), (0, .ref (g.2.2 0)), (1, .int x1), (2, .int x2), (4, .int x4)]) hx hb dX8_viewOf_33 rfl hl (by decide) rfl (fun ls hl => ?_)
        refine lv_iinc (v := (x4 + 1)) (lv' := [(4, .int (x4 + 1)), (3, .int (x3 ||| 0)), (0, .ref (g.2.2 0)), (1, .int x1), (2, .int x2)]) hx hb dX8_viewOf_34 hl (k := 4) rfl rfl (by decide) rfl (fun ls hl => ?_)
        refine lv_goto (tgt := 5) hx hb dX8_viewOf_37 (by decide) ?_
        exact ih _ _ _ _ _ Z (lv_sub hl [2, 3, 4, 1, 0] rfl) hf
      · rw [if_neg hc21] at hf
        refine lv_iconst (v := 1) hx hb dX8_viewOf_24 (by decide +kernel) ?_
        refine lv_iload hx hb dX8_viewOf_25 (lv_at hl 4 rfl) ?_
        refine lv_ishl hx hb dX8_viewOf_27 ?_
        refine lv_goto (tgt := 32) hx hb dX8_viewOf_28 (by decide) ?_
        refine lv_ior hx hb dX8_viewOf_32 ?_
        refine lv_istore_n (lv' := [(3, .int (x3 ||| (1 <<< (x4 &&& 31)))), (0, .ref (g.2.2 0)), (1, .int x1), (2, .int x2), (4, .int x4)]) hx hb dX8_viewOf_33 rfl hl (by decide) rfl (fun ls hl => ?_)
        refine lv_iinc (v := (x4 + 1)) (lv' := [(4, .int (x4 + 1)), (3, .int (x3 ||| (1 <<< (x4 &&& 31)))), (0, .ref (g.2.2 0)), (1, .int x1), (2, .int x2)]) hx hb dX8_viewOf_34 hl (k := 4) rfl rfl (by decide) rfl (fun ls hl => ?_)
        refine lv_goto (tgt := 5) hx hb dX8_viewOf_37 (by decide) ?_
        exact ih _ _ _ _ _ Z (lv_sub hl [2, 3, 4, 1, 0] rfl) hf
def f_X8_viewOf (u : St) (x1 x2 : Int32) : Option (Int32) :=
  L_X8_viewOf_5 (fun x3 x4 =>
    some x3) u x1 x2 FU 0 0
set_option maxHeartbeats 4000000 in
set_option maxRecDepth 100000 in
theorem c_X8_viewOf (l : Launch) {g : Gx} {u : St} {x1 x2 : Int32} {res : Int32} (hf : f_X8_viewOf u x1 x2 = some res) : CI wM 22 l yX8_viewOf (wsY yX8_viewOf cX8_viewOf 5 (some .int)) (rmX 3 72) g [.ref (g.2.2 0), .int x1, .int x2] u res u := by
  refine CI_start (by decide +kernel) rfl (Nat.le_of_ble_eq_true rfl) (fun {p e s m args below meth c ls} C Z hl => ?_)
  have hl : lv_has ls 5 [(0, .ref (g.2.2 0)), (1, .int x1), (2, .int x2)] := hl
  have hx := C.1
  have hb := C.2.1
  unfold f_X8_viewOf at hf
  refine lv_iconst (v := 0) hx hb dX8_viewOf_0 (by decide +kernel) ?_
  refine lv_istore_n (lv' := [(3, .int 0), (0, .ref (g.2.2 0)), (1, .int x1), (2, .int x2)]) hx hb dX8_viewOf_1 rfl hl (by decide) rfl (fun ls hl => ?_)
  refine lv_iconst (v := 0) hx hb dX8_viewOf_2 (by decide +kernel) ?_
  refine lv_istore (lv' := [(4, .int 0), (3, .int 0), (0, .ref (g.2.2 0)), (1, .int x1), (2, .int x2)]) hx hb dX8_viewOf_3 hl (by decide) rfl (fun ls hl => ?_)
  refine b_X8_viewOf_5 C (fun x3 x4 H locs ls Z hl hf => ?_) FU _ _ _ _ _ Z (lv_sub hl [2, 3, 4, 1, 0] rfl) hf
  refine lv_iload_n hx hb dX8_viewOf_40 rfl (lv_at hl 0 rfl) ?_
  have hf := Option.some.inj hf
  subst hf
  exact ret_i C Z dX8_viewOf_41
def f_X8_view (u : St) (x1 x2 : Int32) : Option (Int32) :=
  Option.bind (f_X8_isCock u x1) fun r2 =>
  if r2 = 0 then
    some (-1)
  else
    Option.bind (f_X8_isHour x2) fun r9 =>
    if r9 = 0 then
      some (-1)
    else
      Option.bind (f_X8_viewOf u x1 x2) fun r18 =>
      some r18
set_option maxHeartbeats 4000000 in
set_option maxRecDepth 100000 in
theorem c_X8_view (l : Launch) {g : Gx} {u : St} {x1 x2 : Int32} {res : Int32} (hf : f_X8_view u x1 x2 = some res) : CI wM 22 l yX8_view (wsY yX8_view cX8_view 3 (some .int)) (rmX 4 96) g [.ref (g.2.2 0), .int x1, .int x2] u res u := by
  refine CI_start (by decide +kernel) rfl (Nat.le_of_ble_eq_true rfl) (fun {p e s m args below meth c ls} C Z hl => ?_)
  have hl : lv_has ls 3 [(0, .ref (g.2.2 0)), (1, .int x1), (2, .int x2)] := hl
  have hx := C.1
  have hb := C.2.1
  unfold f_X8_view at hf
  refine lv_aload_n hx hb dX8_view_0 rfl (lv_at hl 0 rfl) ?_
  refine lv_iload_n hx hb dX8_view_1 rfl (lv_at hl 1 rfl) ?_
  obtain ⟨r2, hr2, hf⟩ := Option.bind_eq_some_iff.mp hf
  refine call_vi (As := [.int x1]) (rest := []) C Z (c_X8_isCock l hr2) mf_X8_isCock (ml_of C mw_1012) rfl (oM_0 g _) rfl ⟨rfl, rfl, by decide, by decide⟩ rfl hl.1 (Nat.le_of_ble_eq_true rfl) dX8_view_2 (fun H locs Z => ?_)
  refine lv_if_eq (tgt := 24) hx hb dX8_view_5 (by decide) (fun hc5 => ?_) (fun hc5 => ?_)
  · rw [if_pos hc5] at hf
    refine lv_iconst (v := (-1)) hx hb dX8_view_24 (by decide +kernel) ?_
    have hf := Option.some.inj hf
    subst hf
    exact ret_i C Z dX8_view_25
  · rw [if_neg hc5] at hf
    refine lv_iload_n hx hb dX8_view_8 rfl (lv_at hl 2 rfl) ?_
    obtain ⟨r9, hr9, hf⟩ := Option.bind_eq_some_iff.mp hf
    refine call_si (As := [.int x2]) (rest := []) C Z (c_X8_isHour l hr9) mf_X8_isHour (ml_of C mw_1121) rfl ⟨rfl, rfl, by decide, by decide⟩ rfl hl.1 (Nat.le_of_ble_eq_true rfl) dX8_view_9 (fun H locs Z => ?_)
    refine lv_if_eq (tgt := 24) hx hb dX8_view_12 (by decide) (fun hc12 => ?_) (fun hc12 => ?_)
    · rw [if_pos hc12] at hf
      refine lv_iconst (v := (-1)) hx hb dX8_view_24 (by decide +kernel) ?_
      have hf := Option.some.inj hf
      subst hf
      exact ret_i C Z dX8_view_25
    · rw [if_neg hc12] at hf
      refine lv_aload_n hx hb dX8_view_15 rfl (lv_at hl 0 rfl) ?_
      refine lv_iload_n hx hb dX8_view_16 rfl (lv_at hl 1 rfl) ?_
      refine lv_iload_n hx hb dX8_view_17 rfl (lv_at hl 2 rfl) ?_
      obtain ⟨r18, hr18, hf⟩ := Option.bind_eq_some_iff.mp hf
      refine call_vi (As := [.int x1, .int x2]) (rest := []) C Z (c_X8_viewOf l hr18) mf_X8_viewOf (ml_of C mw_1124) rfl (oM_0 g _) rfl ⟨rfl, rfl, by decide, by decide⟩ rfl hl.1 (Nat.le_of_ble_eq_true rfl) dX8_view_18 (fun H locs Z => ?_)
      refine lv_goto (tgt := 25) hx hb dX8_view_21 (by decide) ?_
      have hf := Option.some.inj hf
      subst hf
      exact ret_i C Z dX8_view_25
def L_X6_unseenIn_4 (k : Int32 → Int32 → Option (Int32)) (u : St) (x1 : Int32) : Nat → Int32 → Int32 → Option (Int32)
  | 0, _, _ => none
  | n + 1, x2, x3 =>
    if (u.1 7) ≤ x3 then
      k x2 x3
    else
      Option.bind (f_X3_isAsked u x3) fun r20 =>
      if r20 = 0 then
        Option.bind (f_X6_viewOf u x3 x1) fun r30 =>
        L_X6_unseenIn_4 k u x1 n (x2 ||| r30) (x3 + 1)
      else
        L_X6_unseenIn_4 k u x1 n x2 (x3 + 1)
set_option maxHeartbeats 4000000 in
set_option maxRecDepth 100000 in
theorem b_X6_unseenIn_4 {p : Program} {l : Launch} {e : Env} {s : State} {m : MethodId} {args : Array Value} {below : List Frame} {meth : Method} {c : Code} {g : Gx} {u : St} {x1 : Int32} {res : Int32} {k : Int32 → Int32 → Option (Int32)} (C : Cx p s m meth c args cX6_unseenIn RX6 4 (some .int) 82 g)
    (hk : ∀ (x2 x3 : Int32) (H : Heap) (locs : List Loc) (ls : Array Slot), Zx wC g (Aw 82 g s.heap.size) s H locs u → lv_has ls 4 [(2, .int x2)] → k x2 x3 = some res → W p l e (rmX 4 101) s m args below meth c H locs 0 0 (QI wC 82 g res u below args s) (F0 m 41 ls [])) :
    ∀ (n : Nat) (x2 x3 : Int32) (H : Heap) (locs : List Loc) (ls : Array Slot), Zx wC g (Aw 82 g s.heap.size) s H locs u → lv_has ls 4 [(0, .ref (g.2.2 23)), (1, .int x1), (2, .int x2), (3, .int x3)] → L_X6_unseenIn_4 k u x1 n x2 x3 = some res → W p l e (rmX 4 101) s m args below meth c H locs 0 0 (QI wC 82 g res u below args s) (F0 m 4 ls []) := by
  have hx := C.1
  have hb := C.2.1
  intro n
  induction n with
  | zero =>
    intro x2 x3 H locs ls Z hl hf
    rw [L_X6_unseenIn_4.eq_1] at hf
    cases hf
  | succ n ih =>
    intro x2 x3 H locs ls Z hl hf
    rw [L_X6_unseenIn_4.eq_2] at hf
    refine lv_iload_n hx hb dX6_unseenIn_4 rfl (lv_at hl 3 rfl) ?_
    refine lv_aload_n hx hb dX6_unseenIn_5 rfl (lv_at hl 0 rfl) ?_
    refine gC_23_0 C Z (fl_of C mw_254) dX6_unseenIn_6 ?_
    refine gC_24_4 C Z (fl_nest C nw_80) dX6_unseenIn_9 (x := (u.1 7)) rfl ?_
    refine lv_icmp_ge (tgt := 41) hx hb dX6_unseenIn_12 (by decide) (fun hc12 => ?_) (fun hc12 => ?_)
    · rw [if_pos hc12] at hf
      exact hk _ _ H locs ls Z (lv_sub hl [2] rfl) hf
    · rw [if_neg hc12] at hf
      refine lv_aload_n hx hb dX6_unseenIn_15 rfl (lv_at hl 0 rfl) ?_
      refine gC_23_1 C Z (fl_of C mw_257) dX6_unseenIn_16 ?_
      refine lv_iload_n hx hb dX6_unseenIn_19 rfl (lv_at hl 3 rfl) ?_
      obtain ⟨r20, hr20, hf⟩ := Option.bind_eq_some_iff.mp hf
      refine call_vi (As := [.int x3]) (rest := []) C Z (c_X3_isAsked l hr20) mf_X3_isAsked (ml_nest C nw_39) rfl (oC_42 g _) rfl ⟨rfl, rfl, by decide, by decide⟩ rfl hl.1 (Nat.le_of_ble_eq_true rfl) dX6_unseenIn_20 (fun H locs Z => ?_)
      refine lv_if_ne (tgt := 35) hx hb dX6_unseenIn_23 (by decide) (fun hc23 => ?_) (fun hc23 => ?_)
      · rw [if_neg hc23] at hf
        refine lv_iinc (v := (x3 + 1)) (lv' := [(3, .int (x3 + 1)), (0, .ref (g.2.2 23)), (1, .int x1), (2, .int x2)]) hx hb dX6_unseenIn_35 hl (k := 3) rfl rfl (by decide) rfl (fun ls hl => ?_)
        refine lv_goto (tgt := 4) hx hb dX6_unseenIn_38 (by decide) ?_
        exact ih _ _ _ _ _ Z (lv_sub hl [1, 2, 3, 0] rfl) hf
      · rw [if_pos hc23] at hf
        refine lv_iload_n hx hb dX6_unseenIn_26 rfl (lv_at hl 2 rfl) ?_
        refine lv_aload_n hx hb dX6_unseenIn_27 rfl (lv_at hl 0 rfl) ?_
        refine lv_iload_n hx hb dX6_unseenIn_28 rfl (lv_at hl 3 rfl) ?_
        refine lv_iload_n hx hb dX6_unseenIn_29 rfl (lv_at hl 1 rfl) ?_
        obtain ⟨r30, hr30, hf⟩ := Option.bind_eq_some_iff.mp hf
        refine call_vi (As := [.int x3, .int x1]) (rest := [.int x2]) C Z (c_X6_viewOf l hr30) mf_X6_viewOf (ml_of C mw_659) rfl (oC_23 g _) rfl ⟨rfl, rfl, by decide, by decide⟩ rfl hl.1 (Nat.le_of_ble_eq_true rfl) dX6_unseenIn_30 (fun H locs Z => ?_)
        refine lv_ior hx hb dX6_unseenIn_33 ?_
        refine lv_istore_n (lv' := [(2, .int (x2 ||| r30)), (0, .ref (g.2.2 23)), (1, .int x1), (3, .int x3)]) hx hb dX6_unseenIn_34 rfl hl (by decide) rfl (fun ls hl => ?_)
        refine lv_iinc (v := (x3 + 1)) (lv' := [(3, .int (x3 + 1)), (2, .int (x2 ||| r30)), (0, .ref (g.2.2 23)), (1, .int x1)]) hx hb dX6_unseenIn_35 hl (k := 3) rfl rfl (by decide) rfl (fun ls hl => ?_)
        refine lv_goto (tgt := 4) hx hb dX6_unseenIn_38 (by decide) ?_
        exact ih _ _ _ _ _ Z (lv_sub hl [2, 3, 1, 0] rfl) hf
def f_X6_unseenIn (u : St) (x1 : Int32) : Option (Int32) :=
  L_X6_unseenIn_4 (fun x2 x3 =>
    some ((x2 ^^^ (-1)) &&& 16777215)) u x1 FU 0 0
set_option maxHeartbeats 4000000 in
set_option maxRecDepth 100000 in
theorem c_X6_unseenIn (l : Launch) {g : Gx} {u : St} {x1 : Int32} {res : Int32} (hf : f_X6_unseenIn u x1 = some res) : CI wC 82 l yX6_unseenIn (wsY yX6_unseenIn cX6_unseenIn 4 (some .int)) (rmX 4 101) g [.ref (g.2.2 23), .int x1] u res u := by
  refine CI_start (by decide +kernel) rfl (Nat.le_of_ble_eq_true rfl) (fun {p e s m args below meth c ls} C Z hl => ?_)
  have hl : lv_has ls 4 [(0, .ref (g.2.2 23)), (1, .int x1)] := hl
  have hx := C.1
  have hb := C.2.1
  unfold f_X6_unseenIn at hf
  refine lv_iconst (v := 0) hx hb dX6_unseenIn_0 (by decide +kernel) ?_
  refine lv_istore_n (lv' := [(2, .int 0), (0, .ref (g.2.2 23)), (1, .int x1)]) hx hb dX6_unseenIn_1 rfl hl (by decide) rfl (fun ls hl => ?_)
  refine lv_iconst (v := 0) hx hb dX6_unseenIn_2 (by decide +kernel) ?_
  refine lv_istore_n (lv' := [(3, .int 0), (2, .int 0), (0, .ref (g.2.2 23)), (1, .int x1)]) hx hb dX6_unseenIn_3 rfl hl (by decide) rfl (fun ls hl => ?_)
  refine b_X6_unseenIn_4 C (fun x2 x3 H locs ls Z hl hf => ?_) FU _ _ _ _ _ Z (lv_sub hl [2, 3, 1, 0] rfl) hf
  refine lv_iload_n hx hb dX6_unseenIn_41 rfl (lv_at hl 0 rfl) ?_
  refine lv_iconst (v := (-1)) hx hb dX6_unseenIn_42 (by decide +kernel) ?_
  refine lv_ixor hx hb dX6_unseenIn_43 ?_
  refine lv_ldc (v := 16777215) hx hb C.2.2.2.1 (C.2.2.2.2.1 _ mw_660) dX6_unseenIn_44 ?_
  refine lv_iand hx hb dX6_unseenIn_46 ?_
  have hf := Option.some.inj hf
  subst hf
  exact ret_i C Z dX6_unseenIn_47
def f_X7_blind (u : St) (x1 : Int32) : Option (Int32) :=
  Option.bind (f_X7_isHour x1) fun r1 =>
  if r1 = 0 then
    some (-1)
  else
    Option.bind (f_X6_unseenIn u x1) fun r12 =>
    some r12
set_option maxHeartbeats 4000000 in
set_option maxRecDepth 100000 in
theorem c_X7_blind (l : Launch) {g : Gx} {u : St} {x1 : Int32} {res : Int32} (hf : f_X7_blind u x1 = some res) : CI wC 82 l yX7_blind (wsY yX7_blind cX7_blind 2 (some .int)) (rmX 5 124) g [.ref (g.2.2 0), .int x1] u res u := by
  refine CI_start (by decide +kernel) rfl (Nat.le_of_ble_eq_true rfl) (fun {p e s m args below meth c ls} C Z hl => ?_)
  have hl : lv_has ls 2 [(0, .ref (g.2.2 0)), (1, .int x1)] := hl
  have hx := C.1
  have hb := C.2.1
  unfold f_X7_blind at hf
  refine lv_iload_n hx hb dX7_blind_0 rfl (lv_at hl 1 rfl) ?_
  obtain ⟨r1, hr1, hf⟩ := Option.bind_eq_some_iff.mp hf
  refine call_si (As := [.int x1]) (rest := []) C Z (c_X7_isHour l hr1) mf_X7_isHour (ml_of C mw_644) rfl ⟨rfl, rfl, by decide, by decide⟩ rfl hl.1 (Nat.le_of_ble_eq_true rfl) dX7_blind_1 (fun H locs Z => ?_)
  refine lv_if_eq (tgt := 18) hx hb dX7_blind_4 (by decide) (fun hc4 => ?_) (fun hc4 => ?_)
  · rw [if_pos hc4] at hf
    refine lv_iconst (v := (-1)) hx hb dX7_blind_18 (by decide +kernel) ?_
    have hf := Option.some.inj hf
    subst hf
    exact ret_i C Z dX7_blind_19
  · rw [if_neg hc4] at hf
    refine lv_aload_n hx hb dX7_blind_7 rfl (lv_at hl 0 rfl) ?_
    refine gC_0_2 C Z (fl_of C mw_308) dX7_blind_8 ?_
    refine lv_iload_n hx hb dX7_blind_11 rfl (lv_at hl 1 rfl) ?_
    obtain ⟨r12, hr12, hf⟩ := Option.bind_eq_some_iff.mp hf
    refine call_vi (As := [.int x1]) (rest := []) C Z (c_X6_unseenIn l hr12) mf_X6_unseenIn (ml_nest C nw_52) rfl (oC_23 g _) rfl ⟨rfl, rfl, by decide, by decide⟩ rfl hl.1 (Nat.le_of_ble_eq_true rfl) dX7_blind_12 (fun H locs Z => ?_)
    refine lv_goto (tgt := 19) hx hb dX7_blind_15 (by decide) ?_
    have hf := Option.some.inj hf
    subst hf
    exact ret_i C Z dX7_blind_19
def L_X8_blind_14 (k : Int32 → Int32 → Option (Int32)) (u : St) (x1 : Int32) : Nat → Int32 → Int32 → Option (Int32)
  | 0, _, _ => none
  | n + 1, x2, x3 =>
    if (u.1 0) ≤ x3 then
      k x2 x3
    else
      Option.bind (f_X8_isAsked u x3) fun r25 =>
      if r25 = 0 then
        Option.bind (f_X8_viewOf u x3 x1) fun r38 =>
        L_X8_blind_14 k u x1 n (x2 &&& (r38 ^^^ (-1))) (x3 + 1)
      else
        L_X8_blind_14 k u x1 n (x2 &&& x2) (x3 + 1)
set_option maxHeartbeats 4000000 in
set_option maxRecDepth 100000 in
theorem b_X8_blind_14 {p : Program} {l : Launch} {e : Env} {s : State} {m : MethodId} {args : Array Value} {below : List Frame} {meth : Method} {c : Code} {g : Gx} {u : St} {x1 : Int32} {res : Int32} {k : Int32 → Int32 → Option (Int32)} (C : Cx p s m meth c args cX8_blind RX8 4 (some .int) 22 g)
    (hk : ∀ (x2 x3 : Int32) (H : Heap) (locs : List Loc) (ls : Array Slot), Zx wM g (Aw 22 g s.heap.size) s H locs u → lv_has ls 4 [(2, .int x2)] → k x2 x3 = some res → W p l e (rmX 4 96) s m args below meth c H locs 0 0 (QI wM 22 g res u below args s) (F0 m 51 ls [])) :
    ∀ (n : Nat) (x2 x3 : Int32) (H : Heap) (locs : List Loc) (ls : Array Slot), Zx wM g (Aw 22 g s.heap.size) s H locs u → lv_has ls 4 [(0, .ref (g.2.2 0)), (1, .int x1), (2, .int x2), (3, .int x3)] → L_X8_blind_14 k u x1 n x2 x3 = some res → W p l e (rmX 4 96) s m args below meth c H locs 0 0 (QI wM 22 g res u below args s) (F0 m 14 ls []) := by
  have hx := C.1
  have hb := C.2.1
  intro n
  induction n with
  | zero =>
    intro x2 x3 H locs ls Z hl hf
    rw [L_X8_blind_14.eq_1] at hf
    cases hf
  | succ n ih =>
    intro x2 x3 H locs ls Z hl hf
    rw [L_X8_blind_14.eq_2] at hf
    refine lv_iload_n hx hb dX8_blind_14 rfl (lv_at hl 3 rfl) ?_
    refine lv_aload_n hx hb dX8_blind_15 rfl (lv_at hl 0 rfl) ?_
    refine gM_0_0 C Z (fl_of C mw_823) dX8_blind_16 (x := (u.1 0)) rfl ?_
    refine lv_icmp_ge (tgt := 51) hx hb dX8_blind_19 (by decide) (fun hc19 => ?_) (fun hc19 => ?_)
    · rw [if_pos hc19] at hf
      exact hk _ _ H locs ls Z (lv_sub hl [2] rfl) hf
    · rw [if_neg hc19] at hf
      refine lv_iload_n hx hb dX8_blind_22 rfl (lv_at hl 2 rfl) ?_
      refine lv_aload_n hx hb dX8_blind_23 rfl (lv_at hl 0 rfl) ?_
      refine lv_iload_n hx hb dX8_blind_24 rfl (lv_at hl 3 rfl) ?_
      obtain ⟨r25, hr25, hf⟩ := Option.bind_eq_some_iff.mp hf
      refine call_vi (As := [.int x3]) (rest := [.int x2]) C Z (c_X8_isAsked l hr25) mf_X8_isAsked (ml_of C mw_1023) rfl (oM_0 g _) rfl ⟨rfl, rfl, by decide, by decide⟩ rfl hl.1 (Nat.le_of_ble_eq_true rfl) dX8_blind_25 (fun H locs Z => ?_)
      refine lv_if_eq (tgt := 35) hx hb dX8_blind_28 (by decide) (fun hc28 => ?_) (fun hc28 => ?_)
      · rw [if_pos hc28] at hf
        refine lv_aload_n hx hb dX8_blind_35 rfl (lv_at hl 0 rfl) ?_
        refine lv_iload_n hx hb dX8_blind_36 rfl (lv_at hl 3 rfl) ?_
        refine lv_iload_n hx hb dX8_blind_37 rfl (lv_at hl 1 rfl) ?_
        obtain ⟨r38, hr38, hf⟩ := Option.bind_eq_some_iff.mp hf
        refine call_vi (As := [.int x3, .int x1]) (rest := [.int x2]) C Z (c_X8_viewOf l hr38) mf_X8_viewOf (ml_of C mw_1124) rfl (oM_0 g _) rfl ⟨rfl, rfl, by decide, by decide⟩ rfl hl.1 (Nat.le_of_ble_eq_true rfl) dX8_blind_38 (fun H locs Z => ?_)
        refine lv_iconst (v := (-1)) hx hb dX8_blind_41 (by decide +kernel) ?_
        refine lv_ixor hx hb dX8_blind_42 ?_
        refine lv_iand hx hb dX8_blind_43 ?_
        refine lv_istore_n (lv' := [(2, .int (x2 &&& (r38 ^^^ (-1)))), (0, .ref (g.2.2 0)), (1, .int x1), (3, .int x3)]) hx hb dX8_blind_44 rfl hl (by decide) rfl (fun ls hl => ?_)
        refine lv_iinc (v := (x3 + 1)) (lv' := [(3, .int (x3 + 1)), (2, .int (x2 &&& (r38 ^^^ (-1)))), (0, .ref (g.2.2 0)), (1, .int x1)]) hx hb dX8_blind_45 hl (k := 3) rfl rfl (by decide) rfl (fun ls hl => ?_)
        refine lv_goto (tgt := 14) hx hb dX8_blind_48 (by decide) ?_
        exact ih _ _ _ _ _ Z (lv_sub hl [2, 3, 1, 0] rfl) hf
      · rw [if_neg hc28] at hf
        refine lv_iload_n hx hb dX8_blind_31 rfl (lv_at hl 2 rfl) ?_
        refine lv_goto (tgt := 43) hx hb dX8_blind_32 (by decide) ?_
        refine lv_iand hx hb dX8_blind_43 ?_
        refine lv_istore_n (lv' := [(2, .int (x2 &&& x2)), (0, .ref (g.2.2 0)), (1, .int x1), (3, .int x3)]) hx hb dX8_blind_44 rfl hl (by decide) rfl (fun ls hl => ?_)
        refine lv_iinc (v := (x3 + 1)) (lv' := [(3, .int (x3 + 1)), (2, .int (x2 &&& x2)), (0, .ref (g.2.2 0)), (1, .int x1)]) hx hb dX8_blind_45 hl (k := 3) rfl rfl (by decide) rfl (fun ls hl => ?_)
        refine lv_goto (tgt := 14) hx hb dX8_blind_48 (by decide) ?_
        exact ih _ _ _ _ _ Z (lv_sub hl [2, 3, 1, 0] rfl) hf
def f_X8_blind (u : St) (x1 : Int32) : Option (Int32) :=
  Option.bind (f_X8_isHour x1) fun r1 =>
  if r1 = 0 then
    some (-1)
  else
    L_X8_blind_14 (fun x2 x3 =>
      some x2) u x1 FU 16777215 0
set_option maxHeartbeats 4000000 in
set_option maxRecDepth 100000 in
theorem c_X8_blind (l : Launch) {g : Gx} {u : St} {x1 : Int32} {res : Int32} (hf : f_X8_blind u x1 = some res) : CI wM 22 l yX8_blind (wsY yX8_blind cX8_blind 4 (some .int)) (rmX 4 96) g [.ref (g.2.2 0), .int x1] u res u := by
  refine CI_start (by decide +kernel) rfl (Nat.le_of_ble_eq_true rfl) (fun {p e s m args below meth c ls} C Z hl => ?_)
  have hl : lv_has ls 4 [(0, .ref (g.2.2 0)), (1, .int x1)] := hl
  have hx := C.1
  have hb := C.2.1
  unfold f_X8_blind at hf
  refine lv_iload_n hx hb dX8_blind_0 rfl (lv_at hl 1 rfl) ?_
  obtain ⟨r1, hr1, hf⟩ := Option.bind_eq_some_iff.mp hf
  refine call_si (As := [.int x1]) (rest := []) C Z (c_X8_isHour l hr1) mf_X8_isHour (ml_of C mw_1121) rfl ⟨rfl, rfl, by decide, by decide⟩ rfl hl.1 (Nat.le_of_ble_eq_true rfl) dX8_blind_1 (fun H locs Z => ?_)
  refine lv_if_ne (tgt := 9) hx hb dX8_blind_4 (by decide) (fun hc4 => ?_) (fun hc4 => ?_)
  · rw [if_neg hc4] at hf
    refine lv_ldc (v := 16777215) hx hb C.2.2.2.1 (C.2.2.2.2.1 _ mw_1132) dX8_blind_9 ?_
    refine lv_istore_n (lv' := [(2, .int 16777215), (0, .ref (g.2.2 0)), (1, .int x1)]) hx hb dX8_blind_11 rfl hl (by decide) rfl (fun ls hl => ?_)
    refine lv_iconst (v := 0) hx hb dX8_blind_12 (by decide +kernel) ?_
    refine lv_istore_n (lv' := [(3, .int 0), (2, .int 16777215), (0, .ref (g.2.2 0)), (1, .int x1)]) hx hb dX8_blind_13 rfl hl (by decide) rfl (fun ls hl => ?_)
    refine b_X8_blind_14 C (fun x2 x3 H locs ls Z hl hf => ?_) FU _ _ _ _ _ Z (lv_sub hl [2, 3, 1, 0] rfl) hf
    refine lv_iload_n hx hb dX8_blind_51 rfl (lv_at hl 0 rfl) ?_
    have hf := Option.some.inj hf
    subst hf
    exact ret_i C Z dX8_blind_52
  · rw [if_pos hc4] at hf
    refine lv_iconst (v := (-1)) hx hb dX8_blind_7 (by decide +kernel) ?_
    have hf := Option.some.inj hf
    subst hf
    exact ret_i C Z dX8_blind_8
