def L_X6_hoursInView_6 (k : Int32 → Int32 → Option (Int32)) (u : St) (x1 x2 x4 : Int32) : Nat → Int32 → Int32 → Option (Int32)
  | 0, _, _ => none
  | n + 1, x5, x6 =>
    if x4 < x6 then
      k x5 x6
    else
      Option.bind (f_X6_canSee u x1 x2 x6) fun r18 =>
      if r18 = 0 then
        L_X6_hoursInView_6 k u x1 x2 x4 n x5 (x6 + 1)
      else
        L_X6_hoursInView_6 k u x1 x2 x4 n (x5 + 1) (x6 + 1)
set_option maxHeartbeats 4000000 in
set_option maxRecDepth 100000 in
theorem b_X6_hoursInView_6 {p : Program} {l : Launch} {e : Env} {s : State} {m : MethodId} {args : Array Value} {below : List Frame} {meth : Method} {c : Code} {g : Gx} {u : St} {x1 x2 x4 : Int32} {res : Int32} {k : Int32 → Int32 → Option (Int32)} (C : Cx p s m meth c args cX6_hoursInView RX6 7 (some .int) 82 g)
    (hk : ∀ (x5 x6 : Int32) (H : Heap) (locs : List Loc) (ls : Array Slot), Zx wC g (Aw 82 g s.heap.size) s H locs u → lv_has ls 7 [(5, .int x5)] → k x5 x6 = some res → W p l e (rmX 3 77) s m args below meth c H locs 0 0 (QI wC 82 g res u below args s) (F0 m 33 ls [])) :
    ∀ (n : Nat) (x5 x6 : Int32) (H : Heap) (locs : List Loc) (ls : Array Slot), Zx wC g (Aw 82 g s.heap.size) s H locs u → lv_has ls 7 [(0, .ref (g.2.2 23)), (1, .int x1), (2, .int x2), (4, .int x4), (5, .int x5), (6, .int x6)] → L_X6_hoursInView_6 k u x1 x2 x4 n x5 x6 = some res → W p l e (rmX 3 77) s m args below meth c H locs 0 0 (QI wC 82 g res u below args s) (F0 m 6 ls []) := by
  have hx := C.1
  have hb := C.2.1
  intro n
  induction n with
  | zero =>
    intro x5 x6 H locs ls Z hl hf
    rw [L_X6_hoursInView_6.eq_1] at hf
    cases hf
  | succ n ih =>
    intro x5 x6 H locs ls Z hl hf
    rw [L_X6_hoursInView_6.eq_2] at hf
    refine lv_iload hx hb dX6_hoursInView_6 (lv_at hl 5 rfl) ?_
    refine lv_iload hx hb dX6_hoursInView_8 (lv_at hl 3 rfl) ?_
    refine lv_icmp_gt (tgt := 33) hx hb dX6_hoursInView_10 (by decide) (fun hc10 => ?_) (fun hc10 => ?_)
    · rw [if_pos hc10] at hf
      exact hk _ _ H locs ls Z (lv_sub hl [4] rfl) hf
    · rw [if_neg hc10] at hf
      refine lv_aload_n hx hb dX6_hoursInView_13 rfl (lv_at hl 0 rfl) ?_
      refine lv_iload_n hx hb dX6_hoursInView_14 rfl (lv_at hl 1 rfl) ?_
      refine lv_iload_n hx hb dX6_hoursInView_15 rfl (lv_at hl 2 rfl) ?_
      refine lv_iload hx hb dX6_hoursInView_16 (lv_at hl 5 rfl) ?_
      obtain ⟨r18, hr18, hf⟩ := Option.bind_eq_some_iff.mp hf
      refine call_vi (As := [.int x1, .int x2, .int x6]) (rest := []) C Z (c_X6_canSee l hr18) mf_X6_canSee (ml_of C mw_559) rfl (oC_23 g _) rfl ⟨rfl, rfl, by decide, by decide⟩ rfl hl.1 (Nat.le_of_ble_eq_true rfl) dX6_hoursInView_18 (fun H locs Z => ?_)
      refine lv_if_eq (tgt := 27) hx hb dX6_hoursInView_21 (by decide) (fun hc21 => ?_) (fun hc21 => ?_)
      · rw [if_pos hc21] at hf
        refine lv_iinc (v := (x6 + 1)) (lv' := [(6, .int (x6 + 1)), (0, .ref (g.2.2 23)), (1, .int x1), (2, .int x2), (4, .int x4), (5, .int x5)]) hx hb dX6_hoursInView_27 hl (k := 5) rfl rfl (by decide) rfl (fun ls hl => ?_)
        refine lv_goto (tgt := 6) hx hb dX6_hoursInView_30 (by decide) ?_
        exact ih _ _ _ _ _ Z (lv_sub hl [1, 2, 3, 4, 5, 0] rfl) hf
      · rw [if_neg hc21] at hf
        refine lv_iinc (v := (x5 + 1)) (lv' := [(5, .int (x5 + 1)), (0, .ref (g.2.2 23)), (1, .int x1), (2, .int x2), (4, .int x4), (6, .int x6)]) hx hb dX6_hoursInView_24 hl (k := 4) rfl rfl (by decide) rfl (fun ls hl => ?_)
        refine lv_iinc (v := (x6 + 1)) (lv' := [(6, .int (x6 + 1)), (5, .int (x5 + 1)), (0, .ref (g.2.2 23)), (1, .int x1), (2, .int x2), (4, .int x4)]) hx hb dX6_hoursInView_27 hl (k := 5) rfl rfl (by decide) rfl (fun ls hl => ?_)
        refine lv_goto (tgt := 6) hx hb dX6_hoursInView_30 (by decide) ?_
        exact ih _ _ _ _ _ Z (lv_sub hl [2, 3, 4, 5, 1, 0] rfl) hf
def f_X6_hoursInView (u : St) (x1 x2 x3 x4 : Int32) : Option (Int32) :=
  L_X6_hoursInView_6 (fun x5 x6 =>
    some x5) u x1 x2 x4 FU 0 x3
set_option maxHeartbeats 4000000 in
set_option maxRecDepth 100000 in
theorem c_X6_hoursInView (l : Launch) {g : Gx} {u : St} {x1 x2 x3 x4 : Int32} {res : Int32} (hf : f_X6_hoursInView u x1 x2 x3 x4 = some res) : CI wC 82 l yX6_hoursInView (wsY yX6_hoursInView cX6_hoursInView 7 (some .int)) (rmX 3 77) g [.ref (g.2.2 23), .int x1, .int x2, .int x3, .int x4] u res u := by
  refine CI_start (by decide +kernel) rfl (Nat.le_of_ble_eq_true rfl) (fun {p e s m args below meth c ls} C Z hl => ?_)
  have hl : lv_has ls 7 [(0, .ref (g.2.2 23)), (1, .int x1), (2, .int x2), (3, .int x3), (4, .int x4)] := hl
  have hx := C.1
  have hb := C.2.1
  unfold f_X6_hoursInView at hf
  refine lv_iconst (v := 0) hx hb dX6_hoursInView_0 (by decide +kernel) ?_
  refine lv_istore (lv' := [(5, .int 0), (0, .ref (g.2.2 23)), (1, .int x1), (2, .int x2), (3, .int x3), (4, .int x4)]) hx hb dX6_hoursInView_1 hl (by decide) rfl (fun ls hl => ?_)
  refine lv_iload_n hx hb dX6_hoursInView_3 rfl (lv_at hl 4 rfl) ?_
  refine lv_istore (lv' := [(6, .int x3), (5, .int 0), (0, .ref (g.2.2 23)), (1, .int x1), (2, .int x2), (3, .int x3), (4, .int x4)]) hx hb dX6_hoursInView_4 hl (by decide) rfl (fun ls hl => ?_)
  refine b_X6_hoursInView_6 C (fun x5 x6 H locs ls Z hl hf => ?_) FU _ _ _ _ _ Z (lv_sub hl [2, 3, 4, 6, 1, 0] rfl) hf
  refine lv_iload hx hb dX6_hoursInView_33 (lv_at hl 0 rfl) ?_
  have hf := Option.some.inj hf
  subst hf
  exact ret_i C Z dX6_hoursInView_35
def L_X7_sharedWithTen_3 (k : Int32 → Option (Int32)) (x0 : Int32) : Nat → Int32 → Option (Int32)
  | 0, _ => none
  | n + 1, x1 =>
    if x1 ≤ 1 then
      k x1
    else
      if x1 = 0 then none else
      if (10 - (10 / x1) * x1) = 0 then
        if x1 = 0 then none else
        if (x0 - (x0 / x1) * x1) = 0 then
          some x1
        else
          L_X7_sharedWithTen_3 k x0 n (x1 + (-1))
      else
        L_X7_sharedWithTen_3 k x0 n (x1 + (-1))
set_option maxHeartbeats 4000000 in
set_option maxRecDepth 100000 in
theorem b_X7_sharedWithTen_3 {p : Program} {l : Launch} {e : Env} {s : State} {m : MethodId} {args : Array Value} {below : List Frame} {meth : Method} {c : Code} {g : Gx} {u : St} {x0 : Int32} {res : Int32} {k : Int32 → Option (Int32)} (C : Cx p s m meth c args cX7_sharedWithTen RX7 2 (some .int) 82 g)
    (hk : ∀ (x1 : Int32) (H : Heap) (locs : List Loc) (ls : Array Slot), Zx wC g (Aw 82 g s.heap.size) s H locs u → lv_has ls 2 [] → k x1 = some res → W p l e (rmX 0 0) s m args below meth c H locs 0 0 (QI wC 82 g res u below args s) (F0 m 29 ls [])) :
    ∀ (n : Nat) (x1 : Int32) (H : Heap) (locs : List Loc) (ls : Array Slot), Zx wC g (Aw 82 g s.heap.size) s H locs u → lv_has ls 2 [(0, .int x0), (1, .int x1)] → L_X7_sharedWithTen_3 k x0 n x1 = some res → W p l e (rmX 0 0) s m args below meth c H locs 0 0 (QI wC 82 g res u below args s) (F0 m 3 ls []) := by
  have hx := C.1
  have hb := C.2.1
  intro n
  induction n with
  | zero =>
    intro x1 H locs ls Z hl hf
    rw [L_X7_sharedWithTen_3.eq_1] at hf
    cases hf
  | succ n ih =>
    intro x1 H locs ls Z hl hf
    rw [L_X7_sharedWithTen_3.eq_2] at hf
    refine lv_iload_n hx hb dX7_sharedWithTen_3 rfl (lv_at hl 1 rfl) ?_
    refine lv_iconst (v := 1) hx hb dX7_sharedWithTen_4 (by decide +kernel) ?_
    refine lv_icmp_le (tgt := 29) hx hb dX7_sharedWithTen_5 (by decide) (fun hc5 => ?_) (fun hc5 => ?_)
    · rw [if_pos hc5] at hf
      exact hk _ H locs ls Z (lv_sub hl [] rfl) hf
    · rw [if_neg hc5] at hf
      refine lv_bipush (v := 10) hx hb dX7_sharedWithTen_8 (by decide +kernel) ?_
      refine lv_iload_n hx hb dX7_sharedWithTen_10 rfl (lv_at hl 1 rfl) ?_
      by_cases hz11 : x1 = 0
      · rw [if_pos hz11] at hf; cases hf
      rw [if_neg hz11] at hf
      refine lv_irem hx hb dX7_sharedWithTen_11 hz11 ?_
      refine lv_if_ne (tgt := 23) hx hb dX7_sharedWithTen_12 (by decide) (fun hc12 => ?_) (fun hc12 => ?_)
      · rw [if_neg hc12] at hf
        refine lv_iinc (v := (x1 + (-1))) (lv' := [(1, .int (x1 + (-1))), (0, .int x0)]) hx hb dX7_sharedWithTen_23 hl (k := 1) rfl rfl (by decide) rfl (fun ls hl => ?_)
        refine lv_goto (tgt := 3) hx hb dX7_sharedWithTen_26 (by decide) ?_
        exact ih _ _ _ _ Z (lv_sub hl [1, 0] rfl) hf
      · rw [if_pos hc12] at hf
        refine lv_iload_n hx hb dX7_sharedWithTen_15 rfl (lv_at hl 0 rfl) ?_
        refine lv_iload_n hx hb dX7_sharedWithTen_16 rfl (lv_at hl 1 rfl) ?_
        by_cases hz17 : x1 = 0
        · rw [if_pos hz17] at hf; cases hf
        rw [if_neg hz17] at hf
        refine lv_irem hx hb dX7_sharedWithTen_17 hz17 ?_
        refine lv_if_ne (tgt := 23) hx hb dX7_sharedWithTen_18 (by decide) (fun hc18 => ?_) (fun hc18 => ?_)
        · rw [if_neg hc18] at hf
          refine lv_iinc (v := (x1 + (-1))) (lv' := [(1, .int (x1 + (-1))), (0, .int x0)]) hx hb dX7_sharedWithTen_23 hl (k := 1) rfl rfl (by decide) rfl (fun ls hl => ?_)
          refine lv_goto (tgt := 3) hx hb dX7_sharedWithTen_26 (by decide) ?_
          exact ih _ _ _ _ Z (lv_sub hl [1, 0] rfl) hf
        · rw [if_pos hc18] at hf
          refine lv_iload_n hx hb dX7_sharedWithTen_21 rfl (lv_at hl 1 rfl) ?_
          have hf := Option.some.inj hf
          subst hf
          exact ret_i C Z dX7_sharedWithTen_22
def f_X7_sharedWithTen (x0 : Int32) : Option (Int32) :=
  L_X7_sharedWithTen_3 (fun x1 =>
    some 1) x0 FU 10
set_option maxHeartbeats 4000000 in
set_option maxRecDepth 100000 in
theorem c_X7_sharedWithTen (l : Launch) {g : Gx} {u : St} {x0 : Int32} {res : Int32} (hf : f_X7_sharedWithTen x0 = some res) : CI wC 82 l yX7_sharedWithTen (wsY yX7_sharedWithTen cX7_sharedWithTen 2 (some .int)) (rmX 0 0) g [.int x0] u res u := by
  refine CI_start (by decide +kernel) rfl (Nat.le_of_ble_eq_true rfl) (fun {p e s m args below meth c ls} C Z hl => ?_)
  have hl : lv_has ls 2 [(0, .int x0)] := hl
  have hx := C.1
  have hb := C.2.1
  unfold f_X7_sharedWithTen at hf
  refine lv_bipush (v := 10) hx hb dX7_sharedWithTen_0 (by decide +kernel) ?_
  refine lv_istore_n (lv' := [(1, .int 10), (0, .int x0)]) hx hb dX7_sharedWithTen_2 rfl hl (by decide) rfl (fun ls hl => ?_)
  refine b_X7_sharedWithTen_3 C (fun x1 H locs ls Z hl hf => ?_) FU _ _ _ _ Z (lv_sub hl [1, 0] rfl) hf
  refine lv_iconst (v := 1) hx hb dX7_sharedWithTen_29 (by decide +kernel) ?_
  have hf := Option.some.inj hf
  subst hf
  exact ret_i C Z dX7_sharedWithTen_30
def L_X7_power_4 (k : Int32 → Int32 → Option (Int32)) (x0 x1 : Int32) : Nat → Int32 → Int32 → Option (Int32)
  | 0, _, _ => none
  | n + 1, x2, x3 =>
    if x1 ≤ x3 then
      k x2 x3
    else
      L_X7_power_4 k x0 x1 n (x2 * x0) (x3 + 1)
set_option maxHeartbeats 4000000 in
set_option maxRecDepth 100000 in
theorem b_X7_power_4 {p : Program} {l : Launch} {e : Env} {s : State} {m : MethodId} {args : Array Value} {below : List Frame} {meth : Method} {c : Code} {g : Gx} {u : St} {x0 x1 : Int32} {res : Int32} {k : Int32 → Int32 → Option (Int32)} (C : Cx p s m meth c args cX7_power RX7 4 (some .int) 82 g)
    (hk : ∀ (x2 x3 : Int32) (H : Heap) (locs : List Loc) (ls : Array Slot), Zx wC g (Aw 82 g s.heap.size) s H locs u → lv_has ls 4 [(2, .int x2)] → k x2 x3 = some res → W p l e (rmX 0 0) s m args below meth c H locs 0 0 (QI wC 82 g res u below args s) (F0 m 19 ls [])) :
    ∀ (n : Nat) (x2 x3 : Int32) (H : Heap) (locs : List Loc) (ls : Array Slot), Zx wC g (Aw 82 g s.heap.size) s H locs u → lv_has ls 4 [(0, .int x0), (1, .int x1), (2, .int x2), (3, .int x3)] → L_X7_power_4 k x0 x1 n x2 x3 = some res → W p l e (rmX 0 0) s m args below meth c H locs 0 0 (QI wC 82 g res u below args s) (F0 m 4 ls []) := by
  have hx := C.1
  have hb := C.2.1
  intro n
  induction n with
  | zero =>
    intro x2 x3 H locs ls Z hl hf
    rw [L_X7_power_4.eq_1] at hf
    cases hf
  | succ n ih =>
    intro x2 x3 H locs ls Z hl hf
    rw [L_X7_power_4.eq_2] at hf
    refine lv_iload_n hx hb dX7_power_4 rfl (lv_at hl 3 rfl) ?_
    refine lv_iload_n hx hb dX7_power_5 rfl (lv_at hl 1 rfl) ?_
    refine lv_icmp_ge (tgt := 19) hx hb dX7_power_6 (by decide) (fun hc6 => ?_) (fun hc6 => ?_)
    · rw [if_pos hc6] at hf
      exact hk _ _ H locs ls Z (lv_sub hl [2] rfl) hf
    · rw [if_neg hc6] at hf
      refine lv_iload_n hx hb dX7_power_9 rfl (lv_at hl 2 rfl) ?_
      refine lv_iload_n hx hb dX7_power_10 rfl (lv_at hl 0 rfl) ?_
      refine lv_imul hx hb dX7_power_11 ?_
      refine lv_istore_n (lv' := [(2, .int (x2 * x0)), (0, .int x0), (1, .int x1), (3, .int x3)]) hx hb dX7_power_12 rfl hl (by decide) rfl (fun ls hl => ?_)
      refine lv_iinc (v := (x3 + 1)) (lv' := [(3, .int (x3 + 1)), (2, .int (x2 * x0)), (0, .int x0), (1, .int x1)]) hx hb dX7_power_13 hl (k := 3) rfl rfl (by decide) rfl (fun ls hl => ?_)
      refine lv_goto (tgt := 4) hx hb dX7_power_16 (by decide) ?_
      exact ih _ _ _ _ _ Z (lv_sub hl [2, 3, 1, 0] rfl) hf
def f_X7_power (x0 x1 : Int32) : Option (Int32) :=
  L_X7_power_4 (fun x2 x3 =>
    some x2) x0 x1 FU 1 0
set_option maxHeartbeats 4000000 in
set_option maxRecDepth 100000 in
theorem c_X7_power (l : Launch) {g : Gx} {u : St} {x0 x1 : Int32} {res : Int32} (hf : f_X7_power x0 x1 = some res) : CI wC 82 l yX7_power (wsY yX7_power cX7_power 4 (some .int)) (rmX 0 0) g [.int x0, .int x1] u res u := by
  refine CI_start (by decide +kernel) rfl (Nat.le_of_ble_eq_true rfl) (fun {p e s m args below meth c ls} C Z hl => ?_)
  have hl : lv_has ls 4 [(0, .int x0), (1, .int x1)] := hl
  have hx := C.1
  have hb := C.2.1
  unfold f_X7_power at hf
  refine lv_iconst (v := 1) hx hb dX7_power_0 (by decide +kernel) ?_
  refine lv_istore_n (lv' := [(2, .int 1), (0, .int x0), (1, .int x1)]) hx hb dX7_power_1 rfl hl (by decide) rfl (fun ls hl => ?_)
  refine lv_iconst (v := 0) hx hb dX7_power_2 (by decide +kernel) ?_
  refine lv_istore_n (lv' := [(3, .int 0), (2, .int 1), (0, .int x0), (1, .int x1)]) hx hb dX7_power_3 rfl hl (by decide) rfl (fun ls hl => ?_)
  refine b_X7_power_4 C (fun x2 x3 H locs ls Z hl hf => ?_) FU _ _ _ _ _ Z (lv_sub hl [2, 3, 1, 0] rfl) hf
  refine lv_iload_n hx hb dX7_power_19 rfl (lv_at hl 0 rfl) ?_
  have hf := Option.some.inj hf
  subst hf
  exact ret_i C Z dX7_power_20
def f_X7_odds (u : St) (x1 x2 x3 x4 x5 x6 : Int32) : Option (Int32) :=
  Option.bind (f_X7_isCock u x1) fun r2 =>
  if r2 = 0 then
    some (-1)
  else
    Option.bind (f_X7_isCell x2) fun r9 =>
    if r9 = 0 then
      some (-1)
    else
      Option.bind (f_X7_isHour x3) fun r16 =>
      if r16 = 0 then
        some (-1)
      else
        Option.bind (f_X7_isHour x4) fun r24 =>
        if r24 = 0 then
          some (-1)
        else
          if x4 < x3 then
            some (-1)
          else
            if (x4 - x3) < 8 then
              Option.bind (f_X7_isWithin x5 0 10) fun r54 =>
              if r54 = 0 then
                some (-1)
              else
                Option.bind (f_X7_isWithin x6 0 1) fun r64 =>
                if r64 = 0 then
                  some (-1)
                else
                  Option.bind (f_X6_hoursInView u x1 x2 x3 x4) fun r81 =>
                  Option.bind (f_X7_sharedWithTen x5) fun r88 =>
                  if r88 = 0 then none else
                  Option.bind (f_X7_power (10 / r88) r81) fun r100 =>
                  if x6 = 0 then
                    if r88 = 0 then none else
                    Option.bind (f_X7_power (x5 / r88) r81) fun r119 =>
                    some (r100 - r119)
                  else
                    some r100
            else
              some (-1)
set_option maxHeartbeats 4000000 in
set_option maxRecDepth 100000 in
theorem c_X7_odds (l : Launch) {g : Gx} {u : St} {x1 x2 x3 x4 x5 x6 : Int32} {res : Int32} (hf : f_X7_odds u x1 x2 x3 x4 x5 x6 = some res) : CI wC 82 l yX7_odds (wsY yX7_odds cX7_odds 10 (some .int)) (rmX 4 103) g [.ref (g.2.2 0), .int x1, .int x2, .int x3, .int x4, .int x5, .int x6] u res u := by
  refine CI_start (by decide +kernel) rfl (Nat.le_of_ble_eq_true rfl) (fun {p e s m args below meth c ls} C Z hl => ?_)
  have hl : lv_has ls 10 [(0, .ref (g.2.2 0)), (1, .int x1), (2, .int x2), (3, .int x3), (4, .int x4), (5, .int x5), (6, .int x6)] := hl
  have hx := C.1
  have hb := C.2.1
  unfold f_X7_odds at hf
  refine lv_aload_n hx hb dX7_odds_0 rfl (lv_at hl 0 rfl) ?_
  refine lv_iload_n hx hb dX7_odds_1 rfl (lv_at hl 1 rfl) ?_
  obtain ⟨r2, hr2, hf⟩ := Option.bind_eq_some_iff.mp hf
  refine call_vi (As := [.int x1]) (rest := []) C Z (c_X7_isCock l hr2) mf_X7_isCock (ml_of C mw_462) rfl (oC_0 g _) rfl ⟨rfl, rfl, by decide, by decide⟩ rfl hl.1 (Nat.le_of_ble_eq_true rfl) dX7_odds_2 (fun H locs Z => ?_)
  refine lv_if_eq (tgt := 30) hx hb dX7_odds_5 (by decide) (fun hc5 => ?_) (fun hc5 => ?_)
  · rw [if_pos hc5] at hf
    refine lv_iconst (v := (-1)) hx hb dX7_odds_30 (by decide +kernel) ?_
    have hf := Option.some.inj hf
    subst hf
    exact ret_i C Z dX7_odds_31
  · rw [if_neg hc5] at hf
    refine lv_iload_n hx hb dX7_odds_8 rfl (lv_at hl 2 rfl) ?_
    obtain ⟨r9, hr9, hf⟩ := Option.bind_eq_some_iff.mp hf
    refine call_si (As := [.int x2]) (rest := []) C Z (c_X7_isCell l hr9) mf_X7_isCell (ml_of C mw_455) rfl ⟨rfl, rfl, by decide, by decide⟩ rfl hl.1 (Nat.le_of_ble_eq_true rfl) dX7_odds_9 (fun H locs Z => ?_)
    refine lv_if_eq (tgt := 30) hx hb dX7_odds_12 (by decide) (fun hc12 => ?_) (fun hc12 => ?_)
    · rw [if_pos hc12] at hf
      refine lv_iconst (v := (-1)) hx hb dX7_odds_30 (by decide +kernel) ?_
      have hf := Option.some.inj hf
      subst hf
      exact ret_i C Z dX7_odds_31
    · rw [if_neg hc12] at hf
      refine lv_iload_n hx hb dX7_odds_15 rfl (lv_at hl 3 rfl) ?_
      obtain ⟨r16, hr16, hf⟩ := Option.bind_eq_some_iff.mp hf
      refine call_si (As := [.int x3]) (rest := []) C Z (c_X7_isHour l hr16) mf_X7_isHour (ml_of C mw_639) rfl ⟨rfl, rfl, by decide, by decide⟩ rfl hl.1 (Nat.le_of_ble_eq_true rfl) dX7_odds_16 (fun H locs Z => ?_)
      refine lv_if_eq (tgt := 30) hx hb dX7_odds_19 (by decide) (fun hc19 => ?_) (fun hc19 => ?_)
      · rw [if_pos hc19] at hf
        refine lv_iconst (v := (-1)) hx hb dX7_odds_30 (by decide +kernel) ?_
        have hf := Option.some.inj hf
        subst hf
        exact ret_i C Z dX7_odds_31
      · rw [if_neg hc19] at hf
        refine lv_iload hx hb dX7_odds_22 (lv_at hl 4 rfl) ?_
        obtain ⟨r24, hr24, hf⟩ := Option.bind_eq_some_iff.mp hf
        refine call_si (As := [.int x4]) (rest := []) C Z (c_X7_isHour l hr24) mf_X7_isHour (ml_of C mw_639) rfl ⟨rfl, rfl, by decide, by decide⟩ rfl hl.1 (Nat.le_of_ble_eq_true rfl) dX7_odds_24 (fun H locs Z => ?_)
        refine lv_if_ne (tgt := 32) hx hb dX7_odds_27 (by decide) (fun hc27 => ?_) (fun hc27 => ?_)
        · rw [if_neg hc27] at hf
          refine lv_iload hx hb dX7_odds_32 (lv_at hl 4 rfl) ?_
          refine lv_iload_n hx hb dX7_odds_34 rfl (lv_at hl 3 rfl) ?_
          refine lv_icmp_lt (tgt := 47) hx hb dX7_odds_35 (by decide) (fun hc35 => ?_) (fun hc35 => ?_)
          · rw [if_pos hc35] at hf
            refine lv_iconst (v := (-1)) hx hb dX7_odds_47 (by decide +kernel) ?_
            have hf := Option.some.inj hf
            subst hf
            exact ret_i C Z dX7_odds_48
          · rw [if_neg hc35] at hf
            refine lv_iload hx hb dX7_odds_38 (lv_at hl 4 rfl) ?_
            refine lv_iload_n hx hb dX7_odds_40 rfl (lv_at hl 3 rfl) ?_
            refine lv_isub hx hb dX7_odds_41 ?_
            refine lv_bipush (v := 8) hx hb dX7_odds_42 (by decide +kernel) ?_
            refine lv_icmp_lt (tgt := 49) hx hb dX7_odds_44 (by decide) (fun hc44 => ?_) (fun hc44 => ?_)
            · rw [if_pos hc44] at hf
              refine lv_iload hx hb dX7_odds_49 (lv_at hl 5 rfl) ?_
              refine lv_iconst (v := 0) hx hb dX7_odds_51 (by decide +kernel) ?_
              refine lv_bipush (v := 10) hx hb dX7_odds_52 (by decide +kernel) ?_
              obtain ⟨r54, hr54, hf⟩ := Option.bind_eq_some_iff.mp hf
              refine call_si (As := [.int x5, .int 0, .int 10]) (rest := []) C Z (c_X7_isWithin l hr54) mf_X7_isWithin (ml_of C mw_331) rfl ⟨rfl, rfl, by decide, by decide⟩ rfl hl.1 (Nat.le_of_ble_eq_true rfl) dX7_odds_54 (fun H locs Z => ?_)
              refine lv_if_eq (tgt := 70) hx hb dX7_odds_57 (by decide) (fun hc57 => ?_) (fun hc57 => ?_)
              · rw [if_pos hc57] at hf
                refine lv_iconst (v := (-1)) hx hb dX7_odds_70 (by decide +kernel) ?_
                have hf := Option.some.inj hf
                subst hf
                exact ret_i C Z dX7_odds_71
              · rw [if_neg hc57] at hf
                refine lv_iload hx hb dX7_odds_60 (lv_at hl 6 rfl) ?_
                refine lv_iconst (v := 0) hx hb dX7_odds_62 (by decide +kernel) ?_
                refine lv_iconst (v := 1) hx hb dX7_odds_63 (by decide +kernel) ?_
                obtain ⟨r64, hr64, hf⟩ := Option.bind_eq_some_iff.mp hf
                refine call_si (As := [.int x6, .int 0, .int 1]) (rest := []) C Z (c_X7_isWithin l hr64) mf_X7_isWithin (ml_of C mw_331) rfl ⟨rfl, rfl, by decide, by decide⟩ rfl hl.1 (Nat.le_of_ble_eq_true rfl) dX7_odds_64 (fun H locs Z => ?_)
                refine lv_if_ne (tgt := 72) hx hb dX7_odds_67 (by decide) (fun hc67 => ?_) (fun hc67 => ?_)
                · rw [if_neg hc67] at hf
                  refine lv_aload_n hx hb dX7_odds_72 rfl (lv_at hl 0 rfl) ?_
                  refine gC_0_2 C Z (fl_of C mw_307) dX7_odds_73 ?_
                  refine lv_iload_n hx hb dX7_odds_76 rfl (lv_at hl 1 rfl) ?_
                  refine lv_iload_n hx hb dX7_odds_77 rfl (lv_at hl 2 rfl) ?_
                  refine lv_iload_n hx hb dX7_odds_78 rfl (lv_at hl 3 rfl) ?_
                  refine lv_iload hx hb dX7_odds_79 (lv_at hl 4 rfl) ?_
                  obtain ⟨r81, hr81, hf⟩ := Option.bind_eq_some_iff.mp hf
                  refine call_vi (As := [.int x1, .int x2, .int x3, .int x4]) (rest := []) C Z (c_X6_hoursInView l hr81) mf_X6_hoursInView (ml_nest C nw_53) rfl (oC_23 g _) rfl ⟨rfl, rfl, by decide, by decide⟩ rfl hl.1 (Nat.le_of_ble_eq_true rfl) dX7_odds_81 (fun H locs Z => ?_)
                  refine lv_istore (lv' := [(7, .int r81), (0, .ref (g.2.2 0)), (1, .int x1), (2, .int x2), (3, .int x3), (4, .int x4), (5, .int x5), (6, .int x6)]) hx hb dX7_odds_84 hl (by decide) rfl (fun ls hl => ?_)
                  refine lv_iload hx hb dX7_odds_86 (lv_at hl 6 rfl) ?_
                  obtain ⟨r88, hr88, hf⟩ := Option.bind_eq_some_iff.mp hf
                  refine call_si (As := [.int x5]) (rest := []) C Z (c_X7_sharedWithTen l hr88) mf_X7_sharedWithTen (ml_of C mw_668) rfl ⟨rfl, rfl, by decide, by decide⟩ rfl hl.1 (Nat.le_of_ble_eq_true rfl) dX7_odds_88 (fun H locs Z => ?_)
                  refine lv_istore (lv' := [(8, .int r88), (7, .int r81), (0, .ref (g.2.2 0)), (1, .int x1), (2, .int x2), (3, .int x3), (4, .int x4), (5, .int x5), (6, .int x6)]) hx hb dX7_odds_91 hl (by decide) rfl (fun ls hl => ?_)
                  refine lv_bipush (v := 10) hx hb dX7_odds_93 (by decide +kernel) ?_
                  refine lv_iload hx hb dX7_odds_95 (lv_at hl 0 rfl) ?_
                  by_cases hz97 : r88 = 0
                  · rw [if_pos hz97] at hf; cases hf
                  rw [if_neg hz97] at hf
                  refine lv_idiv hx hb dX7_odds_97 hz97 ?_
                  refine lv_iload hx hb dX7_odds_98 (lv_at hl 1 rfl) ?_
                  obtain ⟨r100, hr100, hf⟩ := Option.bind_eq_some_iff.mp hf
                  refine call_si (As := [.int (10 / r88), .int r81]) (rest := []) C Z (c_X7_power l hr100) mf_X7_power (ml_of C mw_671) rfl ⟨rfl, rfl, by decide, by decide⟩ rfl hl.1 (Nat.le_of_ble_eq_true rfl) dX7_odds_100 (fun H locs Z => ?_)
                  refine lv_istore (lv' := [(9, .int r100), (8, .int r88), (7, .int r81), (0, .ref (g.2.2 0)), (1, .int x1), (2, .int x2), (3, .int x3), (4, .int x4), (5, .int x5), (6, .int x6)]) hx hb dX7_odds_103 hl (by decide) rfl (fun ls hl => ?_)
                  refine lv_iload hx hb dX7_odds_105 (lv_at hl 9 rfl) ?_
                  refine lv_if_ne (tgt := 126) hx hb dX7_odds_107 (by decide) (fun hc107 => ?_) (fun hc107 => ?_)
                  · rw [if_neg hc107] at hf
                    refine lv_iload hx hb dX7_odds_126 (lv_at hl 0 rfl) ?_
                    have hf := Option.some.inj hf
                    subst hf
                    exact ret_i C Z dX7_odds_128
                  · rw [if_pos hc107] at hf
                    refine lv_iload hx hb dX7_odds_110 (lv_at hl 0 rfl) ?_
                    refine lv_iload hx hb dX7_odds_112 (lv_at hl 8 rfl) ?_
                    refine lv_iload hx hb dX7_odds_114 (lv_at hl 1 rfl) ?_
                    by_cases hz116 : r88 = 0
                    · rw [if_pos hz116] at hf; cases hf
                    rw [if_neg hz116] at hf
                    refine lv_idiv hx hb dX7_odds_116 hz116 ?_
                    refine lv_iload hx hb dX7_odds_117 (lv_at hl 2 rfl) ?_
                    obtain ⟨r119, hr119, hf⟩ := Option.bind_eq_some_iff.mp hf
                    refine call_si (As := [.int (x5 / r88), .int r81]) (rest := [.int r100]) C Z (c_X7_power l hr119) mf_X7_power (ml_of C mw_671) rfl ⟨rfl, rfl, by decide, by decide⟩ rfl hl.1 (Nat.le_of_ble_eq_true rfl) dX7_odds_119 (fun H locs Z => ?_)
                    refine lv_isub hx hb dX7_odds_122 ?_
                    refine lv_goto (tgt := 128) hx hb dX7_odds_123 (by decide) ?_
                    have hf := Option.some.inj hf
                    subst hf
                    exact ret_i C Z dX7_odds_128
                · rw [if_pos hc67] at hf
                  refine lv_iconst (v := (-1)) hx hb dX7_odds_70 (by decide +kernel) ?_
                  have hf := Option.some.inj hf
                  subst hf
                  exact ret_i C Z dX7_odds_71
            · rw [if_neg hc44] at hf
              refine lv_iconst (v := (-1)) hx hb dX7_odds_47 (by decide +kernel) ?_
              have hf := Option.some.inj hf
              subst hf
              exact ret_i C Z dX7_odds_48
        · rw [if_pos hc27] at hf
          refine lv_iconst (v := (-1)) hx hb dX7_odds_30 (by decide +kernel) ?_
          have hf := Option.some.inj hf
          subst hf
          exact ret_i C Z dX7_odds_31
def L_X8_lowest_5 (k : Int32 → Int32 → Option (Int32)) : Nat → Int32 → Int32 → Option (Int32)
  | 0, _, _ => none
  | n + 1, x3, x4 =>
    if x4 ≤ 0 then
      k x3 x4
    else
      if x4 = 0 then none else
      L_X8_lowest_5 k n x4 (x3 - (x3 / x4) * x4)
set_option maxHeartbeats 4000000 in
set_option maxRecDepth 100000 in
theorem b_X8_lowest_5 {p : Program} {l : Launch} {e : Env} {s : State} {m : MethodId} {args : Array Value} {below : List Frame} {meth : Method} {c : Code} {g : Gx} {u : St} {x0 x1 x2 : Int32} {res : Int32} {k : Int32 → Int32 → Option (Int32)} (C : Cx p s m meth c args cX8_lowest RX8 6 (some .int) 22 g)
    (hk : ∀ (x3 x4 : Int32) (H : Heap) (locs : List Loc) (ls : Array Slot), Zx wM g (Aw 22 g s.heap.size) s H locs u → lv_has ls 6 [(0, .int x0), (1, .int x1), (2, .int x2), (3, .int x3)] → k x3 x4 = some res → W p l e (rmX 0 0) s m args below meth c H locs 0 0 (QI wM 22 g res u below args s) (F0 m 26 ls [])) :
    ∀ (n : Nat) (x3 x4 : Int32) (H : Heap) (locs : List Loc) (ls : Array Slot), Zx wM g (Aw 22 g s.heap.size) s H locs u → lv_has ls 6 [(0, .int x0), (1, .int x1), (2, .int x2), (3, .int x3), (4, .int x4)] → L_X8_lowest_5 k n x3 x4 = some res → W p l e (rmX 0 0) s m args below meth c H locs 0 0 (QI wM 22 g res u below args s) (F0 m 5 ls []) := by
  have hx := C.1
  have hb := C.2.1
  intro n
  induction n with
  | zero =>
    intro x3 x4 H locs ls Z hl hf
    rw [L_X8_lowest_5.eq_1] at hf
    cases hf
  | succ n ih =>
    intro x3 x4 H locs ls Z hl hf
    rw [L_X8_lowest_5.eq_2] at hf
    refine lv_iload hx hb dX8_lowest_5 (lv_at hl 4 rfl) ?_
    refine lv_if_le (tgt := 26) hx hb dX8_lowest_7 (by decide) (fun hc7 => ?_) (fun hc7 => ?_)
    · rw [if_pos hc7] at hf
      exact hk _ _ H locs ls Z (lv_sub hl [0, 1, 2, 3] rfl) hf
    · rw [if_neg hc7] at hf
      refine lv_iload_n hx hb dX8_lowest_10 rfl (lv_at hl 3 rfl) ?_
      refine lv_iload hx hb dX8_lowest_11 (lv_at hl 4 rfl) ?_
      by_cases hz13 : x4 = 0
      · rw [if_pos hz13] at hf; cases hf
      rw [if_neg hz13] at hf
      refine lv_irem hx hb dX8_lowest_13 hz13 ?_
      refine lv_istore (lv' := [(5, .int (x3 - (x3 / x4) * x4)), (0, .int x0), (1, .int x1), (2, .int x2), (3, .int x3), (4, .int x4)]) hx hb dX8_lowest_14 hl (by decide) rfl (fun ls hl => ?_)
      refine lv_iload hx hb dX8_lowest_16 (lv_at hl 5 rfl) ?_
      refine lv_istore_n (lv' := [(3, .int x4), (5, .int (x3 - (x3 / x4) * x4)), (0, .int x0), (1, .int x1), (2, .int x2), (4, .int x4)]) hx hb dX8_lowest_18 rfl hl (by decide) rfl (fun ls hl => ?_)
      refine lv_iload hx hb dX8_lowest_19 (lv_at hl 1 rfl) ?_
      refine lv_istore (lv' := [(4, .int (x3 - (x3 / x4) * x4)), (3, .int x4), (5, .int (x3 - (x3 / x4) * x4)), (0, .int x0), (1, .int x1), (2, .int x2)]) hx hb dX8_lowest_21 hl (by decide) rfl (fun ls hl => ?_)
      refine lv_goto (tgt := 5) hx hb dX8_lowest_23 (by decide) ?_
      exact ih _ _ _ _ _ Z (lv_sub hl [3, 4, 5, 1, 0] rfl) hf
def f_X8_lowest (x0 x1 x2 : Int32) : Option (Int32) :=
  L_X8_lowest_5 (fun x3 x4 =>
    if x2 = 0 then
      if x3 = 0 then none else
      some (x0 / x3)
    else
      if x3 = 0 then none else
      some (x1 / x3)) FU x0 x1
set_option maxHeartbeats 4000000 in
set_option maxRecDepth 100000 in
theorem c_X8_lowest (l : Launch) {g : Gx} {u : St} {x0 x1 x2 : Int32} {res : Int32} (hf : f_X8_lowest x0 x1 x2 = some res) : CI wM 22 l yX8_lowest (wsY yX8_lowest cX8_lowest 6 (some .int)) (rmX 0 0) g [.int x0, .int x1, .int x2] u res u := by
  refine CI_start (by decide +kernel) rfl (Nat.le_of_ble_eq_true rfl) (fun {p e s m args below meth c ls} C Z hl => ?_)
  have hl : lv_has ls 6 [(0, .int x0), (1, .int x1), (2, .int x2)] := hl
  have hx := C.1
  have hb := C.2.1
  unfold f_X8_lowest at hf
  refine lv_iload_n hx hb dX8_lowest_0 rfl (lv_at hl 0 rfl) ?_
  refine lv_istore_n (lv' := [(3, .int x0), (0, .int x0), (1, .int x1), (2, .int x2)]) hx hb dX8_lowest_1 rfl hl (by decide) rfl (fun ls hl => ?_)
  refine lv_iload_n hx hb dX8_lowest_2 rfl (lv_at hl 2 rfl) ?_
  refine lv_istore (lv' := [(4, .int x1), (3, .int x0), (0, .int x0), (1, .int x1), (2, .int x2)]) hx hb dX8_lowest_3 hl (by decide) rfl (fun ls hl => ?_)
  refine b_X8_lowest_5 C (fun x3 x4 H locs ls Z hl hf => ?_) FU _ _ _ _ _ Z (lv_sub hl [2, 3, 4, 1, 0] rfl) hf
  refine lv_iload_n hx hb dX8_lowest_26 rfl (lv_at hl 2 rfl) ?_
  refine lv_if_ne (tgt := 34) hx hb dX8_lowest_27 (by decide) (fun hc27 => ?_) (fun hc27 => ?_)
  · rw [if_neg hc27] at hf
    refine lv_iload_n hx hb dX8_lowest_34 rfl (lv_at hl 1 rfl) ?_
    refine lv_iload_n hx hb dX8_lowest_35 rfl (lv_at hl 3 rfl) ?_
    by_cases hz36 : x3 = 0
    · rw [if_pos hz36] at hf; cases hf
    rw [if_neg hz36] at hf
    refine lv_idiv hx hb dX8_lowest_36 hz36 ?_
    have hf := Option.some.inj hf
    subst hf
    exact ret_i C Z dX8_lowest_37
  · rw [if_pos hc27] at hf
    refine lv_iload_n hx hb dX8_lowest_30 rfl (lv_at hl 0 rfl) ?_
    refine lv_goto (tgt := 35) hx hb dX8_lowest_31 (by decide) ?_
    refine lv_iload_n hx hb dX8_lowest_35 rfl (lv_at hl 3 rfl) ?_
    by_cases hz36 : x3 = 0
    · rw [if_pos hz36] at hf; cases hf
    rw [if_neg hz36] at hf
    refine lv_idiv hx hb dX8_lowest_36 hz36 ?_
    have hf := Option.some.inj hf
    subst hf
    exact ret_i C Z dX8_lowest_37
