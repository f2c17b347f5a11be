def L_X8_laws_19 (k : Int32 → Int32 → Int32 → Option (Int32)) (u : St) : Nat → Int32 → Int32 → Int32 → Option (Int32)
  | 0, _, _, _ => none
  | n + 1, x2, x3, x4 =>
    if 20 ≤ x4 then
      k x2 x3 x4
    else
      Option.bind (f_X8_isLaw u x4) fun r29 =>
      if r29 = 0 then
        L_X8_laws_19 k u n x2 x3 (x4 + 1)
      else
        if x2 = 0 then
          L_X8_laws_19 k u n (x2 + 1) x4 (x4 + 1)
        else
          L_X8_laws_19 k u n (x2 + 1) x3 (x4 + 1)
set_option maxHeartbeats 4000000 in
set_option maxRecDepth 100000 in
theorem b_X8_laws_19 {p : Program} {l : Launch} {e : Env} {s : State} {m : MethodId} {args : Array Value} {below : List Frame} {meth : Method} {c : Code} {g : Gx} {u : St} {x1 : Int32} {res : Int32} {k : Int32 → Int32 → Int32 → Option (Int32)} (C : Cx p s m meth c args cX8_laws RX8 5 (some .int) 22 g)
    (hk : ∀ (x2 x3 x4 : Int32) (H : Heap) (locs : List Loc) (ls : Array Slot), Zx wM g (Aw 22 g s.heap.size) s H locs u → lv_has ls 5 [(1, .int x1), (2, .int x2), (3, .int x3)] → k x2 x3 x4 = some res → W p l e (rmX 2 45) s m args below meth c H locs 0 0 (QI wM 22 g res u below args s) (F0 m 55 ls [])) :
    ∀ (n : Nat) (x2 x3 x4 : Int32) (H : Heap) (locs : List Loc) (ls : Array Slot), Zx wM g (Aw 22 g s.heap.size) s H locs u → lv_has ls 5 [(0, .ref (g.2.2 0)), (1, .int x1), (2, .int x2), (3, .int x3), (4, .int x4)] → L_X8_laws_19 k u n x2 x3 x4 = some res → W p l e (rmX 2 45) s m args below meth c H locs 0 0 (QI wM 22 g res u below args s) (F0 m 19 ls []) := by
  have hx := C.1
  have hb := C.2.1
  intro n
  induction n with
  | zero =>
    intro x2 x3 x4 H locs ls Z hl hf
    rw [L_X8_laws_19.eq_1] at hf
    cases hf
  | succ n ih =>
    intro x2 x3 x4 H locs ls Z hl hf
    rw [L_X8_laws_19.eq_2] at hf
    refine lv_iload hx hb dX8_laws_19 (lv_at hl 4 rfl) ?_
    refine lv_bipush (v := 20) hx hb dX8_laws_21 (by decide +kernel) ?_
    refine lv_icmp_ge (tgt := 55) hx hb dX8_laws_23 (by decide) (fun hc23 => ?_) (fun hc23 => ?_)
    · rw [if_pos hc23] at hf
      exact hk _ _ _ H locs ls Z (lv_sub hl [1, 2, 3] rfl) hf
    · rw [if_neg hc23] at hf
      refine lv_aload_n hx hb dX8_laws_26 rfl (lv_at hl 0 rfl) ?_
      refine lv_iload hx hb dX8_laws_27 (lv_at hl 4 rfl) ?_
      obtain ⟨r29, hr29, hf⟩ := Option.bind_eq_some_iff.mp hf
      refine call_vi (As := [.int x4]) (rest := []) C Z (c_X8_isLaw l hr29) mf_X8_isLaw (ml_of C mw_1150) rfl (oM_0 g _) rfl ⟨rfl, rfl, by decide, by decide⟩ rfl hl.1 (Nat.le_of_ble_eq_true rfl) dX8_laws_29 (fun H locs Z => ?_)
      refine lv_if_eq (tgt := 49) hx hb dX8_laws_32 (by decide) (fun hc32 => ?_) (fun hc32 => ?_)
      · rw [if_pos hc32] at hf
        refine lv_iinc (v := (x4 + 1)) (lv' := [(4, .int (x4 + 1)), (0, .ref (g.2.2 0)), (1, .int x1), (2, .int x2), (3, .int x3)]) hx hb dX8_laws_49 hl (k := 4) rfl rfl (by decide) rfl (fun ls hl => ?_)
        refine lv_goto (tgt := 19) hx hb dX8_laws_52 (by decide) ?_
        exact ih _ _ _ _ _ _ Z (lv_sub hl [1, 2, 3, 4, 0] rfl) hf
      · rw [if_neg hc32] at hf
        refine lv_iload_n hx hb dX8_laws_35 rfl (lv_at hl 2 rfl) ?_
        refine lv_if_ne (tgt := 44) hx hb dX8_laws_36 (by decide) (fun hc36 => ?_) (fun hc36 => ?_)
        · rw [if_neg hc36] at hf
          refine lv_iload_n hx hb dX8_laws_44 rfl (lv_at hl 3 rfl) ?_
          refine lv_istore_n (lv' := [(3, .int x3), (0, .ref (g.2.2 0)), (1, .int x1), (2, .int x2), (4, .int x4)]) hx hb dX8_laws_45 rfl hl (by decide) rfl (fun ls hl => ?_)
          refine lv_iinc (v := (x2 + 1)) (lv' := [(2, .int (x2 + 1)), (3, .int x3), (0, .ref (g.2.2 0)), (1, .int x1), (4, .int x4)]) hx hb dX8_laws_46 hl (k := 3) rfl rfl (by decide) rfl (fun ls hl => ?_)
          refine lv_iinc (v := (x4 + 1)) (lv' := [(4, .int (x4 + 1)), (2, .int (x2 + 1)), (3, .int x3), (0, .ref (g.2.2 0)), (1, .int x1)]) hx hb dX8_laws_49 hl (k := 4) rfl rfl (by decide) rfl (fun ls hl => ?_)
          refine lv_goto (tgt := 19) hx hb dX8_laws_52 (by decide) ?_
          exact ih _ _ _ _ _ _ Z (lv_sub hl [3, 4, 1, 2, 0] rfl) hf
        · rw [if_pos hc36] at hf
          refine lv_iload hx hb dX8_laws_39 (lv_at hl 4 rfl) ?_
          refine lv_goto (tgt := 45) hx hb dX8_laws_41 (by decide) ?_
          refine lv_istore_n (lv' := [(3, .int x4), (0, .ref (g.2.2 0)), (1, .int x1), (2, .int x2), (4, .int x4)]) hx hb dX8_laws_45 rfl hl (by decide) rfl (fun ls hl => ?_)
          refine lv_iinc (v := (x2 + 1)) (lv' := [(2, .int (x2 + 1)), (3, .int x4), (0, .ref (g.2.2 0)), (1, .int x1), (4, .int x4)]) hx hb dX8_laws_46 hl (k := 3) rfl rfl (by decide) rfl (fun ls hl => ?_)
          refine lv_iinc (v := (x4 + 1)) (lv' := [(4, .int (x4 + 1)), (2, .int (x2 + 1)), (3, .int x4), (0, .ref (g.2.2 0)), (1, .int x1)]) hx hb dX8_laws_49 hl (k := 4) rfl rfl (by decide) rfl (fun ls hl => ?_)
          refine lv_goto (tgt := 19) hx hb dX8_laws_52 (by decide) ?_
          exact ih _ _ _ _ _ _ Z (lv_sub hl [3, 4, 1, 2, 0] rfl) hf
def f_X8_laws (u : St) (x1 : Int32) : Option (Int32) :=
  Option.bind (f_X8_in x1 0 1) fun r3 =>
  if r3 = 0 then
    some (-1)
  else
    L_X8_laws_19 (fun x2 x3 x4 =>
      if x1 = 0 then
        some x2
      else
        some x3) u FU 0 (-9) 0
set_option maxHeartbeats 4000000 in
set_option maxRecDepth 100000 in
theorem c_X8_laws (l : Launch) {g : Gx} {u : St} {x1 : Int32} {res : Int32} (hf : f_X8_laws u x1 = some res) : CI wM 22 l yX8_laws (wsY yX8_laws cX8_laws 5 (some .int)) (rmX 2 45) g [.ref (g.2.2 0), .int x1] u res u := by
  refine CI_start (by decide +kernel) rfl (Nat.le_of_ble_eq_true rfl) (fun {p e s m args below meth c ls} C Z hl => ?_)
  have hl : lv_has ls 5 [(0, .ref (g.2.2 0)), (1, .int x1)] := hl
  have hx := C.1
  have hb := C.2.1
  unfold f_X8_laws at hf
  refine lv_iload_n hx hb dX8_laws_0 rfl (lv_at hl 1 rfl) ?_
  refine lv_iconst (v := 0) hx hb dX8_laws_1 (by decide +kernel) ?_
  refine lv_iconst (v := 1) hx hb dX8_laws_2 (by decide +kernel) ?_
  obtain ⟨r3, hr3, hf⟩ := Option.bind_eq_some_iff.mp hf
  refine call_si (As := [.int x1, .int 0, .int 1]) (rest := []) C Z (c_X8_in l hr3) mf_X8_in (ml_of C mw_934) rfl ⟨rfl, rfl, by decide, by decide⟩ rfl hl.1 (Nat.le_of_ble_eq_true rfl) dX8_laws_3 (fun H locs Z => ?_)
  refine lv_if_ne (tgt := 11) hx hb dX8_laws_6 (by decide) (fun hc6 => ?_) (fun hc6 => ?_)
  · rw [if_neg hc6] at hf
    refine lv_iconst (v := 0) hx hb dX8_laws_11 (by decide +kernel) ?_
    refine lv_istore_n (lv' := [(2, .int 0), (0, .ref (g.2.2 0)), (1, .int x1)]) hx hb dX8_laws_12 rfl hl (by decide) rfl (fun ls hl => ?_)
    refine lv_bipush (v := (-9)) hx hb dX8_laws_13 (by decide +kernel) ?_
    refine lv_istore_n (lv' := [(3, .int (-9)), (2, .int 0), (0, .ref (g.2.2 0)), (1, .int x1)]) hx hb dX8_laws_15 rfl hl (by decide) rfl (fun ls hl => ?_)
    refine lv_iconst (v := 0) hx hb dX8_laws_16 (by decide +kernel) ?_
    refine lv_istore (lv' := [(4, .int 0), (3, .int (-9)), (2, .int 0), (0, .ref (g.2.2 0)), (1, .int x1)]) hx hb dX8_laws_17 hl (by decide) rfl (fun ls hl => ?_)
    refine b_X8_laws_19 C (fun x2 x3 x4 H locs ls Z hl hf => ?_) FU _ _ _ _ _ _ Z (lv_sub hl [3, 4, 2, 1, 0] rfl) hf
    refine lv_iload_n hx hb dX8_laws_55 rfl (lv_at hl 0 rfl) ?_
    refine lv_if_ne (tgt := 63) hx hb dX8_laws_56 (by decide) (fun hc56 => ?_) (fun hc56 => ?_)
    · rw [if_neg hc56] at hf
      refine lv_iload_n hx hb dX8_laws_63 rfl (lv_at hl 2 rfl) ?_
      have hf := Option.some.inj hf
      subst hf
      exact ret_i C Z dX8_laws_64
    · rw [if_pos hc56] at hf
      refine lv_iload_n hx hb dX8_laws_59 rfl (lv_at hl 1 rfl) ?_
      refine lv_goto (tgt := 64) hx hb dX8_laws_60 (by decide) ?_
      have hf := Option.some.inj hf
      subst hf
      exact ret_i C Z dX8_laws_64
  · rw [if_pos hc6] at hf
    refine lv_iconst (v := (-1)) hx hb dX8_laws_9 (by decide +kernel) ?_
    have hf := Option.some.inj hf
    subst hf
    exact ret_i C Z dX8_laws_10
def L_X0_bestHourToTry_10 (k : Int32 → Int32 → Int32 → Option (Int32)) (u : St) : Nat → Int32 → Int32 → Int32 → Option (Int32)
  | 0, _, _, _ => none
  | n + 1, x1, x2, x3 =>
    if 29 < x3 then
      k x1 x2 x3
    else
      Option.bind (f_X0_lawsFacing u 0 x3) fun r19 =>
      Option.bind (f_X0_lawsFacing u 1 x3) fun r25 =>
      if x2 ≤ (if r19 < r25 then r25 else r19) then
        L_X0_bestHourToTry_10 k u n x1 x2 (x3 + 1)
      else
        L_X0_bestHourToTry_10 k u n x3 (if r19 < r25 then r25 else r19) (x3 + 1)
set_option maxHeartbeats 4000000 in
set_option maxRecDepth 100000 in
theorem b_X0_bestHourToTry_10 {p : Program} {l : Launch} {e : Env} {s : State} {m : MethodId} {args : Array Value} {below : List Frame} {meth : Method} {c : Code} {g : Gx} {u : St} {res : Int32} {k : Int32 → Int32 → Int32 → Option (Int32)} (C : Cx p s m meth c args cX0_bestHourToTry RX0 5 (some .int) 82 g)
    (hk : ∀ (x1 x2 x3 : Int32) (H : Heap) (locs : List Loc) (ls : Array Slot), Zx wC g (Aw 82 g s.heap.size) s H locs u → lv_has ls 5 [(1, .int x1)] → k x1 x2 x3 = some res → W p l e (rmX 4 91) s m args below meth c H locs 0 0 (QI wC 82 g res u below args s) (F0 m 50 ls [])) :
    ∀ (n : Nat) (x1 x2 x3 : Int32) (H : Heap) (locs : List Loc) (ls : Array Slot), Zx wC g (Aw 82 g s.heap.size) s H locs u → lv_has ls 5 [(0, .ref (g.2.2 53)), (1, .int x1), (2, .int x2), (3, .int x3)] → L_X0_bestHourToTry_10 k u n x1 x2 x3 = some res → W p l e (rmX 4 91) s m args below meth c H locs 0 0 (QI wC 82 g res u below args s) (F0 m 10 ls []) := by
  have hx := C.1
  have hb := C.2.1
  intro n
  induction n with
  | zero =>
    intro x1 x2 x3 H locs ls Z hl hf
    rw [L_X0_bestHourToTry_10.eq_1] at hf
    cases hf
  | succ n ih =>
    intro x1 x2 x3 H locs ls Z hl hf
    rw [L_X0_bestHourToTry_10.eq_2] at hf
    refine lv_iload_n hx hb dX0_bestHourToTry_10 rfl (lv_at hl 3 rfl) ?_
    refine lv_bipush (v := 29) hx hb dX0_bestHourToTry_11 (by decide +kernel) ?_
    refine lv_icmp_gt (tgt := 50) hx hb dX0_bestHourToTry_13 (by decide) (fun hc13 => ?_) (fun hc13 => ?_)
    · rw [if_pos hc13] at hf
      exact hk _ _ _ H locs ls Z (lv_sub hl [1] rfl) hf
    · rw [if_neg hc13] at hf
      refine lv_aload_n hx hb dX0_bestHourToTry_16 rfl (lv_at hl 0 rfl) ?_
      refine lv_iconst (v := 0) hx hb dX0_bestHourToTry_17 (by decide +kernel) ?_
      refine lv_iload_n hx hb dX0_bestHourToTry_18 rfl (lv_at hl 3 rfl) ?_
      obtain ⟨r19, hr19, hf⟩ := Option.bind_eq_some_iff.mp hf
      refine call_vi (As := [.int 0, .int x3]) (rest := []) C Z (c_X0_lawsFacing l hr19) mf_X0_lawsFacing (ml_of C mw_690) rfl (oC_53 g _) rfl ⟨rfl, rfl, by decide, by decide⟩ rfl hl.1 (Nat.le_of_ble_eq_true rfl) dX0_bestHourToTry_19 (fun H locs Z => ?_)
      refine lv_aload_n hx hb dX0_bestHourToTry_22 rfl (lv_at hl 0 rfl) ?_
      refine lv_iconst (v := 1) hx hb dX0_bestHourToTry_23 (by decide +kernel) ?_
      refine lv_iload_n hx hb dX0_bestHourToTry_24 rfl (lv_at hl 3 rfl) ?_
      obtain ⟨r25, hr25, hf⟩ := Option.bind_eq_some_iff.mp hf
      refine call_vi (As := [.int 1, .int x3]) (rest := [.int r19]) C Z (c_X0_lawsFacing l hr25) mf_X0_lawsFacing (ml_of C mw_690) rfl (oC_53 g _) rfl ⟨rfl, rfl, by decide, by decide⟩ rfl hl.1 (Nat.le_of_ble_eq_true rfl) dX0_bestHourToTry_25 (fun H locs Z => ?_)
      refine r_max C mw_712 ⟨⟨mw_713, mw_109⟩, mw_714⟩ hl.1 (by decide) (Nat.le_of_ble_eq_true rfl) dX0_bestHourToTry_28 ?_
      refine lv_istore (lv' := [(4, .int (if r19 < r25 then r25 else r19)), (0, .ref (g.2.2 53)), (1, .int x1), (2, .int x2), (3, .int x3)]) hx hb dX0_bestHourToTry_31 hl (by decide) rfl (fun ls hl => ?_)
      refine lv_iload hx hb dX0_bestHourToTry_33 (lv_at hl 0 rfl) ?_
      refine lv_iload_n hx hb dX0_bestHourToTry_35 rfl (lv_at hl 3 rfl) ?_
      refine lv_icmp_ge (tgt := 44) hx hb dX0_bestHourToTry_36 (by decide) (fun hc36 => ?_) (fun hc36 => ?_)
      · rw [if_pos hc36] at hf
        refine lv_iinc (v := (x3 + 1)) (lv' := [(3, .int (x3 + 1)), (4, .int (if r19 < r25 then r25 else r19)), (0, .ref (g.2.2 53)), (1, .int x1), (2, .int x2)]) hx hb dX0_bestHourToTry_44 hl (k := 4) rfl rfl (by decide) rfl (fun ls hl => ?_)
        refine lv_goto (tgt := 10) hx hb dX0_bestHourToTry_47 (by decide) ?_
        exact ih _ _ _ _ _ _ Z (lv_sub hl [2, 3, 4, 0] rfl) hf
      · rw [if_neg hc36] at hf
        refine lv_iload_n hx hb dX0_bestHourToTry_39 rfl (lv_at hl 4 rfl) ?_
        refine lv_istore_n (lv' := [(1, .int x3), (4, .int (if r19 < r25 then r25 else r19)), (0, .ref (g.2.2 53)), (2, .int x2), (3, .int x3)]) hx hb dX0_bestHourToTry_40 rfl hl (by decide) rfl (fun ls hl => ?_)
        refine lv_iload hx hb dX0_bestHourToTry_41 (lv_at hl 1 rfl) ?_
        refine lv_istore_n (lv' := [(2, .int (if r19 < r25 then r25 else r19)), (1, .int x3), (4, .int (if r19 < r25 then r25 else r19)), (0, .ref (g.2.2 53)), (3, .int x3)]) hx hb dX0_bestHourToTry_43 rfl hl (by decide) rfl (fun ls hl => ?_)
        refine lv_iinc (v := (x3 + 1)) (lv' := [(3, .int (x3 + 1)), (2, .int (if r19 < r25 then r25 else r19)), (1, .int x3), (4, .int (if r19 < r25 then r25 else r19)), (0, .ref (g.2.2 53))]) hx hb dX0_bestHourToTry_44 hl (k := 4) rfl rfl (by decide) rfl (fun ls hl => ?_)
        refine lv_goto (tgt := 10) hx hb dX0_bestHourToTry_47 (by decide) ?_
        exact ih _ _ _ _ _ _ Z (lv_sub hl [4, 2, 1, 0] rfl) hf
def f_X0_bestHourToTry (u : St) : Option (Int32) :=
  Option.bind (f_X0_lawCount u) fun r4 =>
  L_X0_bestHourToTry_10 (fun x1 x2 x3 =>
    some x1) u FU (-9) r4 0
set_option maxHeartbeats 4000000 in
set_option maxRecDepth 100000 in
theorem c_X0_bestHourToTry (l : Launch) {g : Gx} {u : St} {res : Int32} (hf : f_X0_bestHourToTry u = some res) : CI wC 82 l yX0_bestHourToTry (wsY yX0_bestHourToTry cX0_bestHourToTry 5 (some .int)) (rmX 4 91) g [.ref (g.2.2 53)] u res u := by
  refine CI_start (by decide +kernel) rfl (Nat.le_of_ble_eq_true rfl) (fun {p e s m args below meth c ls} C Z hl => ?_)
  have hl : lv_has ls 5 [(0, .ref (g.2.2 53))] := hl
  have hx := C.1
  have hb := C.2.1
  unfold f_X0_bestHourToTry at hf
  refine lv_bipush (v := (-9)) hx hb dX0_bestHourToTry_0 (by decide +kernel) ?_
  refine lv_istore_n (lv' := [(1, .int (-9)), (0, .ref (g.2.2 53))]) hx hb dX0_bestHourToTry_2 rfl hl (by decide) rfl (fun ls hl => ?_)
  refine lv_aload_n hx hb dX0_bestHourToTry_3 rfl (lv_at hl 1 rfl) ?_
  obtain ⟨r4, hr4, hf⟩ := Option.bind_eq_some_iff.mp hf
  refine call_vi (As := []) (rest := []) C Z (c_X0_lawCount l hr4) mf_X0_lawCount (ml_of C mw_711) rfl (oC_53 g _) rfl ⟨rfl, rfl, by decide, by decide⟩ rfl hl.1 (Nat.le_of_ble_eq_true rfl) dX0_bestHourToTry_4 (fun H locs Z => ?_)
  refine lv_istore_n (lv' := [(2, .int r4), (1, .int (-9)), (0, .ref (g.2.2 53))]) hx hb dX0_bestHourToTry_7 rfl hl (by decide) rfl (fun ls hl => ?_)
  refine lv_iconst (v := 0) hx hb dX0_bestHourToTry_8 (by decide +kernel) ?_
  refine lv_istore_n (lv' := [(3, .int 0), (2, .int r4), (1, .int (-9)), (0, .ref (g.2.2 53))]) hx hb dX0_bestHourToTry_9 rfl hl (by decide) rfl (fun ls hl => ?_)
  refine b_X0_bestHourToTry_10 C (fun x1 x2 x3 H locs ls Z hl hf => ?_) FU _ _ _ _ _ _ Z (lv_sub hl [3, 2, 1, 0] rfl) hf
  refine lv_iload_n hx hb dX0_bestHourToTry_50 rfl (lv_at hl 0 rfl) ?_
  have hf := Option.some.inj hf
  subst hf
  exact ret_i C Z dX0_bestHourToTry_51
def f_X7_tryNext (u : St) : Option (Int32) :=
  Option.bind (f_X0_bestHourToTry u) fun r4 =>
  some r4
set_option maxHeartbeats 4000000 in
set_option maxRecDepth 100000 in
theorem c_X7_tryNext (l : Launch) {g : Gx} {u : St} {res : Int32} (hf : f_X7_tryNext u = some res) : CI wC 82 l yX7_tryNext (wsY yX7_tryNext cX7_tryNext 1 (some .int)) (rmX 5 115) g [.ref (g.2.2 0)] u res u := by
  refine CI_start (by decide +kernel) rfl (Nat.le_of_ble_eq_true rfl) (fun {p e s m args below meth c ls} C Z hl => ?_)
  have hl : lv_has ls 1 [(0, .ref (g.2.2 0))] := hl
  have hx := C.1
  have hb := C.2.1
  unfold f_X7_tryNext at hf
  refine lv_aload_n hx hb dX7_tryNext_0 rfl (lv_at hl 0 rfl) ?_
  refine gC_0_3 C Z (fl_of C mw_308) dX7_tryNext_1 ?_
  obtain ⟨r4, hr4, hf⟩ := Option.bind_eq_some_iff.mp hf
  refine call_vi (As := []) (rest := []) C Z (c_X0_bestHourToTry l hr4) mf_X0_bestHourToTry (ml_nest C nw_58) rfl (oC_53 g _) rfl ⟨rfl, rfl, by decide, by decide⟩ rfl hl.1 (Nat.le_of_ble_eq_true rfl) dX7_tryNext_4 (fun H locs Z => ?_)
  have hf := Option.some.inj hf
  subst hf
  exact ret_i C Z dX7_tryNext_7
def L_X8_tryNext_27 (k : Int32 → Int32 → Option (Int32)) (u : St) (x4 : Int32) : Nat → Int32 → Int32 → Option (Int32)
  | 0, _, _ => none
  | n + 1, x5, x6 =>
    if 20 ≤ x6 then
      k x5 x6
    else
      Option.bind (f_X8_isLaw u x6) fun r39 =>
      if r39 = 0 then
        L_X8_tryNext_27 k u x4 n (x5 + 0) (x6 + 1)
      else
        Option.bind (f_X8_sideBy (x6 / 10) (x6 - (x6 / 10) * 10) x4) fun r57 =>
        L_X8_tryNext_27 k u x4 n (x5 + r57) (x6 + 1)
set_option maxHeartbeats 4000000 in
set_option maxRecDepth 100000 in
theorem b_X8_tryNext_27 {p : Program} {l : Launch} {e : Env} {s : State} {m : MethodId} {args : Array Value} {below : List Frame} {meth : Method} {c : Code} {g : Gx} {u : St} {x1 x2 x3 x4 : Int32} {res : Int32} {k : Int32 → Int32 → Option (Int32)} (C : Cx p s m meth c args cX8_tryNext RX8 7 (some .int) 22 g)
    (hk : ∀ (x5 x6 : Int32) (H : Heap) (locs : List Loc) (ls : Array Slot), Zx wM g (Aw 22 g s.heap.size) s H locs u → lv_has ls 7 [(0, .ref (g.2.2 0)), (1, .int x1), (2, .int x2), (3, .int x3), (4, .int x4), (5, .int x5)] → k x5 x6 = some res → W p l e (rmX 3 69) s m args below meth c H locs 0 0 (QI wM 22 g res u below args s) (F0 m 73 ls [])) :
    ∀ (n : Nat) (x5 x6 : Int32) (H : Heap) (locs : List Loc) (ls : Array Slot), Zx wM g (Aw 22 g s.heap.size) s H locs u → lv_has ls 7 [(0, .ref (g.2.2 0)), (1, .int x1), (2, .int x2), (3, .int x3), (4, .int x4), (5, .int x5), (6, .int x6)] → L_X8_tryNext_27 k u x4 n x5 x6 = some res → W p l e (rmX 3 69) s m args below meth c H locs 0 0 (QI wM 22 g res u below args s) (F0 m 27 ls []) := by
  have hx := C.1
  have hb := C.2.1
  intro n
  induction n with
  | zero =>
    intro x5 x6 H locs ls Z hl hf
    rw [L_X8_tryNext_27.eq_1] at hf
    cases hf
  | succ n ih =>
    intro x5 x6 H locs ls Z hl hf
    rw [L_X8_tryNext_27.eq_2] at hf
    refine lv_iload hx hb dX8_tryNext_27 (lv_at hl 6 rfl) ?_
    refine lv_bipush (v := 20) hx hb dX8_tryNext_29 (by decide +kernel) ?_
    refine lv_icmp_ge (tgt := 73) hx hb dX8_tryNext_31 (by decide) (fun hc31 => ?_) (fun hc31 => ?_)
    · rw [if_pos hc31] at hf
      exact hk _ _ H locs ls Z (lv_sub hl [0, 1, 2, 3, 4, 5] rfl) hf
    · rw [if_neg hc31] at hf
      refine lv_iload hx hb dX8_tryNext_34 (lv_at hl 5 rfl) ?_
      refine lv_aload_n hx hb dX8_tryNext_36 rfl (lv_at hl 0 rfl) ?_
      refine lv_iload hx hb dX8_tryNext_37 (lv_at hl 6 rfl) ?_
      obtain ⟨r39, hr39, hf⟩ := Option.bind_eq_some_iff.mp hf
      refine call_vi (As := [.int x6]) (rest := [.int x5]) C Z (c_X8_isLaw l hr39) mf_X8_isLaw (ml_of C mw_1150) rfl (oM_0 g _) rfl ⟨rfl, rfl, by decide, by decide⟩ rfl hl.1 (Nat.le_of_ble_eq_true rfl) dX8_tryNext_39 (fun H locs Z => ?_)
      refine lv_if_eq (tgt := 63) hx hb dX8_tryNext_42 (by decide) (fun hc42 => ?_) (fun hc42 => ?_)
      · rw [if_pos hc42] at hf
        refine lv_iconst (v := 0) hx hb dX8_tryNext_63 (by decide +kernel) ?_
        refine lv_iadd hx hb dX8_tryNext_64 ?_
        refine lv_istore (lv' := [(5, .int (x5 + 0)), (0, .ref (g.2.2 0)), (1, .int x1), (2, .int x2), (3, .int x3), (4, .int x4), (6, .int x6)]) hx hb dX8_tryNext_65 hl (by decide) rfl (fun ls hl => ?_)
        refine lv_iinc (v := (x6 + 1)) (lv' := [(6, .int (x6 + 1)), (5, .int (x5 + 0)), (0, .ref (g.2.2 0)), (1, .int x1), (2, .int x2), (3, .int x3), (4, .int x4)]) hx hb dX8_tryNext_67 hl (k := 6) rfl rfl (by decide) rfl (fun ls hl => ?_)
        refine lv_goto (tgt := 27) hx hb dX8_tryNext_70 (by decide) ?_
        exact ih _ _ _ _ _ Z (lv_sub hl [2, 3, 4, 5, 6, 1, 0] rfl) hf
      · rw [if_neg hc42] at hf
        refine lv_iload hx hb dX8_tryNext_45 (lv_at hl 6 rfl) ?_
        refine lv_bipush (v := 10) hx hb dX8_tryNext_47 (by decide +kernel) ?_
        refine lv_idiv hx hb dX8_tryNext_49 (by decide) ?_
        refine lv_iload hx hb dX8_tryNext_50 (lv_at hl 6 rfl) ?_
        refine lv_bipush (v := 10) hx hb dX8_tryNext_52 (by decide +kernel) ?_
        refine lv_irem hx hb dX8_tryNext_54 (by decide) ?_
        refine lv_iload hx hb dX8_tryNext_55 (lv_at hl 4 rfl) ?_
        obtain ⟨r57, hr57, hf⟩ := Option.bind_eq_some_iff.mp hf
        refine call_si (As := [.int (x6 / 10), .int (x6 - (x6 / 10) * 10), .int x4]) (rest := [.int x5]) C Z (c_X8_sideBy l hr57) mf_X8_sideBy (ml_of C mw_1014) rfl ⟨rfl, rfl, by decide, by decide⟩ rfl hl.1 (Nat.le_of_ble_eq_true rfl) dX8_tryNext_57 (fun H locs Z => ?_)
        refine lv_goto (tgt := 64) hx hb dX8_tryNext_60 (by decide) ?_
        refine lv_iadd hx hb dX8_tryNext_64 ?_
        refine lv_istore (lv' := [(5, .int (x5 + r57)), (0, .ref (g.2.2 0)), (1, .int x1), (2, .int x2), (3, .int x3), (4, .int x4), (6, .int x6)]) hx hb dX8_tryNext_65 hl (by decide) rfl (fun ls hl => ?_)
        refine lv_iinc (v := (x6 + 1)) (lv' := [(6, .int (x6 + 1)), (5, .int (x5 + r57)), (0, .ref (g.2.2 0)), (1, .int x1), (2, .int x2), (3, .int x3), (4, .int x4)]) hx hb dX8_tryNext_67 hl (k := 6) rfl rfl (by decide) rfl (fun ls hl => ?_)
        refine lv_goto (tgt := 27) hx hb dX8_tryNext_70 (by decide) ?_
        exact ih _ _ _ _ _ Z (lv_sub hl [2, 3, 4, 5, 6, 1, 0] rfl) hf
def L_X8_tryNext_14 (k : Int32 → Int32 → Int32 → Option (Int32)) (u : St) (x1 : Int32) : Nat → Int32 → Int32 → Int32 → Option (Int32)
  | 0, _, _, _ => none
  | n + 1, x2, x3, x4 =>
    if 30 ≤ x4 then
      k x2 x3 x4
    else
      L_X8_tryNext_27 (fun x5 x6 =>
        if x5 ≤ (x1 - x5) then
          if x3 ≤ (x1 - x5) then
            L_X8_tryNext_14 k u x1 n x2 x3 (x4 + 1)
          else
            L_X8_tryNext_14 k u x1 n x4 (x1 - x5) (x4 + 1)
        else
          if x3 ≤ x5 then
            L_X8_tryNext_14 k u x1 n x2 x3 (x4 + 1)
          else
            L_X8_tryNext_14 k u x1 n x4 x5 (x4 + 1)) u x4 FU 0 0
set_option maxHeartbeats 4000000 in
set_option maxRecDepth 100000 in
theorem b_X8_tryNext_14 {p : Program} {l : Launch} {e : Env} {s : State} {m : MethodId} {args : Array Value} {below : List Frame} {meth : Method} {c : Code} {g : Gx} {u : St} {x1 : Int32} {res : Int32} {k : Int32 → Int32 → Int32 → Option (Int32)} (C : Cx p s m meth c args cX8_tryNext RX8 7 (some .int) 22 g)
    (hk : ∀ (x2 x3 x4 : Int32) (H : Heap) (locs : List Loc) (ls : Array Slot), Zx wM g (Aw 22 g s.heap.size) s H locs u → lv_has ls 7 [(2, .int x2)] → k x2 x3 x4 = some res → W p l e (rmX 3 69) s m args below meth c H locs 0 0 (QI wM 22 g res u below args s) (F0 m 125 ls [])) :
    ∀ (n : Nat) (x2 x3 x4 : Int32) (H : Heap) (locs : List Loc) (ls : Array Slot), Zx wM g (Aw 22 g s.heap.size) s H locs u → lv_has ls 7 [(0, .ref (g.2.2 0)), (1, .int x1), (2, .int x2), (3, .int x3), (4, .int x4)] → L_X8_tryNext_14 k u x1 n x2 x3 x4 = some res → W p l e (rmX 3 69) s m args below meth c H locs 0 0 (QI wM 22 g res u below args s) (F0 m 14 ls []) := by
  have hx := C.1
  have hb := C.2.1
  intro n
  induction n with
  | zero =>
    intro x2 x3 x4 H locs ls Z hl hf
    rw [L_X8_tryNext_14.eq_1] at hf
    cases hf
  | succ n ih =>
    intro x2 x3 x4 H locs ls Z hl hf
    rw [L_X8_tryNext_14.eq_2] at hf
    refine lv_iload hx hb dX8_tryNext_14 (lv_at hl 4 rfl) ?_
    refine lv_bipush (v := 30) hx hb dX8_tryNext_16 (by decide +kernel) ?_
    refine lv_icmp_ge (tgt := 125) hx hb dX8_tryNext_18 (by decide) (fun hc18 => ?_) (fun hc18 => ?_)
    · rw [if_pos hc18] at hf
      exact hk _ _ _ H locs ls Z (lv_sub hl [2] rfl) hf
    · rw [if_neg hc18] at hf
      refine lv_iconst (v := 0) hx hb dX8_tryNext_21 (by decide +kernel) ?_
      refine lv_istore (lv' := [(5, .int 0), (0, .ref (g.2.2 0)), (1, .int x1), (2, .int x2), (3, .int x3), (4, .int x4)]) hx hb dX8_tryNext_22 hl (by decide) rfl (fun ls hl => ?_)
      refine lv_iconst (v := 0) hx hb dX8_tryNext_24 (by decide +kernel) ?_
      refine lv_istore (lv' := [(6, .int 0), (5, .int 0), (0, .ref (g.2.2 0)), (1, .int x1), (2, .int x2), (3, .int x3), (4, .int x4)]) hx hb dX8_tryNext_25 hl (by decide) rfl (fun ls hl => ?_)
      refine b_X8_tryNext_27 C (fun x5 x6 H locs ls Z hl hf => ?_) FU _ _ _ _ _ Z (lv_sub hl [2, 3, 4, 5, 6, 1, 0] rfl) hf
      refine lv_iload hx hb dX8_tryNext_73 (lv_at hl 5 rfl) ?_
      refine lv_iload_n hx hb dX8_tryNext_75 rfl (lv_at hl 1 rfl) ?_
      refine lv_iload hx hb dX8_tryNext_76 (lv_at hl 5 rfl) ?_
      refine lv_isub hx hb dX8_tryNext_78 ?_
      refine lv_icmp_le (tgt := 87) hx hb dX8_tryNext_79 (by decide) (fun hc79 => ?_) (fun hc79 => ?_)
      · rw [if_pos hc79] at hf
        refine lv_iload_n hx hb dX8_tryNext_87 rfl (lv_at hl 1 rfl) ?_
        refine lv_iload hx hb dX8_tryNext_88 (lv_at hl 5 rfl) ?_
        refine lv_isub hx hb dX8_tryNext_90 ?_
        refine lv_istore (lv' := [(6, .int (x1 - x5)), (0, .ref (g.2.2 0)), (1, .int x1), (2, .int x2), (3, .int x3), (4, .int x4), (5, .int x5)]) hx hb dX8_tryNext_91 hl (by decide) rfl (fun ls hl => ?_)
        refine lv_iload hx hb dX8_tryNext_93 (lv_at hl 0 rfl) ?_
        refine lv_iload_n hx hb dX8_tryNext_95 rfl (lv_at hl 4 rfl) ?_
        refine lv_icmp_ge (tgt := 104) hx hb dX8_tryNext_96 (by decide) (fun hc96 => ?_) (fun hc96 => ?_)
        · rw [if_pos hc96] at hf
          refine lv_iload_n hx hb dX8_tryNext_104 rfl (lv_at hl 3 rfl) ?_
          refine lv_istore_n (lv' := [(2, .int x2), (6, .int (x1 - x5)), (0, .ref (g.2.2 0)), (1, .int x1), (3, .int x3), (4, .int x4), (5, .int x5)]) hx hb dX8_tryNext_105 rfl hl (by decide) rfl (fun ls hl => ?_)
          refine lv_iload hx hb dX8_tryNext_106 (lv_at hl 1 rfl) ?_
          refine lv_iload_n hx hb dX8_tryNext_108 rfl (lv_at hl 4 rfl) ?_
          refine lv_icmp_ge (tgt := 117) hx hb dX8_tryNext_109 (by decide) (fun _ => ?_) (fun hq => absurd hc96 hq)
          refine lv_iload_n hx hb dX8_tryNext_117 rfl (lv_at hl 4 rfl) ?_
          refine lv_istore_n (lv' := [(3, .int x3), (2, .int x2), (6, .int (x1 - x5)), (0, .ref (g.2.2 0)), (1, .int x1), (4, .int x4), (5, .int x5)]) hx hb dX8_tryNext_118 rfl hl (by decide) rfl (fun ls hl => ?_)
          refine lv_iinc (v := (x4 + 1)) (lv' := [(4, .int (x4 + 1)), (3, .int x3), (2, .int x2), (6, .int (x1 - x5)), (0, .ref (g.2.2 0)), (1, .int x1), (5, .int x5)]) hx hb dX8_tryNext_119 hl (k := 5) rfl rfl (by decide) rfl (fun ls hl => ?_)
          refine lv_goto (tgt := 14) hx hb dX8_tryNext_122 (by decide) ?_
          exact ih _ _ _ _ _ _ Z (lv_sub hl [4, 5, 2, 1, 0] rfl) hf
        · rw [if_neg hc96] at hf
          refine lv_iload hx hb dX8_tryNext_99 (lv_at hl 5 rfl) ?_
          refine lv_goto (tgt := 105) hx hb dX8_tryNext_101 (by decide) ?_
          refine lv_istore_n (lv' := [(2, .int x4), (6, .int (x1 - x5)), (0, .ref (g.2.2 0)), (1, .int x1), (3, .int x3), (4, .int x4), (5, .int x5)]) hx hb dX8_tryNext_105 rfl hl (by decide) rfl (fun ls hl => ?_)
          refine lv_iload hx hb dX8_tryNext_106 (lv_at hl 1 rfl) ?_
          refine lv_iload_n hx hb dX8_tryNext_108 rfl (lv_at hl 4 rfl) ?_
          refine lv_icmp_ge (tgt := 117) hx hb dX8_tryNext_109 (by decide) (fun hq => absurd hq hc96) (fun _ => ?_)
          refine lv_iload hx hb dX8_tryNext_112 (lv_at hl 1 rfl) ?_
          refine lv_goto (tgt := 118) hx hb dX8_tryNext_114 (by decide) ?_
          refine lv_istore_n (lv' := [(3, .int (x1 - x5)), (2, .int x4), (6, .int (x1 - x5)), (0, .ref (g.2.2 0)), (1, .int x1), (4, .int x4), (5, .int x5)]) hx hb dX8_tryNext_118 rfl hl (by decide) rfl (fun ls hl => ?_)
          refine lv_iinc (v := (x4 + 1)) (lv' := [(4, .int (x4 + 1)), (3, .int (x1 - x5)), (2, .int x4), (6, .int (x1 - x5)), (0, .ref (g.2.2 0)), (1, .int x1), (5, .int x5)]) hx hb dX8_tryNext_119 hl (k := 5) rfl rfl (by decide) rfl (fun ls hl => ?_)
          refine lv_goto (tgt := 14) hx hb dX8_tryNext_122 (by decide) ?_
          exact ih _ _ _ _ _ _ Z (lv_sub hl [4, 5, 2, 1, 0] rfl) hf
      · rw [if_neg hc79] at hf
        refine lv_iload hx hb dX8_tryNext_82 (lv_at hl 5 rfl) ?_
        refine lv_goto (tgt := 91) hx hb dX8_tryNext_84 (by decide) ?_
        refine lv_istore (lv' := [(6, .int x5), (0, .ref (g.2.2 0)), (1, .int x1), (2, .int x2), (3, .int x3), (4, .int x4), (5, .int x5)]) hx hb dX8_tryNext_91 hl (by decide) rfl (fun ls hl => ?_)
        refine lv_iload hx hb dX8_tryNext_93 (lv_at hl 0 rfl) ?_
        refine lv_iload_n hx hb dX8_tryNext_95 rfl (lv_at hl 4 rfl) ?_
        refine lv_icmp_ge (tgt := 104) hx hb dX8_tryNext_96 (by decide) (fun hc96 => ?_) (fun hc96 => ?_)
        · rw [if_pos hc96] at hf
          refine lv_iload_n hx hb dX8_tryNext_104 rfl (lv_at hl 3 rfl) ?_
          refine lv_istore_n (lv' := [(2, .int x2), (6, .int x5), (0, .ref (g.2.2 0)), (1, .int x1), (3, .int x3), (4, .int x4), (5, .int x5)]) hx hb dX8_tryNext_105 rfl hl (by decide) rfl (fun ls hl => ?_)
          refine lv_iload hx hb dX8_tryNext_106 (lv_at hl 1 rfl) ?_
          refine lv_iload_n hx hb dX8_tryNext_108 rfl (lv_at hl 4 rfl) ?_
          refine lv_icmp_ge (tgt := 117) hx hb dX8_tryNext_109 (by decide) (fun _ => ?_) (fun hq => absurd hc96 hq)
          refine lv_iload_n hx hb dX8_tryNext_117 rfl (lv_at hl 4 rfl) ?_
          refine lv_istore_n (lv' := [(3, .int x3), (2, .int x2), (6, .int x5), (0, .ref (g.2.2 0)), (1, .int x1), (4, .int x4), (5, .int x5)]) hx hb dX8_tryNext_118 rfl hl (by decide) rfl (fun ls hl => ?_)
          refine lv_iinc (v := (x4 + 1)) (lv' := [(4, .int (x4 + 1)), (3, .int x3), (2, .int x2), (6, .int x5), (0, .ref (g.2.2 0)), (1, .int x1), (5, .int x5)]) hx hb dX8_tryNext_119 hl (k := 5) rfl rfl (by decide) rfl (fun ls hl => ?_)
          refine lv_goto (tgt := 14) hx hb dX8_tryNext_122 (by decide) ?_
          exact ih _ _ _ _ _ _ Z (lv_sub hl [4, 5, 2, 1, 0] rfl) hf
        · rw [if_neg hc96] at hf
          refine lv_iload hx hb dX8_tryNext_99 (lv_at hl 5 rfl) ?_
          refine lv_goto (tgt := 105) hx hb dX8_tryNext_101 (by decide) ?_
          refine lv_istore_n (lv' := [(2, .int x4), (6, .int x5), (0, .ref (g.2.2 0)), (1, .int x1), (3, .int x3), (4, .int x4), (5, .int x5)]) hx hb dX8_tryNext_105 rfl hl (by decide) rfl (fun ls hl => ?_)
          refine lv_iload hx hb dX8_tryNext_106 (lv_at hl 1 rfl) ?_
          refine lv_iload_n hx hb dX8_tryNext_108 rfl (lv_at hl 4 rfl) ?_
          refine lv_icmp_ge (tgt := 117) hx hb dX8_tryNext_109 (by decide) (fun hq => absurd hq hc96) (fun _ => ?_)
          refine lv_iload hx hb dX8_tryNext_112 (lv_at hl 1 rfl) ?_
          refine lv_goto (tgt := 118) hx hb dX8_tryNext_114 (by decide) ?_
          refine lv_istore_n (lv' := [(3, .int x5), (2, .int x4), (6, .int x5), (0, .ref (g.2.2 0)), (1, .int x1), (4, .int x4), (5, .int x5)]) hx hb dX8_tryNext_118 rfl hl (by decide) rfl (fun ls hl => ?_)
          refine lv_iinc (v := (x4 + 1)) (lv' := [(4, .int (x4 + 1)), (3, .int x5), (2, .int x4), (6, .int x5), (0, .ref (g.2.2 0)), (1, .int x1), (5, .int x5)]) hx hb dX8_tryNext_119 hl (k := 5) rfl rfl (by decide) rfl (fun ls hl => ?_)
          refine lv_goto (tgt := 14) hx hb dX8_tryNext_122 (by decide) ?_
          exact ih _ _ _ _ _ _ Z (lv_sub hl [4, 5, 2, 1, 0] rfl) hf
def f_X8_tryNext (u : St) : Option (Int32) :=
  Option.bind (f_X8_laws u 0) fun r2 =>
  L_X8_tryNext_14 (fun x2 x3 x4 =>
    some x2) u r2 FU (-9) r2 0
set_option maxHeartbeats 4000000 in
set_option maxRecDepth 100000 in
theorem c_X8_tryNext (l : Launch) {g : Gx} {u : St} {res : Int32} (hf : f_X8_tryNext u = some res) : CI wM 22 l yX8_tryNext (wsY yX8_tryNext cX8_tryNext 7 (some .int)) (rmX 3 69) g [.ref (g.2.2 0)] u res u := by
  refine CI_start (by decide +kernel) rfl (Nat.le_of_ble_eq_true rfl) (fun {p e s m args below meth c ls} C Z hl => ?_)
  have hl : lv_has ls 7 [(0, .ref (g.2.2 0))] := hl
  have hx := C.1
  have hb := C.2.1
  unfold f_X8_tryNext at hf
  refine lv_aload_n hx hb dX8_tryNext_0 rfl (lv_at hl 0 rfl) ?_
  refine lv_iconst (v := 0) hx hb dX8_tryNext_1 (by decide +kernel) ?_
  obtain ⟨r2, hr2, hf⟩ := Option.bind_eq_some_iff.mp hf
  refine call_vi (As := [.int 0]) (rest := []) C Z (c_X8_laws l hr2) mf_X8_laws (ml_of C mw_1158) rfl (oM_0 g _) rfl ⟨rfl, rfl, by decide, by decide⟩ rfl hl.1 (Nat.le_of_ble_eq_true rfl) dX8_tryNext_2 (fun H locs Z => ?_)
  refine lv_istore_n (lv' := [(1, .int r2), (0, .ref (g.2.2 0))]) hx hb dX8_tryNext_5 rfl hl (by decide) rfl (fun ls hl => ?_)
  refine lv_bipush (v := (-9)) hx hb dX8_tryNext_6 (by decide +kernel) ?_
  refine lv_istore_n (lv' := [(2, .int (-9)), (1, .int r2), (0, .ref (g.2.2 0))]) hx hb dX8_tryNext_8 rfl hl (by decide) rfl (fun ls hl => ?_)
  refine lv_iload_n hx hb dX8_tryNext_9 rfl (lv_at hl 1 rfl) ?_
  refine lv_istore_n (lv' := [(3, .int r2), (2, .int (-9)), (1, .int r2), (0, .ref (g.2.2 0))]) hx hb dX8_tryNext_10 rfl hl (by decide) rfl (fun ls hl => ?_)
  refine lv_iconst (v := 0) hx hb dX8_tryNext_11 (by decide +kernel) ?_
  refine lv_istore (lv' := [(4, .int 0), (3, .int r2), (2, .int (-9)), (1, .int r2), (0, .ref (g.2.2 0))]) hx hb dX8_tryNext_12 hl (by decide) rfl (fun ls hl => ?_)
  refine b_X8_tryNext_14 C (fun x2 x3 x4 H locs ls Z hl hf => ?_) FU _ _ _ _ _ _ Z (lv_sub hl [4, 3, 2, 1, 0] rfl) hf
  refine lv_iload_n hx hb dX8_tryNext_125 rfl (lv_at hl 0 rfl) ?_
  have hf := Option.some.inj hf
  subst hf
  exact ret_i C Z dX8_tryNext_126
