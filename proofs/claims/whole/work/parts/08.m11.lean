def f_X8_isCock (u : St) (x1 : Int32) : Option (Int32) :=
  Option.bind (f_X8_in x1 0 ((u.1 0) - 1)) fun r8 =>
  if nb r8 then some r8 else none
set_option maxHeartbeats 4000000 in
set_option maxRecDepth 100000 in
theorem c_X8_isCock (l : Launch) {g : Gx} {u : St} {x1 : Int32} {res : Int32} (hf : f_X8_isCock u x1 = some res) : CI wM 22 l yX8_isCock (wsY yX8_isCock cX8_isCock 2 (some .boolean)) (rmX 1 22) g [.ref (g.2.2 0), .int x1] u res u := by
  refine CI_start (by decide +kernel) rfl (Nat.le_of_ble_eq_true rfl) (fun {p e s m args below meth c ls} C Z hl => ?_)
  have hl : lv_has ls 2 [(0, .ref (g.2.2 0)), (1, .int x1)] := hl
  have hx := C.1
  have hb := C.2.1
  unfold f_X8_isCock at hf
  refine lv_iload_n hx hb dX8_isCock_0 rfl (lv_at hl 1 rfl) ?_
  refine lv_iconst (v := 0) hx hb dX8_isCock_1 (by decide +kernel) ?_
  refine lv_aload_n hx hb dX8_isCock_2 rfl (lv_at hl 0 rfl) ?_
  refine gM_0_0 C Z (fl_of C mw_817) dX8_isCock_3 (x := (u.1 0)) rfl ?_
  refine lv_iconst (v := 1) hx hb dX8_isCock_6 (by decide +kernel) ?_
  refine lv_isub hx hb dX8_isCock_7 ?_
  obtain ⟨r8, hr8, hf⟩ := Option.bind_eq_some_iff.mp hf
  refine call_si (As := [.int x1, .int 0, .int ((u.1 0) - 1)]) (rest := []) C Z (c_X8_in l hr8) mf_X8_in (ml_of C mw_934) rfl ⟨rfl, rfl, by decide, by decide⟩ rfl hl.1 (Nat.le_of_ble_eq_true rfl) dX8_isCock_8 (fun H locs Z => ?_)
  by_cases hn11 : nb r8 = true
  · rw [if_pos hn11] at hf
    have hf := Option.some.inj hf
    subst hf
    exact ret_z C Z hn11 dX8_isCock_11
  · rw [if_neg hn11] at hf
    cases hf
def f_X8_eye (u : St) (x1 : Int32) : Option (Int32) :=
  if oob x1 5 then none else
  if oob (1 + ((u.2.1 0) (Int32.toNatClampNeg x1))) 507 then none else
  some (((u.2.1 7) (Int32.toNatClampNeg (1 + ((u.2.1 0) (Int32.toNatClampNeg x1))))) + ((u.2.1 1) (Int32.toNatClampNeg x1)))
set_option maxHeartbeats 4000000 in
set_option maxRecDepth 100000 in
theorem c_X8_eye (l : Launch) {g : Gx} {u : St} {x1 : Int32} {res : Int32} (hf : f_X8_eye u x1 = some res) : CI wM 22 l yX8_eye (wsY yX8_eye cX8_eye 2 (some .int)) (rmX 0 0) g [.ref (g.2.2 0), .int x1] u res u := by
  refine CI_start (by decide +kernel) rfl (Nat.le_of_ble_eq_true rfl) (fun {p e s m args below meth c ls} C Z hl => ?_)
  have hl : lv_has ls 2 [(0, .ref (g.2.2 0)), (1, .int x1)] := hl
  have hx := C.1
  have hb := C.2.1
  unfold f_X8_eye at hf
  refine lv_aload_n hx hb dX8_eye_0 rfl (lv_at hl 0 rfl) ?_
  refine gM_0_10 C Z (fl_of C mw_827) dX8_eye_1 ?_
  refine lv_iconst (v := 1) hx hb dX8_eye_4 (by decide +kernel) ?_
  refine lv_aload_n hx hb dX8_eye_5 rfl (lv_at hl 0 rfl) ?_
  refine gM_0_1 C Z (fl_of C mw_818) dX8_eye_6 ?_
  refine lv_iload_n hx hb dX8_eye_9 rfl (lv_at hl 1 rfl) ?_
  by_cases ho10 : oob x1 5 = true
  · rw [if_pos ho10] at hf; cases hf
  rw [if_neg ho10] at hf
  refine r_ald C Z (aM_1 g _ (f := (u.2.1 0)) rfl) ho10 rfl dX8_eye_10 (x := ((u.2.1 0) (Int32.toNatClampNeg x1))) rfl ?_
  refine lv_iadd hx hb dX8_eye_11 ?_
  by_cases ho12 : oob (1 + ((u.2.1 0) (Int32.toNatClampNeg x1))) 507 = true
  · rw [if_pos ho12] at hf; cases hf
  rw [if_neg ho12] at hf
  refine r_ald C Z (aM_8 g _ (f := (u.2.1 7)) rfl) ho12 rfl dX8_eye_12 (x := ((u.2.1 7) (Int32.toNatClampNeg (1 + ((u.2.1 0) (Int32.toNatClampNeg x1)))))) rfl ?_
  refine lv_aload_n hx hb dX8_eye_13 rfl (lv_at hl 0 rfl) ?_
  refine gM_0_2 C Z (fl_of C mw_819) dX8_eye_14 ?_
  refine lv_iload_n hx hb dX8_eye_17 rfl (lv_at hl 1 rfl) ?_
  refine r_ald C Z (aM_2 g _ (f := (u.2.1 1)) rfl) ho10 rfl dX8_eye_18 (x := ((u.2.1 1) (Int32.toNatClampNeg x1))) rfl ?_
  refine lv_iadd hx hb dX8_eye_19 ?_
  have hf := Option.some.inj hf
  subst hf
  exact ret_i C Z dX8_eye_20
def f_X8_sideBy (x0 x1 x2 : Int32) : Option (Int32) :=
  if x1 ≤ 0 then
    some x0
  else
    if x1 = 0 then none else
    if ((x2 / x1) - ((x2 / x1) / 2) * 2) = 1 then
      some (1 - x0)
    else
      some x0
set_option maxHeartbeats 4000000 in
set_option maxRecDepth 100000 in
theorem c_X8_sideBy (l : Launch) {g : Gx} {u : St} {x0 x1 x2 : Int32} {res : Int32} (hf : f_X8_sideBy x0 x1 x2 = some res) : CI wM 22 l yX8_sideBy (wsY yX8_sideBy cX8_sideBy 3 (some .int)) (rmX 0 0) g [.int x0, .int x1, .int x2] u res u := by
  refine CI_start (by decide +kernel) rfl (Nat.le_of_ble_eq_true rfl) (fun {p e s m args below meth c ls} C Z hl => ?_)
  have hl : lv_has ls 3 [(0, .int x0), (1, .int x1), (2, .int x2)] := hl
  have hx := C.1
  have hb := C.2.1
  unfold f_X8_sideBy at hf
  refine lv_iload_n hx hb dX8_sideBy_0 rfl (lv_at hl 1 rfl) ?_
  refine lv_if_le (tgt := 19) hx hb dX8_sideBy_1 (by decide) (fun hc1 => ?_) (fun hc1 => ?_)
  · rw [if_pos hc1] at hf
    refine lv_iload_n hx hb dX8_sideBy_19 rfl (lv_at hl 0 rfl) ?_
    have hf := Option.some.inj hf
    subst hf
    exact ret_i C Z dX8_sideBy_20
  · rw [if_neg hc1] at hf
    refine lv_iload_n hx hb dX8_sideBy_4 rfl (lv_at hl 2 rfl) ?_
    refine lv_iload_n hx hb dX8_sideBy_5 rfl (lv_at hl 1 rfl) ?_
    by_cases hz6 : x1 = 0
    · rw [if_pos hz6] at hf; cases hf
    rw [if_neg hz6] at hf
    refine lv_idiv hx hb dX8_sideBy_6 hz6 ?_
    refine lv_iconst (v := 2) hx hb dX8_sideBy_7 (by decide +kernel) ?_
    refine lv_irem hx hb dX8_sideBy_8 (by decide) ?_
    refine lv_iconst (v := 1) hx hb dX8_sideBy_9 (by decide +kernel) ?_
    refine lv_icmp_ne (tgt := 19) hx hb dX8_sideBy_10 (by decide) (fun hc10 => ?_) (fun hc10 => ?_)
    · rw [if_neg hc10] at hf
      refine lv_iload_n hx hb dX8_sideBy_19 rfl (lv_at hl 0 rfl) ?_
      have hf := Option.some.inj hf
      subst hf
      exact ret_i C Z dX8_sideBy_20
    · rw [if_pos hc10] at hf
      refine lv_iconst (v := 1) hx hb dX8_sideBy_13 (by decide +kernel) ?_
      refine lv_iload_n hx hb dX8_sideBy_14 rfl (lv_at hl 0 rfl) ?_
      refine lv_isub hx hb dX8_sideBy_15 ?_
      refine lv_goto (tgt := 20) hx hb dX8_sideBy_16 (by decide) ?_
      have hf := Option.some.inj hf
      subst hf
      exact ret_i C Z dX8_sideBy_20
def f_X8_has (x0 x1 : Int32) : Option (Int32) :=
  if ((x0 >>> (x1 &&& 31)) &&& 1) = 1 then
    some 1
  else
    some 0
set_option maxHeartbeats 4000000 in
set_option maxRecDepth 100000 in
theorem c_X8_has (l : Launch) {g : Gx} {u : St} {x0 x1 : Int32} {res : Int32} (hf : f_X8_has x0 x1 = some res) : CI wM 22 l yX8_has (wsY yX8_has cX8_has 2 (some .boolean)) (rmX 0 0) g [.int x0, .int x1] u res u := by
  refine CI_start (by decide +kernel) rfl (Nat.le_of_ble_eq_true rfl) (fun {p e s m args below meth c ls} C Z hl => ?_)
  have hl : lv_has ls 2 [(0, .int x0), (1, .int x1)] := hl
  have hx := C.1
  have hb := C.2.1
  unfold f_X8_has at hf
  refine lv_iload_n hx hb dX8_has_0 rfl (lv_at hl 0 rfl) ?_
  refine lv_iload_n hx hb dX8_has_1 rfl (lv_at hl 1 rfl) ?_
  refine lv_ishr hx hb dX8_has_2 ?_
  refine lv_iconst (v := 1) hx hb dX8_has_3 (by decide +kernel) ?_
  refine lv_iand hx hb dX8_has_4 ?_
  refine lv_iconst (v := 1) hx hb dX8_has_5 (by decide +kernel) ?_
  refine lv_icmp_ne (tgt := 13) hx hb dX8_has_6 (by decide) (fun hc6 => ?_) (fun hc6 => ?_)
  · rw [if_neg hc6] at hf
    refine lv_iconst (v := 0) hx hb dX8_has_13 (by decide +kernel) ?_
    have hf := Option.some.inj hf
    subst hf
    exact ret_z C Z rfl dX8_has_14
  · rw [if_pos hc6] at hf
    refine lv_iconst (v := 1) hx hb dX8_has_9 (by decide +kernel) ?_
    refine lv_goto (tgt := 14) hx hb dX8_has_10 (by decide) ?_
    have hf := Option.some.inj hf
    subst hf
    exact ret_z C Z rfl dX8_has_14
def f_X8_isAsked (u : St) (x1 : Int32) : Option (Int32) :=
  Option.bind (f_X8_has ((u.2.1 7) 45) x1) fun r8 =>
  if nb r8 then some r8 else none
set_option maxHeartbeats 4000000 in
set_option maxRecDepth 100000 in
theorem c_X8_isAsked (l : Launch) {g : Gx} {u : St} {x1 : Int32} {res : Int32} (hf : f_X8_isAsked u x1 = some res) : CI wM 22 l yX8_isAsked (wsY yX8_isAsked cX8_isAsked 2 (some .boolean)) (rmX 1 21) g [.ref (g.2.2 0), .int x1] u res u := by
  refine CI_start (by decide +kernel) rfl (Nat.le_of_ble_eq_true rfl) (fun {p e s m args below meth c ls} C Z hl => ?_)
  have hl : lv_has ls 2 [(0, .ref (g.2.2 0)), (1, .int x1)] := hl
  have hx := C.1
  have hb := C.2.1
  unfold f_X8_isAsked at hf
  refine lv_aload_n hx hb dX8_isAsked_0 rfl (lv_at hl 0 rfl) ?_
  refine gM_0_10 C Z (fl_of C mw_827) dX8_isAsked_1 ?_
  refine lv_bipush (v := 45) hx hb dX8_isAsked_4 (by decide +kernel) ?_
  refine r_ald C Z (aM_8 g _ (f := (u.2.1 7)) rfl) (by decide) (k := 45) (by decide) dX8_isAsked_6 (x := ((u.2.1 7) 45)) rfl ?_
  refine lv_iload_n hx hb dX8_isAsked_7 rfl (lv_at hl 1 rfl) ?_
  obtain ⟨r8, hr8, hf⟩ := Option.bind_eq_some_iff.mp hf
  refine call_si (As := [.int ((u.2.1 7) 45), .int x1]) (rest := []) C Z (c_X8_has l hr8) mf_X8_has (ml_of C mw_1021) rfl ⟨rfl, rfl, by decide, by decide⟩ rfl hl.1 (Nat.le_of_ble_eq_true rfl) dX8_isAsked_8 (fun H locs Z => ?_)
  by_cases hn11 : nb r8 = true
  · rw [if_pos hn11] at hf
    have hf := Option.some.inj hf
    subst hf
    exact ret_z C Z hn11 dX8_isAsked_11
  · rw [if_neg hn11] at hf
    cases hf
def f_X8_sawOf (u : St) (x1 x2 : Int32) : Option (Int32) :=
  if oob ((25 + (4 * x1)) + x2) 507 then none else
  some ((u.2.1 7) (Int32.toNatClampNeg ((25 + (4 * x1)) + x2)))
set_option maxHeartbeats 4000000 in
set_option maxRecDepth 100000 in
theorem c_X8_sawOf (l : Launch) {g : Gx} {u : St} {x1 x2 : Int32} {res : Int32} (hf : f_X8_sawOf u x1 x2 = some res) : CI wM 22 l yX8_sawOf (wsY yX8_sawOf cX8_sawOf 3 (some .int)) (rmX 0 0) g [.ref (g.2.2 0), .int x1, .int x2] u res u := by
  refine CI_start (by decide +kernel) rfl (Nat.le_of_ble_eq_true rfl) (fun {p e s m args below meth c ls} C Z hl => ?_)
  have hl : lv_has ls 3 [(0, .ref (g.2.2 0)), (1, .int x1), (2, .int x2)] := hl
  have hx := C.1
  have hb := C.2.1
  unfold f_X8_sawOf at hf
  refine lv_aload_n hx hb dX8_sawOf_0 rfl (lv_at hl 0 rfl) ?_
  refine gM_0_10 C Z (fl_of C mw_827) dX8_sawOf_1 ?_
  refine lv_bipush (v := 25) hx hb dX8_sawOf_4 (by decide +kernel) ?_
  refine lv_iconst (v := 4) hx hb dX8_sawOf_6 (by decide +kernel) ?_
  refine lv_iload_n hx hb dX8_sawOf_7 rfl (lv_at hl 1 rfl) ?_
  refine lv_imul hx hb dX8_sawOf_8 ?_
  refine lv_iadd hx hb dX8_sawOf_9 ?_
  refine lv_iload_n hx hb dX8_sawOf_10 rfl (lv_at hl 2 rfl) ?_
  refine lv_iadd hx hb dX8_sawOf_11 ?_
  by_cases ho12 : oob ((25 + (4 * x1)) + x2) 507 = true
  · rw [if_pos ho12] at hf; cases hf
  rw [if_neg ho12] at hf
  refine r_ald C Z (aM_8 g _ (f := (u.2.1 7)) rfl) ho12 rfl dX8_sawOf_12 (x := ((u.2.1 7) (Int32.toNatClampNeg ((25 + (4 * x1)) + x2)))) rfl ?_
  have hf := Option.some.inj hf
  subst hf
  exact ret_i C Z dX8_sawOf_13
def L_X8_bits_4 (k : Int32 → Int32 → Option (Int32)) (x0 : Int32) : Nat → Int32 → Int32 → Option (Int32)
  | 0, _, _ => none
  | n + 1, x1, x2 =>
    if 30 ≤ x2 then
      k x1 x2
    else
      L_X8_bits_4 k x0 n (x1 + ((x0 >>> (x2 &&& 31)) &&& 1)) (x2 + 1)
set_option maxHeartbeats 4000000 in
set_option maxRecDepth 100000 in
theorem b_X8_bits_4 {p : Program} {l : Launch} {e : Env} {s : State} {m : MethodId} {args : Array Value} {below : List Frame} {meth : Method} {c : Code} {g : Gx} {u : St} {x0 : Int32} {res : Int32} {k : Int32 → Int32 → Option (Int32)} (C : Cx p s m meth c args cX8_bits RX8 3 (some .int) 22 g)
    (hk : ∀ (x1 x2 : Int32) (H : Heap) (locs : List Loc) (ls : Array Slot), Zx wM g (Aw 22 g s.heap.size) s H locs u → lv_has ls 3 [(1, .int x1)] → k x1 x2 = some res → W p l e (rmX 0 0) s m args below meth c H locs 0 0 (QI wM 22 g res u below args s) (F0 m 24 ls [])) :
    ∀ (n : Nat) (x1 x2 : Int32) (H : Heap) (locs : List Loc) (ls : Array Slot), Zx wM g (Aw 22 g s.heap.size) s H locs u → lv_has ls 3 [(0, .int x0), (1, .int x1), (2, .int x2)] → L_X8_bits_4 k x0 n x1 x2 = some res → W p l e (rmX 0 0) s m args below meth c H locs 0 0 (QI wM 22 g res u below args s) (F0 m 4 ls []) := by
  have hx := C.1
  have hb := C.2.1
  intro n
  induction n with
  | zero =>
    intro x1 x2 H locs ls Z hl hf
    rw [L_X8_bits_4.eq_1] at hf
    cases hf
  | succ n ih =>
    intro x1 x2 H locs ls Z hl hf
    rw [L_X8_bits_4.eq_2] at hf
    refine lv_iload_n hx hb dX8_bits_4 rfl (lv_at hl 2 rfl) ?_
    refine lv_bipush (v := 30) hx hb dX8_bits_5 (by decide +kernel) ?_
    refine lv_icmp_ge (tgt := 24) hx hb dX8_bits_7 (by decide) (fun hc7 => ?_) (fun hc7 => ?_)
    · rw [if_pos hc7] at hf
      exact hk _ _ H locs ls Z (lv_sub hl [1] rfl) hf
    · rw [if_neg hc7] at hf
      refine lv_iload_n hx hb dX8_bits_10 rfl (lv_at hl 1 rfl) ?_
      refine lv_iload_n hx hb dX8_bits_11 rfl (lv_at hl 0 rfl) ?_
      refine lv_iload_n hx hb dX8_bits_12 rfl (lv_at hl 2 rfl) ?_
      refine lv_ishr hx hb dX8_bits_13 ?_
      refine lv_iconst (v := 1) hx hb dX8_bits_14 (by decide +kernel) ?_
      refine lv_iand hx hb dX8_bits_15 ?_
      refine lv_iadd hx hb dX8_bits_16 ?_
      refine lv_istore_n (lv' := [(1, .int (x1 + ((x0 >>> (x2 &&& 31)) &&& 1))), (0, .int x0), (2, .int x2)]) hx hb dX8_bits_17 rfl hl (by decide) rfl (fun ls hl => ?_)
      refine lv_iinc (v := (x2 + 1)) (lv' := [(2, .int (x2 + 1)), (1, .int (x1 + ((x0 >>> (x2 &&& 31)) &&& 1))), (0, .int x0)]) hx hb dX8_bits_18 hl (k := 2) rfl rfl (by decide) rfl (fun ls hl => ?_)
      refine lv_goto (tgt := 4) hx hb dX8_bits_21 (by decide) ?_
      exact ih _ _ _ _ _ Z (lv_sub hl [2, 1, 0] rfl) hf
def f_X8_bits (x0 : Int32) : Option (Int32) :=
  L_X8_bits_4 (fun x1 x2 =>
    some x1) x0 FU 0 0
set_option maxHeartbeats 4000000 in
set_option maxRecDepth 100000 in
theorem c_X8_bits (l : Launch) {g : Gx} {u : St} {x0 : Int32} {res : Int32} (hf : f_X8_bits x0 = some res) : CI wM 22 l yX8_bits (wsY yX8_bits cX8_bits 3 (some .int)) (rmX 0 0) g [.int x0] u res u := by
  refine CI_start (by decide +kernel) rfl (Nat.le_of_ble_eq_true rfl) (fun {p e s m args below meth c ls} C Z hl => ?_)
  have hl : lv_has ls 3 [(0, .int x0)] := hl
  have hx := C.1
  have hb := C.2.1
  unfold f_X8_bits at hf
  refine lv_iconst (v := 0) hx hb dX8_bits_0 (by decide +kernel) ?_
  refine lv_istore_n (lv' := [(1, .int 0), (0, .int x0)]) hx hb dX8_bits_1 rfl hl (by decide) rfl (fun ls hl => ?_)
  refine lv_iconst (v := 0) hx hb dX8_bits_2 (by decide +kernel) ?_
  refine lv_istore_n (lv' := [(2, .int 0), (1, .int 0), (0, .int x0)]) hx hb dX8_bits_3 rfl hl (by decide) rfl (fun ls hl => ?_)
  refine b_X8_bits_4 C (fun x1 x2 H locs ls Z hl hf => ?_) FU _ _ _ _ _ Z (lv_sub hl [2, 1, 0] rfl) hf
  refine lv_iload_n hx hb dX8_bits_24 rfl (lv_at hl 0 rfl) ?_
  have hf := Option.some.inj hf
  subst hf
  exact ret_i C Z dX8_bits_25
def L_X8_sawBy_18 (k : Int32 → Int32 → Option (Int32)) (u : St) (x1 x3 : Int32) : Nat → Int32 → Int32 → Option (Int32)
  | 0, _, _ => none
  | n + 1, x4, x5 =>
    if (u.1 0) ≤ x5 then
      k x4 x5
    else
      Option.bind (f_X8_has x1 x5) fun r32 =>
      if r32 = 0 then
        L_X8_sawBy_18 k u x1 x3 n (x4 ||| 0) (x5 + 1)
      else
        Option.bind (f_X8_sawOf u x5 x3) fun r42 =>
        L_X8_sawBy_18 k u x1 x3 n (x4 ||| r42) (x5 + 1)
set_option maxHeartbeats 4000000 in
set_option maxRecDepth 100000 in
theorem b_X8_sawBy_18 {p : Program} {l : Launch} {e : Env} {s : State} {m : MethodId} {args : Array Value} {below : List Frame} {meth : Method} {c : Code} {g : Gx} {u : St} {x1 x2 x3 : Int32} {res : Int32} {k : Int32 → Int32 → Option (Int32)} (C : Cx p s m meth c args cX8_sawBy RX8 6 (some .int) 22 g)
    (hk : ∀ (x4 x5 : Int32) (H : Heap) (locs : List Loc) (ls : Array Slot), Zx wM g (Aw 22 g s.heap.size) s H locs u → lv_has ls 6 [(0, .ref (g.2.2 0)), (1, .int x1), (2, .int x2), (3, .int x3), (4, .int x4)] → k x4 x5 = some res → W p l e (rmX 1 22) s m args below meth c H locs 0 0 (QI wM 22 g res u below args s) (F0 m 58 ls [])) :
    ∀ (n : Nat) (x4 x5 : Int32) (H : Heap) (locs : List Loc) (ls : Array Slot), Zx wM g (Aw 22 g s.heap.size) s H locs u → lv_has ls 6 [(0, .ref (g.2.2 0)), (1, .int x1), (2, .int x2), (3, .int x3), (4, .int x4), (5, .int x5)] → L_X8_sawBy_18 k u x1 x3 n x4 x5 = some res → W p l e (rmX 1 22) s m args below meth c H locs 0 0 (QI wM 22 g res u below args s) (F0 m 18 ls []) := by
  have hx := C.1
  have hb := C.2.1
  intro n
  induction n with
  | zero =>
    intro x4 x5 H locs ls Z hl hf
    rw [L_X8_sawBy_18.eq_1] at hf
    cases hf
  | succ n ih =>
    intro x4 x5 H locs ls Z hl hf
    rw [L_X8_sawBy_18.eq_2] at hf
    refine lv_iload hx hb dX8_sawBy_18 (lv_at hl 5 rfl) ?_
    refine lv_aload_n hx hb dX8_sawBy_20 rfl (lv_at hl 0 rfl) ?_
    refine gM_0_0 C Z (fl_of C mw_817) dX8_sawBy_21 (x := (u.1 0)) rfl ?_
    refine lv_icmp_ge (tgt := 58) hx hb dX8_sawBy_24 (by decide) (fun hc24 => ?_) (fun hc24 => ?_)
    · rw [if_pos hc24] at hf
      exact hk _ _ H locs ls Z (lv_sub hl [0, 1, 2, 3, 4] rfl) hf
    · rw [if_neg hc24] at hf
      refine lv_iload hx hb dX8_sawBy_27 (lv_at hl 4 rfl) ?_
      refine lv_iload_n hx hb dX8_sawBy_29 rfl (lv_at hl 1 rfl) ?_
      refine lv_iload hx hb dX8_sawBy_30 (lv_at hl 5 rfl) ?_
      obtain ⟨r32, hr32, hf⟩ := Option.bind_eq_some_iff.mp hf
      refine call_si (As := [.int x1, .int x5]) (rest := [.int x4]) C Z (c_X8_has l hr32) mf_X8_has (ml_of C mw_1021) rfl ⟨rfl, rfl, by decide, by decide⟩ rfl hl.1 (Nat.le_of_ble_eq_true rfl) dX8_sawBy_32 (fun H locs Z => ?_)
      refine lv_if_eq (tgt := 48) hx hb dX8_sawBy_35 (by decide) (fun hc35 => ?_) (fun hc35 => ?_)
      · rw [if_pos hc35] at hf
        refine lv_iconst (v := 0) hx hb dX8_sawBy_48 (by decide +kernel) ?_
        refine lv_ior hx hb dX8_sawBy_49 ?_
        refine lv_istore (lv' := [(4, .int (x4 ||| 0)), (0, .ref (g.2.2 0)), (1, .int x1), (2, .int x2), (3, .int x3), (5, .int x5)]) hx hb dX8_sawBy_50 hl (by decide) rfl (fun ls hl => ?_)
        refine lv_iinc (v := (x5 + 1)) (lv' := [(5, .int (x5 + 1)), (4, .int (x4 ||| 0)), (0, .ref (g.2.2 0)), (1, .int x1), (2, .int x2), (3, .int x3)]) hx hb dX8_sawBy_52 hl (k := 5) rfl rfl (by decide) rfl (fun ls hl => ?_)
        refine lv_goto (tgt := 18) hx hb dX8_sawBy_55 (by decide) ?_
        exact ih _ _ _ _ _ Z (lv_sub hl [2, 3, 4, 5, 1, 0] rfl) hf
      · rw [if_neg hc35] at hf
        refine lv_aload_n hx hb dX8_sawBy_38 rfl (lv_at hl 0 rfl) ?_
        refine lv_iload hx hb dX8_sawBy_39 (lv_at hl 5 rfl) ?_
        refine lv_iload_n hx hb dX8_sawBy_41 rfl (lv_at hl 3 rfl) ?_
        obtain ⟨r42, hr42, hf⟩ := Option.bind_eq_some_iff.mp hf
        refine call_vi (As := [.int x5, .int x3]) (rest := [.int x4]) C Z (c_X8_sawOf l hr42) mf_X8_sawOf (ml_of C mw_1028) rfl (oM_0 g _) rfl ⟨rfl, rfl, by decide, by decide⟩ rfl hl.1 (Nat.le_of_ble_eq_true rfl) dX8_sawBy_42 (fun H locs Z => ?_)
        refine lv_goto (tgt := 49) hx hb dX8_sawBy_45 (by decide) ?_
        refine lv_ior hx hb dX8_sawBy_49 ?_
        refine lv_istore (lv' := [(4, .int (x4 ||| r42)), (0, .ref (g.2.2 0)), (1, .int x1), (2, .int x2), (3, .int x3), (5, .int x5)]) hx hb dX8_sawBy_50 hl (by decide) rfl (fun ls hl => ?_)
        refine lv_iinc (v := (x5 + 1)) (lv' := [(5, .int (x5 + 1)), (4, .int (x4 ||| r42)), (0, .ref (g.2.2 0)), (1, .int x1), (2, .int x2), (3, .int x3)]) hx hb dX8_sawBy_52 hl (k := 5) rfl rfl (by decide) rfl (fun ls hl => ?_)
        refine lv_goto (tgt := 18) hx hb dX8_sawBy_55 (by decide) ?_
        exact ih _ _ _ _ _ Z (lv_sub hl [2, 3, 4, 5, 1, 0] rfl) hf
def L_X8_sawBy_4 (k : Int32 → Int32 → Option (Int32)) (u : St) (x1 : Int32) : Nat → Int32 → Int32 → Option (Int32)
  | 0, _, _ => none
  | n + 1, x2, x3 =>
    if (u.1 1) ≤ x3 then
      k x2 x3
    else
      L_X8_sawBy_18 (fun x4 x5 =>
        Option.bind (f_X8_bits x4) fun r61 =>
        L_X8_sawBy_4 k u x1 n (x2 + r61) (x3 + 1)) u x1 x3 FU 0 0
set_option maxHeartbeats 4000000 in
set_option maxRecDepth 100000 in
theorem b_X8_sawBy_4 {p : Program} {l : Launch} {e : Env} {s : State} {m : MethodId} {args : Array Value} {below : List Frame} {meth : Method} {c : Code} {g : Gx} {u : St} {x1 : Int32} {res : Int32} {k : Int32 → Int32 → Option (Int32)} (C : Cx p s m meth c args cX8_sawBy RX8 6 (some .int) 22 g)
    (hk : ∀ (x2 x3 : Int32) (H : Heap) (locs : List Loc) (ls : Array Slot), Zx wM g (Aw 22 g s.heap.size) s H locs u → lv_has ls 6 [(2, .int x2)] → k x2 x3 = some res → W p l e (rmX 1 22) s m args below meth c H locs 0 0 (QI wM 22 g res u below args s) (F0 m 72 ls [])) :
    ∀ (n : Nat) (x2 x3 : Int32) (H : Heap) (locs : List Loc) (ls : Array Slot), Zx wM g (Aw 22 g s.heap.size) s H locs u → lv_has ls 6 [(0, .ref (g.2.2 0)), (1, .int x1), (2, .int x2), (3, .int x3)] → L_X8_sawBy_4 k u x1 n x2 x3 = some res → W p l e (rmX 1 22) s m args below meth c H locs 0 0 (QI wM 22 g res u below args s) (F0 m 4 ls []) := by
  have hx := C.1
  have hb := C.2.1
  intro n
  induction n with
  | zero =>
    intro x2 x3 H locs ls Z hl hf
    rw [L_X8_sawBy_4.eq_1] at hf
    cases hf
  | succ n ih =>
    intro x2 x3 H locs ls Z hl hf
    rw [L_X8_sawBy_4.eq_2] at hf
    refine lv_iload_n hx hb dX8_sawBy_4 rfl (lv_at hl 3 rfl) ?_
    refine lv_aload_n hx hb dX8_sawBy_5 rfl (lv_at hl 0 rfl) ?_
    refine gM_0_5 C Z (fl_of C mw_822) dX8_sawBy_6 (x := (u.1 1)) rfl ?_
    refine lv_icmp_ge (tgt := 72) hx hb dX8_sawBy_9 (by decide) (fun hc9 => ?_) (fun hc9 => ?_)
    · rw [if_pos hc9] at hf
      exact hk _ _ H locs ls Z (lv_sub hl [2] rfl) hf
    · rw [if_neg hc9] at hf
      refine lv_iconst (v := 0) hx hb dX8_sawBy_12 (by decide +kernel) ?_
      refine lv_istore (lv' := [(4, .int 0), (0, .ref (g.2.2 0)), (1, .int x1), (2, .int x2), (3, .int x3)]) hx hb dX8_sawBy_13 hl (by decide) rfl (fun ls hl => ?_)
      refine lv_iconst (v := 0) hx hb dX8_sawBy_15 (by decide +kernel) ?_
      refine lv_istore (lv' := [(5, .int 0), (4, .int 0), (0, .ref (g.2.2 0)), (1, .int x1), (2, .int x2), (3, .int x3)]) hx hb dX8_sawBy_16 hl (by decide) rfl (fun ls hl => ?_)
      refine b_X8_sawBy_18 C (fun x4 x5 H locs ls Z hl hf => ?_) FU _ _ _ _ _ Z (lv_sub hl [2, 3, 4, 5, 1, 0] rfl) hf
      refine lv_iload_n hx hb dX8_sawBy_58 rfl (lv_at hl 2 rfl) ?_
      refine lv_iload hx hb dX8_sawBy_59 (lv_at hl 4 rfl) ?_
      obtain ⟨r61, hr61, hf⟩ := Option.bind_eq_some_iff.mp hf
      refine call_si (As := [.int x4]) (rest := [.int x2]) C Z (c_X8_bits l hr61) mf_X8_bits (ml_of C mw_1032) rfl ⟨rfl, rfl, by decide, by decide⟩ rfl hl.1 (Nat.le_of_ble_eq_true rfl) dX8_sawBy_61 (fun H locs Z => ?_)
      refine lv_iadd hx hb dX8_sawBy_64 ?_
      refine lv_istore_n (lv' := [(2, .int (x2 + r61)), (0, .ref (g.2.2 0)), (1, .int x1), (3, .int x3), (4, .int x4)]) hx hb dX8_sawBy_65 rfl hl (by decide) rfl (fun ls hl => ?_)
      refine lv_iinc (v := (x3 + 1)) (lv' := [(3, .int (x3 + 1)), (2, .int (x2 + r61)), (0, .ref (g.2.2 0)), (1, .int x1), (4, .int x4)]) hx hb dX8_sawBy_66 hl (k := 3) rfl rfl (by decide) rfl (fun ls hl => ?_)
      refine lv_goto (tgt := 4) hx hb dX8_sawBy_69 (by decide) ?_
      exact ih _ _ _ _ _ Z (lv_sub hl [2, 3, 1, 0] rfl) hf
def f_X8_sawBy (u : St) (x1 : Int32) : Option (Int32) :=
  L_X8_sawBy_4 (fun x2 x3 =>
    some x2) u x1 FU 0 0
set_option maxHeartbeats 4000000 in
set_option maxRecDepth 100000 in
theorem c_X8_sawBy (l : Launch) {g : Gx} {u : St} {x1 : Int32} {res : Int32} (hf : f_X8_sawBy u x1 = some res) : CI wM 22 l yX8_sawBy (wsY yX8_sawBy cX8_sawBy 6 (some .int)) (rmX 1 22) g [.ref (g.2.2 0), .int x1] u res u := by
  refine CI_start (by decide +kernel) rfl (Nat.le_of_ble_eq_true rfl) (fun {p e s m args below meth c ls} C Z hl => ?_)
  have hl : lv_has ls 6 [(0, .ref (g.2.2 0)), (1, .int x1)] := hl
  have hx := C.1
  have hb := C.2.1
  unfold f_X8_sawBy at hf
  refine lv_iconst (v := 0) hx hb dX8_sawBy_0 (by decide +kernel) ?_
  refine lv_istore_n (lv' := [(2, .int 0), (0, .ref (g.2.2 0)), (1, .int x1)]) hx hb dX8_sawBy_1 rfl hl (by decide) rfl (fun ls hl => ?_)
  refine lv_iconst (v := 0) hx hb dX8_sawBy_2 (by decide +kernel) ?_
  refine lv_istore_n (lv' := [(3, .int 0), (2, .int 0), (0, .ref (g.2.2 0)), (1, .int x1)]) hx hb dX8_sawBy_3 rfl hl (by decide) rfl (fun ls hl => ?_)
  refine b_X8_sawBy_4 C (fun x2 x3 H locs ls Z hl hf => ?_) FU _ _ _ _ _ Z (lv_sub hl [2, 3, 1, 0] rfl) hf
  refine lv_iload_n hx hb dX8_sawBy_72 rfl (lv_at hl 0 rfl) ?_
  have hf := Option.some.inj hf
  subst hf
  exact ret_i C Z dX8_sawBy_73
def f_X8_cock (u : St) (x1 x2 : Int32) : Option (Int32) :=
  Option.bind (f_X8_isCock u x1) fun r2 =>
  if r2 = 0 then
    some (-1)
  else
    if x2 = 0 then
      if oob x1 5 then none else
      some ((u.2.1 0) (Int32.toNatClampNeg x1))
    else
    if x2 = 1 then
      if oob x1 5 then none else
      some ((u.2.1 1) (Int32.toNatClampNeg x1))
    else
    if x2 = 2 then
      if oob x1 5 then none else
      some ((u.2.1 2) (Int32.toNatClampNeg x1))
    else
    if x2 = 3 then
      if oob x1 5 then none else
      some ((u.2.1 3) (Int32.toNatClampNeg x1))
    else
    if x2 = 4 then
      Option.bind (f_X8_eye u x1) fun r86 =>
      some r86
    else
    if x2 = 5 then
      if oob x1 5 then none else
      Option.bind (f_X8_sideBy ((u.2.1 2) (Int32.toNatClampNeg x1)) ((u.2.1 3) (Int32.toNatClampNeg x1)) ((u.2.1 7) 0)) fun r108 =>
      some r108
    else
    if x2 = 6 then
      Option.bind (f_X8_isAsked u x1) fun r114 =>
      if r114 = 0 then
        some 0
      else
        some 1
    else
    if x2 = 7 then
      Option.bind (f_X8_sawBy u (1 <<< (x1 &&& 31))) fun r130 =>
      some r130
    else
    some (-1)
set_option maxHeartbeats 4000000 in
set_option maxRecDepth 100000 in
theorem c_X8_cock (l : Launch) {g : Gx} {u : St} {x1 x2 : Int32} {res : Int32} (hf : f_X8_cock u x1 x2 = some res) : CI wM 22 l yX8_cock (wsY yX8_cock cX8_cock 3 (some .int)) (rmX 2 47) g [.ref (g.2.2 0), .int x1, .int x2] u res u := by
  refine CI_start (by decide +kernel) rfl (Nat.le_of_ble_eq_true rfl) (fun {p e s m args below meth c ls} C Z hl => ?_)
  have hl : lv_has ls 3 [(0, .ref (g.2.2 0)), (1, .int x1), (2, .int x2)] := hl
  have hx := C.1
  have hb := C.2.1
  unfold f_X8_cock at hf
  refine lv_aload_n hx hb dX8_cock_0 rfl (lv_at hl 0 rfl) ?_
  refine lv_iload_n hx hb dX8_cock_1 rfl (lv_at hl 1 rfl) ?_
  obtain ⟨r2, hr2, hf⟩ := Option.bind_eq_some_iff.mp hf
  refine call_vi (As := [.int x1]) (rest := []) C Z (c_X8_isCock l hr2) mf_X8_isCock (ml_of C mw_1006) rfl (oM_0 g _) rfl ⟨rfl, rfl, by decide, by decide⟩ rfl hl.1 (Nat.le_of_ble_eq_true rfl) dX8_cock_2 (fun H locs Z => ?_)
  refine lv_if_ne (tgt := 10) hx hb dX8_cock_5 (by decide) (fun hc5 => ?_) (fun hc5 => ?_)
  · rw [if_neg hc5] at hf
    refine lv_iload_n hx hb dX8_cock_10 rfl (lv_at hl 2 rfl) ?_
    by_cases hs11_0 : x2 = 0
    · rw [if_pos hs11_0] at hf
      refine lv_tableIn (tgt := 56) hx hb dX8_cock_11 (by rw [hs11_0]; decide) (by rw [hs11_0]; decide) (by rw [hs11_0]; first | done | rfl) (by decide) ?_
      refine lv_aload_n hx hb dX8_cock_56 rfl (lv_at hl 0 rfl) ?_
      refine gM_0_1 C Z (fl_of C mw_818) dX8_cock_57 ?_
      refine lv_iload_n hx hb dX8_cock_60 rfl (lv_at hl 1 rfl) ?_
      by_cases ho61 : oob x1 5 = true
      · rw [if_pos ho61] at hf; cases hf
      rw [if_neg ho61] at hf
      refine r_ald C Z (aM_1 g _ (f := (u.2.1 0)) rfl) ho61 rfl dX8_cock_61 (x := ((u.2.1 0) (Int32.toNatClampNeg x1))) rfl ?_
      have hf := Option.some.inj hf
      subst hf
      exact ret_i C Z dX8_cock_62
    rw [if_neg hs11_0] at hf
    by_cases hs11_1 : x2 = 1
    · rw [if_pos hs11_1] at hf
      refine lv_tableIn (tgt := 63) hx hb dX8_cock_11 (by rw [hs11_1]; decide) (by rw [hs11_1]; decide) (by rw [hs11_1]; first | done | rfl) (by decide) ?_
      refine lv_aload_n hx hb dX8_cock_63 rfl (lv_at hl 0 rfl) ?_
      refine gM_0_2 C Z (fl_of C mw_819) dX8_cock_64 ?_
      refine lv_iload_n hx hb dX8_cock_67 rfl (lv_at hl 1 rfl) ?_
      by_cases ho68 : oob x1 5 = true
      · rw [if_pos ho68] at hf; cases hf
      rw [if_neg ho68] at hf
      refine r_ald C Z (aM_2 g _ (f := (u.2.1 1)) rfl) ho68 rfl dX8_cock_68 (x := ((u.2.1 1) (Int32.toNatClampNeg x1))) rfl ?_
      have hf := Option.some.inj hf
      subst hf
      exact ret_i C Z dX8_cock_69
    rw [if_neg hs11_1] at hf
    by_cases hs11_2 : x2 = 2
    · rw [if_pos hs11_2] at hf
      refine lv_tableIn (tgt := 70) hx hb dX8_cock_11 (by rw [hs11_2]; decide) (by rw [hs11_2]; decide) (by rw [hs11_2]; first | done | rfl) (by decide) ?_
      refine lv_aload_n hx hb dX8_cock_70 rfl (lv_at hl 0 rfl) ?_
      refine gM_0_3 C Z (fl_of C mw_820) dX8_cock_71 ?_
      refine lv_iload_n hx hb dX8_cock_74 rfl (lv_at hl 1 rfl) ?_
      by_cases ho75 : oob x1 5 = true
      · rw [if_pos ho75] at hf; cases hf
      rw [if_neg ho75] at hf
      refine r_ald C Z (aM_3 g _ (f := (u.2.1 2)) rfl) ho75 rfl dX8_cock_75 (x := ((u.2.1 2) (Int32.toNatClampNeg x1))) rfl ?_
      have hf := Option.some.inj hf
      subst hf
      exact ret_i C Z dX8_cock_76
    rw [if_neg hs11_2] at hf
    by_cases hs11_3 : x2 = 3
    · rw [if_pos hs11_3] at hf
      refine lv_tableIn (tgt := 77) hx hb dX8_cock_11 (by rw [hs11_3]; decide) (by rw [hs11_3]; decide) (by rw [hs11_3]; first | done | rfl) (by decide) ?_
      refine lv_aload_n hx hb dX8_cock_77 rfl (lv_at hl 0 rfl) ?_
      refine gM_0_4 C Z (fl_of C mw_821) dX8_cock_78 ?_
      refine lv_iload_n hx hb dX8_cock_81 rfl (lv_at hl 1 rfl) ?_
      by_cases ho82 : oob x1 5 = true
      · rw [if_pos ho82] at hf; cases hf
      rw [if_neg ho82] at hf
      refine r_ald C Z (aM_4 g _ (f := (u.2.1 3)) rfl) ho82 rfl dX8_cock_82 (x := ((u.2.1 3) (Int32.toNatClampNeg x1))) rfl ?_
      have hf := Option.some.inj hf
      subst hf
      exact ret_i C Z dX8_cock_83
    rw [if_neg hs11_3] at hf
    by_cases hs11_4 : x2 = 4
    · rw [if_pos hs11_4] at hf
      refine lv_tableIn (tgt := 84) hx hb dX8_cock_11 (by rw [hs11_4]; decide) (by rw [hs11_4]; decide) (by rw [hs11_4]; first | done | rfl) (by decide) ?_
      refine lv_aload_n hx hb dX8_cock_84 rfl (lv_at hl 0 rfl) ?_
      refine lv_iload_n hx hb dX8_cock_85 rfl (lv_at hl 1 rfl) ?_
      obtain ⟨r86, hr86, hf⟩ := Option.bind_eq_some_iff.mp hf
      refine call_vi (As := [.int x1]) (rest := []) C Z (c_X8_eye l hr86) mf_X8_eye (ml_of C mw_1010) rfl (oM_0 g _) rfl ⟨rfl, rfl, by decide, by decide⟩ rfl hl.1 (Nat.le_of_ble_eq_true rfl) dX8_cock_86 (fun H locs Z => ?_)
      have hf := Option.some.inj hf
      subst hf
      exact ret_i C Z dX8_cock_89
    rw [if_neg hs11_4] at hf
    by_cases hs11_5 : x2 = 5
    · rw [if_pos hs11_5] at hf
      refine lv_tableIn (tgt := 90) hx hb dX8_cock_11 (by rw [hs11_5]; decide) (by rw [hs11_5]; decide) (by rw [hs11_5]; first | done | rfl) (by decide) ?_
      refine lv_aload_n hx hb dX8_cock_90 rfl (lv_at hl 0 rfl) ?_
      refine gM_0_3 C Z (fl_of C mw_820) dX8_cock_91 ?_
      refine lv_iload_n hx hb dX8_cock_94 rfl (lv_at hl 1 rfl) ?_
      by_cases ho95 : oob x1 5 = true
      · rw [if_pos ho95] at hf; cases hf
      rw [if_neg ho95] at hf
      refine r_ald C Z (aM_3 g _ (f := (u.2.1 2)) rfl) ho95 rfl dX8_cock_95 (x := ((u.2.1 2) (Int32.toNatClampNeg x1))) rfl ?_
      refine lv_aload_n hx hb dX8_cock_96 rfl (lv_at hl 0 rfl) ?_
      refine gM_0_4 C Z (fl_of C mw_821) dX8_cock_97 ?_
      refine lv_iload_n hx hb dX8_cock_100 rfl (lv_at hl 1 rfl) ?_
      refine r_ald C Z (aM_4 g _ (f := (u.2.1 3)) rfl) ho95 rfl dX8_cock_101 (x := ((u.2.1 3) (Int32.toNatClampNeg x1))) rfl ?_
      refine lv_aload_n hx hb dX8_cock_102 rfl (lv_at hl 0 rfl) ?_
      refine gM_0_10 C Z (fl_of C mw_827) dX8_cock_103 ?_
      refine lv_iconst (v := 0) hx hb dX8_cock_106 (by decide +kernel) ?_
      refine r_ald C Z (aM_8 g _ (f := (u.2.1 7)) rfl) (by decide) (k := 0) (by decide) dX8_cock_107 (x := ((u.2.1 7) 0)) rfl ?_
      obtain ⟨r108, hr108, hf⟩ := Option.bind_eq_some_iff.mp hf
      refine call_si (As := [.int ((u.2.1 2) (Int32.toNatClampNeg x1)), .int ((u.2.1 3) (Int32.toNatClampNeg x1)), .int ((u.2.1 7) 0)]) (rest := []) C Z (c_X8_sideBy l hr108) mf_X8_sideBy (ml_of C mw_1014) rfl ⟨rfl, rfl, by decide, by decide⟩ rfl hl.1 (Nat.le_of_ble_eq_true rfl) dX8_cock_108 (fun H locs Z => ?_)
      have hf := Option.some.inj hf
      subst hf
      exact ret_i C Z dX8_cock_111
    rw [if_neg hs11_5] at hf
    by_cases hs11_6 : x2 = 6
    · rw [if_pos hs11_6] at hf
      refine lv_tableIn (tgt := 112) hx hb dX8_cock_11 (by rw [hs11_6]; decide) (by rw [hs11_6]; decide) (by rw [hs11_6]; first | done | rfl) (by decide) ?_
      refine lv_aload_n hx hb dX8_cock_112 rfl (lv_at hl 0 rfl) ?_
      refine lv_iload_n hx hb dX8_cock_113 rfl (lv_at hl 1 rfl) ?_
      obtain ⟨r114, hr114, hf⟩ := Option.bind_eq_some_iff.mp hf
      refine call_vi (As := [.int x1]) (rest := []) C Z (c_X8_isAsked l hr114) mf_X8_isAsked (ml_of C mw_1017) rfl (oM_0 g _) rfl ⟨rfl, rfl, by decide, by decide⟩ rfl hl.1 (Nat.le_of_ble_eq_true rfl) dX8_cock_114 (fun H locs Z => ?_)
      refine lv_if_eq (tgt := 124) hx hb dX8_cock_117 (by decide) (fun hc117 => ?_) (fun hc117 => ?_)
      · rw [if_pos hc117] at hf
        refine lv_iconst (v := 0) hx hb dX8_cock_124 (by decide +kernel) ?_
        have hf := Option.some.inj hf
        subst hf
        exact ret_i C Z dX8_cock_125
      · rw [if_neg hc117] at hf
        refine lv_iconst (v := 1) hx hb dX8_cock_120 (by decide +kernel) ?_
        refine lv_goto (tgt := 125) hx hb dX8_cock_121 (by decide) ?_
        have hf := Option.some.inj hf
        subst hf
        exact ret_i C Z dX8_cock_125
    rw [if_neg hs11_6] at hf
    by_cases hs11_7 : x2 = 7
    · rw [if_pos hs11_7] at hf
      refine lv_tableIn (tgt := 126) hx hb dX8_cock_11 (by rw [hs11_7]; decide) (by rw [hs11_7]; decide) (by rw [hs11_7]; first | done | rfl) (by decide) ?_
      refine lv_aload_n hx hb dX8_cock_126 rfl (lv_at hl 0 rfl) ?_
      refine lv_iconst (v := 1) hx hb dX8_cock_127 (by decide +kernel) ?_
      refine lv_iload_n hx hb dX8_cock_128 rfl (lv_at hl 1 rfl) ?_
      refine lv_ishl hx hb dX8_cock_129 ?_
      obtain ⟨r130, hr130, hf⟩ := Option.bind_eq_some_iff.mp hf
      refine call_vi (As := [.int (1 <<< (x1 &&& 31))]) (rest := []) C Z (c_X8_sawBy l hr130) mf_X8_sawBy (ml_of C mw_1024) rfl (oM_0 g _) rfl ⟨rfl, rfl, by decide, by decide⟩ rfl hl.1 (Nat.le_of_ble_eq_true rfl) dX8_cock_130 (fun H locs Z => ?_)
      have hf := Option.some.inj hf
      subst hf
      exact ret_i C Z dX8_cock_133
    rw [if_neg hs11_7] at hf
    have e11_0 := lv_neT (a := 0) hs11_0 (by decide)
    have e11_1 := lv_neT (a := 1) hs11_1 (by decide)
    have e11_2 := lv_neT (a := 2) hs11_2 (by decide)
    have e11_3 := lv_neT (a := 3) hs11_3 (by decide)
    have e11_4 := lv_neT (a := 4) hs11_4 (by decide)
    have e11_5 := lv_neT (a := 5) hs11_5 (by decide)
    have e11_6 := lv_neT (a := 6) hs11_6 (by decide)
    have e11_7 := lv_neT (a := 7) hs11_7 (by decide)
    refine lv_tableOut (tgt := 134) hx hb dX8_cock_11 (by omega) (by decide) ?_
    refine lv_iconst (v := (-1)) hx hb dX8_cock_134 (by decide +kernel) ?_
    have hf := Option.some.inj hf
    subst hf
    exact ret_i C Z dX8_cock_135
  · rw [if_pos hc5] at hf
    refine lv_iconst (v := (-1)) hx hb dX8_cock_8 (by decide +kernel) ?_
    have hf := Option.some.inj hf
    subst hf
    exact ret_i C Z dX8_cock_9
