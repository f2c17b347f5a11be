def f_X6_isBetter (u : St) (x1 x2 : Int32) : Option (Int32) :=
  Option.bind (f_X3_amountKnownWith u x1) fun r5 =>
  Option.bind (f_X3_amountKnownWith u x2) fun r13 =>
  if (r5 - r13) = 0 then
    Option.bind (f_J6_bitCount_0f7a4 x1) fun r33 =>
    Option.bind (f_J6_bitCount_0f7a4 x2) fun r37 =>
    if r37 ≤ r33 then
      some 0
    else
      some 1
  else
    if (r5 - r13) ≤ 0 then
      some 0
    else
      some 1
set_option maxHeartbeats 4000000 in
set_option maxRecDepth 100000 in
theorem c_X6_isBetter (l : Launch) {g : Gx} {u : St} {x1 x2 : Int32} {res : Int32} (hf : f_X6_isBetter u x1 x2 = some res) : CI wC 82 l yX6_isBetter (wsY yX6_isBetter cX6_isBetter 4 (some .boolean)) (rmX 4 89) g [.ref (g.2.2 23), .int x1, .int x2] u res u := by
  refine CI_start (by decide +kernel) rfl (Nat.le_of_ble_eq_true rfl) (fun {p e s m args below meth c ls} C Z hl => ?_)
  have hl : lv_has ls 4 [(0, .ref (g.2.2 23)), (1, .int x1), (2, .int x2)] := hl
  have hx := C.1
  have hb := C.2.1
  unfold f_X6_isBetter at hf
  refine lv_aload_n hx hb dX6_isBetter_0 rfl (lv_at hl 0 rfl) ?_
  refine gC_23_1 C Z (fl_of C mw_256) dX6_isBetter_1 ?_
  refine lv_iload_n hx hb dX6_isBetter_4 rfl (lv_at hl 1 rfl) ?_
  obtain ⟨r5, hr5, hf⟩ := Option.bind_eq_some_iff.mp hf
  refine call_vi (As := [.int x1]) (rest := []) C Z (c_X3_amountKnownWith l hr5) mf_X3_amountKnownWith (ml_nest C nw_50) rfl (oC_42 g _) rfl ⟨rfl, rfl, by decide, by decide⟩ rfl hl.1 (Nat.le_of_ble_eq_true rfl) dX6_isBetter_5 (fun H locs Z => ?_)
  refine lv_aload_n hx hb dX6_isBetter_8 rfl (lv_at hl 0 rfl) ?_
  refine gC_23_1 C Z (fl_of C mw_256) dX6_isBetter_9 ?_
  refine lv_iload_n hx hb dX6_isBetter_12 rfl (lv_at hl 2 rfl) ?_
  obtain ⟨r13, hr13, hf⟩ := Option.bind_eq_some_iff.mp hf
  refine call_vi (As := [.int x2]) (rest := [.int r5]) C Z (c_X3_amountKnownWith l hr13) mf_X3_amountKnownWith (ml_nest C nw_50) rfl (oC_42 g _) rfl ⟨rfl, rfl, by decide, by decide⟩ rfl hl.1 (Nat.le_of_ble_eq_true rfl) dX6_isBetter_13 (fun H locs Z => ?_)
  refine lv_isub hx hb dX6_isBetter_16 ?_
  refine lv_istore_n (lv' := [(3, .int (r5 - r13)), (0, .ref (g.2.2 23)), (1, .int x1), (2, .int x2)]) hx hb dX6_isBetter_17 rfl hl (by decide) rfl (fun ls hl => ?_)
  refine lv_iload_n hx hb dX6_isBetter_18 rfl (lv_at hl 0 rfl) ?_
  refine lv_if_eq (tgt := 32) hx hb dX6_isBetter_19 (by decide) (fun hc19 => ?_) (fun hc19 => ?_)
  · rw [if_pos hc19] at hf
    refine lv_iload_n hx hb dX6_isBetter_32 rfl (lv_at hl 2 rfl) ?_
    obtain ⟨r33, hr33, hf⟩ := Option.bind_eq_some_iff.mp hf
    refine call_si (As := [.int x1]) (rest := []) C Z (c_J6_bitCount_0f7a4 l hr33) mf_J6_bitCount_0f7a4 (ml_of C mw_634) rfl ⟨rfl, rfl, by decide, by decide⟩ rfl hl.1 (Nat.le_of_ble_eq_true rfl) dX6_isBetter_33 (fun H locs Z => ?_)
    refine lv_iload_n hx hb dX6_isBetter_36 rfl (lv_at hl 3 rfl) ?_
    obtain ⟨r37, hr37, hf⟩ := Option.bind_eq_some_iff.mp hf
    refine call_si (As := [.int x2]) (rest := [.int r33]) C Z (c_J6_bitCount_0f7a4 l hr37) mf_J6_bitCount_0f7a4 (ml_of C mw_634) rfl ⟨rfl, rfl, by decide, by decide⟩ rfl hl.1 (Nat.le_of_ble_eq_true rfl) dX6_isBetter_37 (fun H locs Z => ?_)
    refine lv_icmp_ge (tgt := 47) hx hb dX6_isBetter_40 (by decide) (fun hc40 => ?_) (fun hc40 => ?_)
    · rw [if_pos hc40] at hf
      refine lv_iconst (v := 0) hx hb dX6_isBetter_47 (by decide +kernel) ?_
      have hf := Option.some.inj hf
      subst hf
      exact ret_z C Z rfl dX6_isBetter_48
    · rw [if_neg hc40] at hf
      refine lv_iconst (v := 1) hx hb dX6_isBetter_43 (by decide +kernel) ?_
      refine lv_goto (tgt := 48) hx hb dX6_isBetter_44 (by decide) ?_
      have hf := Option.some.inj hf
      subst hf
      exact ret_z C Z rfl dX6_isBetter_48
  · rw [if_neg hc19] at hf
    refine lv_iload_n hx hb dX6_isBetter_22 rfl (lv_at hl 0 rfl) ?_
    refine lv_if_le (tgt := 30) hx hb dX6_isBetter_23 (by decide) (fun hc23 => ?_) (fun hc23 => ?_)
    · rw [if_pos hc23] at hf
      refine lv_iconst (v := 0) hx hb dX6_isBetter_30 (by decide +kernel) ?_
      have hf := Option.some.inj hf
      subst hf
      exact ret_z C Z rfl dX6_isBetter_31
    · rw [if_neg hc23] at hf
      refine lv_iconst (v := 1) hx hb dX6_isBetter_26 (by decide +kernel) ?_
      refine lv_goto (tgt := 31) hx hb dX6_isBetter_27 (by decide) ?_
      have hf := Option.some.inj hf
      subst hf
      exact ret_z C Z rfl dX6_isBetter_31
def L_X6_bestToAsk_4 (k : Int32 → Int32 → Option (Int32)) (u : St) (x1 : Int32) : Nat → Int32 → Int32 → Option (Int32)
  | 0, _, _ => none
  | n + 1, x2, x3 =>
    Option.bind (f_X1_allCocks u) fun r9 =>
    if r9 < x3 then
      k x2 x3
    else
      if (x3 &&& (u.1 11)) = 0 then
        Option.bind (f_X3_hoursToAsk u x3) fun r32 =>
        if x1 < r32 then
          L_X6_bestToAsk_4 k u x1 n x2 (x3 + 1)
        else
          Option.bind (f_X6_isBetter u x3 x2) fun r54 =>
          if r54 = 0 then
            L_X6_bestToAsk_4 k u x1 n x2 (x3 + 1)
          else
            L_X6_bestToAsk_4 k u x1 n x3 (x3 + 1)
      else
        L_X6_bestToAsk_4 k u x1 n x2 (x3 + 1)
set_option maxHeartbeats 4000000 in
set_option maxRecDepth 100000 in
theorem b_X6_bestToAsk_4 {p : Program} {l : Launch} {e : Env} {s : State} {m : MethodId} {args : Array Value} {below : List Frame} {meth : Method} {c : Code} {g : Gx} {u : St} {x1 : Int32} {res : Int32} {k : Int32 → Int32 → Option (Int32)} (C : Cx p s m meth c args cX6_bestToAsk RX6 5 (some .int) 82 g)
    (hk : ∀ (x2 x3 : Int32) (H : Heap) (locs : List Loc) (ls : Array Slot), Zx wC g (Aw 82 g s.heap.size) s H locs u → lv_has ls 5 [(2, .int x2)] → k x2 x3 = some res → W p l e (rmX 5 112) s m args below meth c H locs 0 0 (QI wC 82 g res u below args s) (F0 m 68 ls [])) :
    ∀ (n : Nat) (x2 x3 : Int32) (H : Heap) (locs : List Loc) (ls : Array Slot), Zx wC g (Aw 82 g s.heap.size) s H locs u → lv_has ls 5 [(0, .ref (g.2.2 23)), (1, .int x1), (2, .int x2), (3, .int x3)] → L_X6_bestToAsk_4 k u x1 n x2 x3 = some res → W p l e (rmX 5 112) s m args below meth c H locs 0 0 (QI wC 82 g res u below args s) (F0 m 4 ls []) := by
  have hx := C.1
  have hb := C.2.1
  intro n
  induction n with
  | zero =>
    intro x2 x3 H locs ls Z hl hf
    rw [L_X6_bestToAsk_4.eq_1] at hf
    cases hf
  | succ n ih =>
    intro x2 x3 H locs ls Z hl hf
    rw [L_X6_bestToAsk_4.eq_2] at hf
    refine lv_iload_n hx hb dX6_bestToAsk_4 rfl (lv_at hl 3 rfl) ?_
    refine lv_aload_n hx hb dX6_bestToAsk_5 rfl (lv_at hl 0 rfl) ?_
    refine gC_23_0 C Z (fl_of C mw_253) dX6_bestToAsk_6 ?_
    obtain ⟨r9, hr9, hf⟩ := Option.bind_eq_some_iff.mp hf
    refine call_vi (As := []) (rest := [.int x3]) C Z (c_X1_allCocks l hr9) mf_X1_allCocks (ml_nest C nw_48) rfl (oC_24 g _) rfl ⟨rfl, rfl, by decide, by decide⟩ rfl hl.1 (Nat.le_of_ble_eq_true rfl) dX6_bestToAsk_9 (fun H locs Z => ?_)
    refine lv_icmp_gt (tgt := 68) hx hb dX6_bestToAsk_12 (by decide) (fun hc12 => ?_) (fun hc12 => ?_)
    · rw [if_pos hc12] at hf
      exact hk _ _ H locs ls Z (lv_sub hl [2] rfl) hf
    · rw [if_neg hc12] at hf
      refine lv_iload_n hx hb dX6_bestToAsk_15 rfl (lv_at hl 3 rfl) ?_
      refine lv_aload_n hx hb dX6_bestToAsk_16 rfl (lv_at hl 0 rfl) ?_
      refine gC_23_1 C Z (fl_of C mw_256) dX6_bestToAsk_17 ?_
      refine gC_42_1 C Z (fl_nest C nw_91) dX6_bestToAsk_20 (x := (u.1 11)) rfl ?_
      refine lv_iand hx hb dX6_bestToAsk_23 ?_
      refine lv_if_ne (tgt := 43) hx hb dX6_bestToAsk_24 (by decide) (fun hc24 => ?_) (fun hc24 => ?_)
      · rw [if_neg hc24] at hf
        refine lv_iconst (v := 0) hx hb dX6_bestToAsk_43 (by decide +kernel) ?_
        refine lv_istore (lv' := [(4, .int 0), (0, .ref (g.2.2 23)), (1, .int x1), (2, .int x2), (3, .int x3)]) hx hb dX6_bestToAsk_44 hl (by decide) rfl (fun ls hl => ?_)
        refine lv_iload hx hb dX6_bestToAsk_46 (lv_at hl 0 rfl) ?_
        refine lv_if_eq (tgt := 62) hx hb dX6_bestToAsk_48 (by decide) (fun _ => ?_) (fun hq => absurd (by decide) hq)
        refine lv_iinc (v := (x3 + 1)) (lv' := [(3, .int (x3 + 1)), (4, .int 0), (0, .ref (g.2.2 23)), (1, .int x1), (2, .int x2)]) hx hb dX6_bestToAsk_62 hl (k := 4) rfl rfl (by decide) rfl (fun ls hl => ?_)
        refine lv_goto (tgt := 4) hx hb dX6_bestToAsk_65 (by decide) ?_
        exact ih _ _ _ _ _ Z (lv_sub hl [2, 3, 4, 0] rfl) hf
      · rw [if_pos hc24] at hf
        refine lv_aload_n hx hb dX6_bestToAsk_27 rfl (lv_at hl 0 rfl) ?_
        refine gC_23_1 C Z (fl_of C mw_256) dX6_bestToAsk_28 ?_
        refine lv_iload_n hx hb dX6_bestToAsk_31 rfl (lv_at hl 3 rfl) ?_
        obtain ⟨r32, hr32, hf⟩ := Option.bind_eq_some_iff.mp hf
        refine call_vi (As := [.int x3]) (rest := []) C Z (c_X3_hoursToAsk l hr32) mf_X3_hoursToAsk (ml_nest C nw_49) rfl (oC_42 g _) rfl ⟨rfl, rfl, by decide, by decide⟩ rfl hl.1 (Nat.le_of_ble_eq_true rfl) dX6_bestToAsk_32 (fun H locs Z => ?_)
        refine lv_iload_n hx hb dX6_bestToAsk_35 rfl (lv_at hl 1 rfl) ?_
        refine lv_icmp_gt (tgt := 43) hx hb dX6_bestToAsk_36 (by decide) (fun hc36 => ?_) (fun hc36 => ?_)
        · rw [if_pos hc36] at hf
          refine lv_iconst (v := 0) hx hb dX6_bestToAsk_43 (by decide +kernel) ?_
          refine lv_istore (lv' := [(4, .int 0), (0, .ref (g.2.2 23)), (1, .int x1), (2, .int x2), (3, .int x3)]) hx hb dX6_bestToAsk_44 hl (by decide) rfl (fun ls hl => ?_)
          refine lv_iload hx hb dX6_bestToAsk_46 (lv_at hl 0 rfl) ?_
          refine lv_if_eq (tgt := 62) hx hb dX6_bestToAsk_48 (by decide) (fun _ => ?_) (fun hq => absurd (by decide) hq)
          refine lv_iinc (v := (x3 + 1)) (lv' := [(3, .int (x3 + 1)), (4, .int 0), (0, .ref (g.2.2 23)), (1, .int x1), (2, .int x2)]) hx hb dX6_bestToAsk_62 hl (k := 4) rfl rfl (by decide) rfl (fun ls hl => ?_)
          refine lv_goto (tgt := 4) hx hb dX6_bestToAsk_65 (by decide) ?_
          exact ih _ _ _ _ _ Z (lv_sub hl [2, 3, 4, 0] rfl) hf
        · rw [if_neg hc36] at hf
          refine lv_iconst (v := 1) hx hb dX6_bestToAsk_39 (by decide +kernel) ?_
          refine lv_goto (tgt := 44) hx hb dX6_bestToAsk_40 (by decide) ?_
          refine lv_istore (lv' := [(4, .int 1), (0, .ref (g.2.2 23)), (1, .int x1), (2, .int x2), (3, .int x3)]) hx hb dX6_bestToAsk_44 hl (by decide) rfl (fun ls hl => ?_)
          refine lv_iload hx hb dX6_bestToAsk_46 (lv_at hl 0 rfl) ?_
          refine lv_if_eq (tgt := 62) hx hb dX6_bestToAsk_48 (by decide) (fun hq => absurd hq (by decide)) (fun _ => ?_)
          refine lv_aload_n hx hb dX6_bestToAsk_51 rfl (lv_at hl 1 rfl) ?_
          refine lv_iload_n hx hb dX6_bestToAsk_52 rfl (lv_at hl 4 rfl) ?_
          refine lv_iload_n hx hb dX6_bestToAsk_53 rfl (lv_at hl 3 rfl) ?_
          obtain ⟨r54, hr54, hf⟩ := Option.bind_eq_some_iff.mp hf
          refine call_vi (As := [.int x3, .int x2]) (rest := []) C Z (c_X6_isBetter l hr54) mf_X6_isBetter (ml_of C mw_629) rfl (oC_23 g _) rfl ⟨rfl, rfl, by decide, by decide⟩ rfl hl.1 (Nat.le_of_ble_eq_true rfl) dX6_bestToAsk_54 (fun H locs Z => ?_)
          refine lv_if_eq (tgt := 62) hx hb dX6_bestToAsk_57 (by decide) (fun hc57 => ?_) (fun hc57 => ?_)
          · rw [if_pos hc57] at hf
            refine lv_iinc (v := (x3 + 1)) (lv' := [(3, .int (x3 + 1)), (4, .int 1), (0, .ref (g.2.2 23)), (1, .int x1), (2, .int x2)]) hx hb dX6_bestToAsk_62 hl (k := 4) rfl rfl (by decide) rfl (fun ls hl => ?_)
            refine lv_goto (tgt := 4) hx hb dX6_bestToAsk_65 (by decide) ?_
            exact ih _ _ _ _ _ Z (lv_sub hl [2, 3, 4, 0] rfl) hf
          · rw [if_neg hc57] at hf
            refine lv_iload_n hx hb dX6_bestToAsk_60 rfl (lv_at hl 4 rfl) ?_
            refine lv_istore_n (lv' := [(2, .int x3), (4, .int 1), (0, .ref (g.2.2 23)), (1, .int x1), (3, .int x3)]) hx hb dX6_bestToAsk_61 rfl hl (by decide) rfl (fun ls hl => ?_)
            refine lv_iinc (v := (x3 + 1)) (lv' := [(3, .int (x3 + 1)), (2, .int x3), (4, .int 1), (0, .ref (g.2.2 23)), (1, .int x1)]) hx hb dX6_bestToAsk_62 hl (k := 4) rfl rfl (by decide) rfl (fun ls hl => ?_)
            refine lv_goto (tgt := 4) hx hb dX6_bestToAsk_65 (by decide) ?_
            exact ih _ _ _ _ _ Z (lv_sub hl [3, 4, 1, 0] rfl) hf
def f_X6_bestToAsk (u : St) (x1 : Int32) : Option (Int32) :=
  L_X6_bestToAsk_4 (fun x2 x3 =>
    some x2) u x1 FU 0 1
set_option maxHeartbeats 4000000 in
set_option maxRecDepth 100000 in
theorem c_X6_bestToAsk (l : Launch) {g : Gx} {u : St} {x1 : Int32} {res : Int32} (hf : f_X6_bestToAsk u x1 = some res) : CI wC 82 l yX6_bestToAsk (wsY yX6_bestToAsk cX6_bestToAsk 5 (some .int)) (rmX 5 112) g [.ref (g.2.2 23), .int x1] u res u := by
  refine CI_start (by decide +kernel) rfl (Nat.le_of_ble_eq_true rfl) (fun {p e s m args below meth c ls} C Z hl => ?_)
  have hl : lv_has ls 5 [(0, .ref (g.2.2 23)), (1, .int x1)] := hl
  have hx := C.1
  have hb := C.2.1
  unfold f_X6_bestToAsk at hf
  refine lv_iconst (v := 0) hx hb dX6_bestToAsk_0 (by decide +kernel) ?_
  refine lv_istore_n (lv' := [(2, .int 0), (0, .ref (g.2.2 23)), (1, .int x1)]) hx hb dX6_bestToAsk_1 rfl hl (by decide) rfl (fun ls hl => ?_)
  refine lv_iconst (v := 1) hx hb dX6_bestToAsk_2 (by decide +kernel) ?_
  refine lv_istore_n (lv' := [(3, .int 1), (2, .int 0), (0, .ref (g.2.2 23)), (1, .int x1)]) hx hb dX6_bestToAsk_3 rfl hl (by decide) rfl (fun ls hl => ?_)
  refine b_X6_bestToAsk_4 C (fun x2 x3 H locs ls Z hl hf => ?_) FU _ _ _ _ _ Z (lv_sub hl [2, 3, 1, 0] rfl) hf
  refine lv_iload_n hx hb dX6_bestToAsk_68 rfl (lv_at hl 0 rfl) ?_
  have hf := Option.some.inj hf
  subst hf
  exact ret_i C Z dX6_bestToAsk_69
def f_X7_now (u : St) (x1 : Int32) : Option (Int32) :=
  if x1 = 0 then
    some (u.1 10)
  else
  if x1 = 1 then
    some (u.1 11)
  else
  if x1 = 2 then
    Option.bind (f_X3_amountKnownWith u 0) fun r66 =>
    some r66
  else
  if x1 = 3 then
    Option.bind (f_X1_allCocks u) fun r84 =>
    Option.bind (f_X3_amountSeenBy u r84) fun r87 =>
    some r87
  else
  if x1 = 4 then
    Option.bind (f_X6_bestToAsk u 1000000) fun r97 =>
    some r97
  else
  some (-1)
set_option maxHeartbeats 4000000 in
set_option maxRecDepth 100000 in
theorem c_X7_now (l : Launch) {g : Gx} {u : St} {x1 : Int32} {res : Int32} (hf : f_X7_now u x1 = some res) : CI wC 82 l yX7_now (wsY yX7_now cX7_now 2 (some .int)) (rmX 6 136) g [.ref (g.2.2 0), .int x1] u res u := by
  refine CI_start (by decide +kernel) rfl (Nat.le_of_ble_eq_true rfl) (fun {p e s m args below meth c ls} C Z hl => ?_)
  have hl : lv_has ls 2 [(0, .ref (g.2.2 0)), (1, .int x1)] := hl
  have hx := C.1
  have hb := C.2.1
  unfold f_X7_now at hf
  refine lv_iload_n hx hb dX7_now_0 rfl (lv_at hl 1 rfl) ?_
  by_cases hs1_0 : x1 = 0
  · rw [if_pos hs1_0] at hf
    refine lv_tableIn (tgt := 36) hx hb dX7_now_1 (by rw [hs1_0]; decide) (by rw [hs1_0]; decide) (by rw [hs1_0]; first | done | rfl) (by decide) ?_
    refine lv_aload_n hx hb dX7_now_36 rfl (lv_at hl 0 rfl) ?_
    refine gC_0_2 C Z (fl_of C mw_307) dX7_now_37 ?_
    refine gC_23_1 C Z (fl_nest C nw_100) dX7_now_40 ?_
    refine gC_42_0 C Z (fl_nest C nw_87) dX7_now_43 (x := (u.1 10)) rfl ?_
    have hf := Option.some.inj hf
    subst hf
    exact ret_i C Z dX7_now_46
  rw [if_neg hs1_0] at hf
  by_cases hs1_1 : x1 = 1
  · rw [if_pos hs1_1] at hf
    refine lv_tableIn (tgt := 47) hx hb dX7_now_1 (by rw [hs1_1]; decide) (by rw [hs1_1]; decide) (by rw [hs1_1]; first | done | rfl) (by decide) ?_
    refine lv_aload_n hx hb dX7_now_47 rfl (lv_at hl 0 rfl) ?_
    refine gC_0_2 C Z (fl_of C mw_307) dX7_now_48 ?_
    refine gC_23_1 C Z (fl_nest C nw_100) dX7_now_51 ?_
    refine gC_42_1 C Z (fl_nest C nw_90) dX7_now_54 (x := (u.1 11)) rfl ?_
    have hf := Option.some.inj hf
    subst hf
    exact ret_i C Z dX7_now_57
  rw [if_neg hs1_1] at hf
  by_cases hs1_2 : x1 = 2
  · rw [if_pos hs1_2] at hf
    refine lv_tableIn (tgt := 58) hx hb dX7_now_1 (by rw [hs1_2]; decide) (by rw [hs1_2]; decide) (by rw [hs1_2]; first | done | rfl) (by decide) ?_
    refine lv_aload_n hx hb dX7_now_58 rfl (lv_at hl 0 rfl) ?_
    refine gC_0_2 C Z (fl_of C mw_307) dX7_now_59 ?_
    refine gC_23_1 C Z (fl_nest C nw_100) dX7_now_62 ?_
    refine lv_iconst (v := 0) hx hb dX7_now_65 (by decide +kernel) ?_
    obtain ⟨r66, hr66, hf⟩ := Option.bind_eq_some_iff.mp hf
    refine call_vi (As := [.int 0]) (rest := []) C Z (c_X3_amountKnownWith l hr66) mf_X3_amountKnownWith (ml_nest C nw_42) rfl (oC_42 g _) rfl ⟨rfl, rfl, by decide, by decide⟩ rfl hl.1 (Nat.le_of_ble_eq_true rfl) dX7_now_66 (fun H locs Z => ?_)
    have hf := Option.some.inj hf
    subst hf
    exact ret_i C Z dX7_now_69
  rw [if_neg hs1_2] at hf
  by_cases hs1_3 : x1 = 3
  · rw [if_pos hs1_3] at hf
    refine lv_tableIn (tgt := 70) hx hb dX7_now_1 (by rw [hs1_3]; decide) (by rw [hs1_3]; decide) (by rw [hs1_3]; first | done | rfl) (by decide) ?_
    refine lv_aload_n hx hb dX7_now_70 rfl (lv_at hl 0 rfl) ?_
    refine gC_0_2 C Z (fl_of C mw_307) dX7_now_71 ?_
    refine gC_23_1 C Z (fl_nest C nw_100) dX7_now_74 ?_
    refine lv_aload_n hx hb dX7_now_77 rfl (lv_at hl 0 rfl) ?_
    refine gC_0_2 C Z (fl_of C mw_307) dX7_now_78 ?_
    refine gC_23_0 C Z (fl_nest C nw_98) dX7_now_81 ?_
    obtain ⟨r84, hr84, hf⟩ := Option.bind_eq_some_iff.mp hf
    refine call_vi (As := []) (rest := [.ref (g.2.2 42)]) C Z (c_X1_allCocks l hr84) mf_X1_allCocks (ml_nest C nw_45) rfl (oC_24 g _) rfl ⟨rfl, rfl, by decide, by decide⟩ rfl hl.1 (Nat.le_of_ble_eq_true rfl) dX7_now_84 (fun H locs Z => ?_)
    obtain ⟨r87, hr87, hf⟩ := Option.bind_eq_some_iff.mp hf
    refine call_vi (As := [.int r84]) (rest := []) C Z (c_X3_amountSeenBy l hr87) mf_X3_amountSeenBy (ml_nest C nw_46) rfl (oC_42 g _) rfl ⟨rfl, rfl, by decide, by decide⟩ rfl hl.1 (Nat.le_of_ble_eq_true rfl) dX7_now_87 (fun H locs Z => ?_)
    have hf := Option.some.inj hf
    subst hf
    exact ret_i C Z dX7_now_90
  rw [if_neg hs1_3] at hf
  by_cases hs1_4 : x1 = 4
  · rw [if_pos hs1_4] at hf
    refine lv_tableIn (tgt := 91) hx hb dX7_now_1 (by rw [hs1_4]; decide) (by rw [hs1_4]; decide) (by rw [hs1_4]; first | done | rfl) (by decide) ?_
    refine lv_aload_n hx hb dX7_now_91 rfl (lv_at hl 0 rfl) ?_
    refine gC_0_2 C Z (fl_of C mw_307) dX7_now_92 ?_
    refine lv_ldc (v := 1000000) hx hb C.2.2.2.1 (C.2.2.2.2.1 _ mw_618) dX7_now_95 ?_
    obtain ⟨r97, hr97, hf⟩ := Option.bind_eq_some_iff.mp hf
    refine call_vi (As := [.int 1000000]) (rest := []) C Z (c_X6_bestToAsk l hr97) mf_X6_bestToAsk (ml_nest C nw_47) rfl (oC_23 g _) rfl ⟨rfl, rfl, by decide, by decide⟩ rfl hl.1 (Nat.le_of_ble_eq_true rfl) dX7_now_97 (fun H locs Z => ?_)
    have hf := Option.some.inj hf
    subst hf
    exact ret_i C Z dX7_now_100
  rw [if_neg hs1_4] at hf
  have e1_0 := lv_neT (a := 0) hs1_0 (by decide)
  have e1_1 := lv_neT (a := 1) hs1_1 (by decide)
  have e1_2 := lv_neT (a := 2) hs1_2 (by decide)
  have e1_3 := lv_neT (a := 3) hs1_3 (by decide)
  have e1_4 := lv_neT (a := 4) hs1_4 (by decide)
  refine lv_tableOut (tgt := 101) hx hb dX7_now_1 (by omega) (by decide) ?_
  refine lv_iconst (v := (-1)) hx hb dX7_now_101 (by decide +kernel) ?_
  have hf := Option.some.inj hf
  subst hf
  exact ret_i C Z dX7_now_102
def f_X8_all (u : St) : Option (Int32) :=
  some ((1 <<< ((u.1 0) &&& 31)) - 1)
set_option maxHeartbeats 4000000 in
set_option maxRecDepth 100000 in
theorem c_X8_all (l : Launch) {g : Gx} {u : St} {res : Int32} (hf : f_X8_all u = some res) : CI wM 22 l yX8_all (wsY yX8_all cX8_all 1 (some .int)) (rmX 0 0) g [.ref (g.2.2 0)] u res u := by
  refine CI_start (by decide +kernel) rfl (Nat.le_of_ble_eq_true rfl) (fun {p e s m args below meth c ls} C Z hl => ?_)
  have hl : lv_has ls 1 [(0, .ref (g.2.2 0))] := hl
  have hx := C.1
  have hb := C.2.1
  unfold f_X8_all at hf
  refine lv_iconst (v := 1) hx hb dX8_all_0 (by decide +kernel) ?_
  refine lv_aload_n hx hb dX8_all_1 rfl (lv_at hl 0 rfl) ?_
  refine gM_0_0 C Z (fl_of C mw_817) dX8_all_2 (x := (u.1 0)) rfl ?_
  refine lv_ishl hx hb dX8_all_5 ?_
  refine lv_iconst (v := 1) hx hb dX8_all_6 (by decide +kernel) ?_
  refine lv_isub hx hb dX8_all_7 ?_
  have hf := Option.some.inj hf
  subst hf
  exact ret_i C Z dX8_all_8
def f_X8_isLess (x0 x1 : Int32) : Option (Int32) :=
  Option.bind (f_X8_bits x0) fun r1 =>
  Option.bind (f_X8_bits x1) fun r5 =>
  if r1 < r5 then
    some 1
  else
    Option.bind (f_X8_bits x0) fun r12 =>
    Option.bind (f_X8_bits x1) fun r16 =>
    if r12 = r16 then
      if x1 ≤ x0 then
        some 0
      else
        some 1
    else
      some 0
set_option maxHeartbeats 4000000 in
set_option maxRecDepth 100000 in
theorem c_X8_isLess (l : Launch) {g : Gx} {u : St} {x0 x1 : Int32} {res : Int32} (hf : f_X8_isLess x0 x1 = some res) : CI wM 22 l yX8_isLess (wsY yX8_isLess cX8_isLess 2 (some .boolean)) (rmX 1 22) g [.int x0, .int x1] u res u := by
  refine CI_start (by decide +kernel) rfl (Nat.le_of_ble_eq_true rfl) (fun {p e s m args below meth c ls} C Z hl => ?_)
  have hl : lv_has ls 2 [(0, .int x0), (1, .int x1)] := hl
  have hx := C.1
  have hb := C.2.1
  unfold f_X8_isLess at hf
  refine lv_iload_n hx hb dX8_isLess_0 rfl (lv_at hl 0 rfl) ?_
  obtain ⟨r1, hr1, hf⟩ := Option.bind_eq_some_iff.mp hf
  refine call_si (As := [.int x0]) (rest := []) C Z (c_X8_bits l hr1) mf_X8_bits (ml_of C mw_1032) rfl ⟨rfl, rfl, by decide, by decide⟩ rfl hl.1 (Nat.le_of_ble_eq_true rfl) dX8_isLess_1 (fun H locs Z => ?_)
  refine lv_iload_n hx hb dX8_isLess_4 rfl (lv_at hl 1 rfl) ?_
  obtain ⟨r5, hr5, hf⟩ := Option.bind_eq_some_iff.mp hf
  refine call_si (As := [.int x1]) (rest := [.int r1]) C Z (c_X8_bits l hr5) mf_X8_bits (ml_of C mw_1032) rfl ⟨rfl, rfl, by decide, by decide⟩ rfl hl.1 (Nat.le_of_ble_eq_true rfl) dX8_isLess_5 (fun H locs Z => ?_)
  refine lv_icmp_lt (tgt := 27) hx hb dX8_isLess_8 (by decide) (fun hc8 => ?_) (fun hc8 => ?_)
  · rw [if_pos hc8] at hf
    refine lv_iconst (v := 1) hx hb dX8_isLess_27 (by decide +kernel) ?_
    refine lv_goto (tgt := 32) hx hb dX8_isLess_28 (by decide) ?_
    have hf := Option.some.inj hf
    subst hf
    exact ret_z C Z rfl dX8_isLess_32
  · rw [if_neg hc8] at hf
    refine lv_iload_n hx hb dX8_isLess_11 rfl (lv_at hl 0 rfl) ?_
    obtain ⟨r12, hr12, hf⟩ := Option.bind_eq_some_iff.mp hf
    refine call_si (As := [.int x0]) (rest := []) C Z (c_X8_bits l hr12) mf_X8_bits (ml_of C mw_1032) rfl ⟨rfl, rfl, by decide, by decide⟩ rfl hl.1 (Nat.le_of_ble_eq_true rfl) dX8_isLess_12 (fun H locs Z => ?_)
    refine lv_iload_n hx hb dX8_isLess_15 rfl (lv_at hl 1 rfl) ?_
    obtain ⟨r16, hr16, hf⟩ := Option.bind_eq_some_iff.mp hf
    refine call_si (As := [.int x1]) (rest := [.int r12]) C Z (c_X8_bits l hr16) mf_X8_bits (ml_of C mw_1032) rfl ⟨rfl, rfl, by decide, by decide⟩ rfl hl.1 (Nat.le_of_ble_eq_true rfl) dX8_isLess_16 (fun H locs Z => ?_)
    refine lv_icmp_ne (tgt := 31) hx hb dX8_isLess_19 (by decide) (fun hc19 => ?_) (fun hc19 => ?_)
    · rw [if_neg hc19] at hf
      refine lv_iconst (v := 0) hx hb dX8_isLess_31 (by decide +kernel) ?_
      have hf := Option.some.inj hf
      subst hf
      exact ret_z C Z rfl dX8_isLess_32
    · rw [if_pos hc19] at hf
      refine lv_iload_n hx hb dX8_isLess_22 rfl (lv_at hl 0 rfl) ?_
      refine lv_iload_n hx hb dX8_isLess_23 rfl (lv_at hl 1 rfl) ?_
      refine lv_icmp_ge (tgt := 31) hx hb dX8_isLess_24 (by decide) (fun hc24 => ?_) (fun hc24 => ?_)
      · rw [if_pos hc24] at hf
        refine lv_iconst (v := 0) hx hb dX8_isLess_31 (by decide +kernel) ?_
        have hf := Option.some.inj hf
        subst hf
        exact ret_z C Z rfl dX8_isLess_32
      · rw [if_neg hc24] at hf
        refine lv_iconst (v := 1) hx hb dX8_isLess_27 (by decide +kernel) ?_
        refine lv_goto (tgt := 32) hx hb dX8_isLess_28 (by decide) ?_
        have hf := Option.some.inj hf
        subst hf
        exact ret_z C Z rfl dX8_isLess_32
def L_X8_cover_7 (k : Int32 → Int32 → Option (Int32)) (u : St) : Nat → Int32 → Int32 → Option (Int32)
  | 0, _, _ => none
  | n + 1, x1, x2 =>
    Option.bind (f_X8_all u) fun r9 =>
    if r9 < x2 then
      k x1 x2
    else
      if (x2 &&& ((u.2.1 7) 45)) = 0 then
        Option.bind (f_X8_sawBy u (x2 ||| ((u.2.1 7) 45))) fun r37 =>
        Option.bind (f_X8_all u) fun r42 =>
        Option.bind (f_X8_sawBy u r42) fun r45 =>
        if r37 = r45 then
          Option.bind (f_X8_isLess x2 x1) fun r63 =>
          if r63 = 0 then
            if (x1 &&& ((u.2.1 7) 45)) = 0 then
              L_X8_cover_7 k u n x1 (x2 + 1)
            else
              L_X8_cover_7 k u n x2 (x2 + 1)
          else
            L_X8_cover_7 k u n x2 (x2 + 1)
        else
          L_X8_cover_7 k u n x1 (x2 + 1)
      else
        L_X8_cover_7 k u n x1 (x2 + 1)
set_option maxHeartbeats 4000000 in
set_option maxRecDepth 100000 in
theorem b_X8_cover_7 {p : Program} {l : Launch} {e : Env} {s : State} {m : MethodId} {args : Array Value} {below : List Frame} {meth : Method} {c : Code} {g : Gx} {u : St} {res : Int32} {k : Int32 → Int32 → Option (Int32)} (C : Cx p s m meth c args cX8_cover RX8 4 (some .int) 22 g)
    (hk : ∀ (x1 x2 : Int32) (H : Heap) (locs : List Loc) (ls : Array Slot), Zx wM g (Aw 22 g s.heap.size) s H locs u → lv_has ls 4 [(1, .int x1)] → k x1 x2 = some res → W p l e (rmX 2 47) s m args below meth c H locs 0 0 (QI wM 22 g res u below args s) (F0 m 93 ls [])) :
    ∀ (n : Nat) (x1 x2 : Int32) (H : Heap) (locs : List Loc) (ls : Array Slot), Zx wM g (Aw 22 g s.heap.size) s H locs u → lv_has ls 4 [(0, .ref (g.2.2 0)), (1, .int x1), (2, .int x2)] → L_X8_cover_7 k u n x1 x2 = some res → W p l e (rmX 2 47) s m args below meth c H locs 0 0 (QI wM 22 g res u below args s) (F0 m 7 ls []) := by
  have hx := C.1
  have hb := C.2.1
  intro n
  induction n with
  | zero =>
    intro x1 x2 H locs ls Z hl hf
    rw [L_X8_cover_7.eq_1] at hf
    cases hf
  | succ n ih =>
    intro x1 x2 H locs ls Z hl hf
    rw [L_X8_cover_7.eq_2] at hf
    refine lv_iload_n hx hb dX8_cover_7 rfl (lv_at hl 2 rfl) ?_
    refine lv_aload_n hx hb dX8_cover_8 rfl (lv_at hl 0 rfl) ?_
    obtain ⟨r9, hr9, hf⟩ := Option.bind_eq_some_iff.mp hf
    refine call_vi (As := []) (rest := [.int x2]) C Z (c_X8_all l hr9) mf_X8_all (ml_of C mw_1100) rfl (oM_0 g _) rfl ⟨rfl, rfl, by decide, by decide⟩ rfl hl.1 (Nat.le_of_ble_eq_true rfl) dX8_cover_9 (fun H locs Z => ?_)
    refine lv_icmp_gt (tgt := 93) hx hb dX8_cover_12 (by decide) (fun hc12 => ?_) (fun hc12 => ?_)
    · rw [if_pos hc12] at hf
      exact hk _ _ H locs ls Z (lv_sub hl [1] rfl) hf
    · rw [if_neg hc12] at hf
      refine lv_iload_n hx hb dX8_cover_15 rfl (lv_at hl 2 rfl) ?_
      refine lv_aload_n hx hb dX8_cover_16 rfl (lv_at hl 0 rfl) ?_
      refine gM_0_10 C Z (fl_of C mw_827) dX8_cover_17 ?_
      refine lv_bipush (v := 45) hx hb dX8_cover_20 (by decide +kernel) ?_
      refine r_ald C Z (aM_8 g _ (f := (u.2.1 7)) rfl) (by decide) (k := 45) (by decide) dX8_cover_22 (x := ((u.2.1 7) 45)) rfl ?_
      refine lv_iand hx hb dX8_cover_23 ?_
      refine lv_if_ne (tgt := 55) hx hb dX8_cover_24 (by decide) (fun hc24 => ?_) (fun hc24 => ?_)
      · rw [if_neg hc24] at hf
        refine lv_iconst (v := 0) hx hb dX8_cover_55 (by decide +kernel) ?_
        refine lv_istore_n (lv' := [(3, .int 0), (0, .ref (g.2.2 0)), (1, .int x1), (2, .int x2)]) hx hb dX8_cover_56 rfl hl (by decide) rfl (fun ls hl => ?_)
        refine lv_iload_n hx hb dX8_cover_57 rfl (lv_at hl 0 rfl) ?_
        refine lv_if_eq (tgt := 85) hx hb dX8_cover_58 (by decide) (fun _ => ?_) (fun hq => absurd (by decide) hq)
        refine lv_iload_n hx hb dX8_cover_85 rfl (lv_at hl 2 rfl) ?_
        refine lv_istore_n (lv' := [(1, .int x1), (3, .int 0), (0, .ref (g.2.2 0)), (2, .int x2)]) hx hb dX8_cover_86 rfl hl (by decide) rfl (fun ls hl => ?_)
        refine lv_iinc (v := (x2 + 1)) (lv' := [(2, .int (x2 + 1)), (1, .int x1), (3, .int 0), (0, .ref (g.2.2 0))]) hx hb dX8_cover_87 hl (k := 3) rfl rfl (by decide) rfl (fun ls hl => ?_)
        refine lv_goto (tgt := 7) hx hb dX8_cover_90 (by decide) ?_
        exact ih _ _ _ _ _ Z (lv_sub hl [3, 1, 0] rfl) hf
      · rw [if_pos hc24] at hf
        refine lv_aload_n hx hb dX8_cover_27 rfl (lv_at hl 0 rfl) ?_
        refine lv_iload_n hx hb dX8_cover_28 rfl (lv_at hl 2 rfl) ?_
        refine lv_aload_n hx hb dX8_cover_29 rfl (lv_at hl 0 rfl) ?_
        refine gM_0_10 C Z (fl_of C mw_827) dX8_cover_30 ?_
        refine lv_bipush (v := 45) hx hb dX8_cover_33 (by decide +kernel) ?_
        refine r_ald C Z (aM_8 g _ (f := (u.2.1 7)) rfl) (by decide) (k := 45) (by decide) dX8_cover_35 (x := ((u.2.1 7) 45)) rfl ?_
        refine lv_ior hx hb dX8_cover_36 ?_
        obtain ⟨r37, hr37, hf⟩ := Option.bind_eq_some_iff.mp hf
        refine call_vi (As := [.int (x2 ||| ((u.2.1 7) 45))]) (rest := []) C Z (c_X8_sawBy l hr37) mf_X8_sawBy (ml_of C mw_1024) rfl (oM_0 g _) rfl ⟨rfl, rfl, by decide, by decide⟩ rfl hl.1 (Nat.le_of_ble_eq_true rfl) dX8_cover_37 (fun H locs Z => ?_)
        refine lv_aload_n hx hb dX8_cover_40 rfl (lv_at hl 0 rfl) ?_
        refine lv_aload_n hx hb dX8_cover_41 rfl (lv_at hl 0 rfl) ?_
        obtain ⟨r42, hr42, hf⟩ := Option.bind_eq_some_iff.mp hf
        refine call_vi (As := []) (rest := [.ref (g.2.2 0), .int r37]) C Z (c_X8_all l hr42) mf_X8_all (ml_of C mw_1100) rfl (oM_0 g _) rfl ⟨rfl, rfl, by decide, by decide⟩ rfl hl.1 (Nat.le_of_ble_eq_true rfl) dX8_cover_42 (fun H locs Z => ?_)
        obtain ⟨r45, hr45, hf⟩ := Option.bind_eq_some_iff.mp hf
        refine call_vi (As := [.int r42]) (rest := [.int r37]) C Z (c_X8_sawBy l hr45) mf_X8_sawBy (ml_of C mw_1024) rfl (oM_0 g _) rfl ⟨rfl, rfl, by decide, by decide⟩ rfl hl.1 (Nat.le_of_ble_eq_true rfl) dX8_cover_45 (fun H locs Z => ?_)
        refine lv_icmp_ne (tgt := 55) hx hb dX8_cover_48 (by decide) (fun hc48 => ?_) (fun hc48 => ?_)
        · rw [if_neg hc48] at hf
          refine lv_iconst (v := 0) hx hb dX8_cover_55 (by decide +kernel) ?_
          refine lv_istore_n (lv' := [(3, .int 0), (0, .ref (g.2.2 0)), (1, .int x1), (2, .int x2)]) hx hb dX8_cover_56 rfl hl (by decide) rfl (fun ls hl => ?_)
          refine lv_iload_n hx hb dX8_cover_57 rfl (lv_at hl 0 rfl) ?_
          refine lv_if_eq (tgt := 85) hx hb dX8_cover_58 (by decide) (fun _ => ?_) (fun hq => absurd (by decide) hq)
          refine lv_iload_n hx hb dX8_cover_85 rfl (lv_at hl 2 rfl) ?_
          refine lv_istore_n (lv' := [(1, .int x1), (3, .int 0), (0, .ref (g.2.2 0)), (2, .int x2)]) hx hb dX8_cover_86 rfl hl (by decide) rfl (fun ls hl => ?_)
          refine lv_iinc (v := (x2 + 1)) (lv' := [(2, .int (x2 + 1)), (1, .int x1), (3, .int 0), (0, .ref (g.2.2 0))]) hx hb dX8_cover_87 hl (k := 3) rfl rfl (by decide) rfl (fun ls hl => ?_)
          refine lv_goto (tgt := 7) hx hb dX8_cover_90 (by decide) ?_
          exact ih _ _ _ _ _ Z (lv_sub hl [3, 1, 0] rfl) hf
        · rw [if_pos hc48] at hf
          refine lv_iconst (v := 1) hx hb dX8_cover_51 (by decide +kernel) ?_
          refine lv_goto (tgt := 56) hx hb dX8_cover_52 (by decide) ?_
          refine lv_istore_n (lv' := [(3, .int 1), (0, .ref (g.2.2 0)), (1, .int x1), (2, .int x2)]) hx hb dX8_cover_56 rfl hl (by decide) rfl (fun ls hl => ?_)
          refine lv_iload_n hx hb dX8_cover_57 rfl (lv_at hl 0 rfl) ?_
          refine lv_if_eq (tgt := 85) hx hb dX8_cover_58 (by decide) (fun hq => absurd hq (by decide)) (fun _ => ?_)
          refine lv_iload_n hx hb dX8_cover_61 rfl (lv_at hl 3 rfl) ?_
          refine lv_iload_n hx hb dX8_cover_62 rfl (lv_at hl 2 rfl) ?_
          obtain ⟨r63, hr63, hf⟩ := Option.bind_eq_some_iff.mp hf
          refine call_si (As := [.int x2, .int x1]) (rest := []) C Z (c_X8_isLess l hr63) mf_X8_isLess (ml_of C mw_1108) rfl ⟨rfl, rfl, by decide, by decide⟩ rfl hl.1 (Nat.le_of_ble_eq_true rfl) dX8_cover_63 (fun H locs Z => ?_)
          refine lv_if_ne (tgt := 81) hx hb dX8_cover_66 (by decide) (fun hc66 => ?_) (fun hc66 => ?_)
          · rw [if_neg hc66] at hf
            refine lv_iload_n hx hb dX8_cover_81 rfl (lv_at hl 3 rfl) ?_
            refine lv_goto (tgt := 86) hx hb dX8_cover_82 (by decide) ?_
            refine lv_istore_n (lv' := [(1, .int x2), (3, .int 1), (0, .ref (g.2.2 0)), (2, .int x2)]) hx hb dX8_cover_86 rfl hl (by decide) rfl (fun ls hl => ?_)
            refine lv_iinc (v := (x2 + 1)) (lv' := [(2, .int (x2 + 1)), (1, .int x2), (3, .int 1), (0, .ref (g.2.2 0))]) hx hb dX8_cover_87 hl (k := 3) rfl rfl (by decide) rfl (fun ls hl => ?_)
            refine lv_goto (tgt := 7) hx hb dX8_cover_90 (by decide) ?_
            exact ih _ _ _ _ _ Z (lv_sub hl [3, 1, 0] rfl) hf
          · rw [if_pos hc66] at hf
            refine lv_iload_n hx hb dX8_cover_69 rfl (lv_at hl 2 rfl) ?_
            refine lv_aload_n hx hb dX8_cover_70 rfl (lv_at hl 1 rfl) ?_
            refine gM_0_10 C Z (fl_of C mw_827) dX8_cover_71 ?_
            refine lv_bipush (v := 45) hx hb dX8_cover_74 (by decide +kernel) ?_
            refine r_ald C Z (aM_8 g _ (f := (u.2.1 7)) rfl) (by decide) (k := 45) (by decide) dX8_cover_76 (x := ((u.2.1 7) 45)) rfl ?_
            refine lv_iand hx hb dX8_cover_77 ?_
            refine lv_if_eq (tgt := 85) hx hb dX8_cover_78 (by decide) (fun hc78 => ?_) (fun hc78 => ?_)
            · rw [if_pos hc78] at hf
              refine lv_iload_n hx hb dX8_cover_85 rfl (lv_at hl 2 rfl) ?_
              refine lv_istore_n (lv' := [(1, .int x1), (3, .int 1), (0, .ref (g.2.2 0)), (2, .int x2)]) hx hb dX8_cover_86 rfl hl (by decide) rfl (fun ls hl => ?_)
              refine lv_iinc (v := (x2 + 1)) (lv' := [(2, .int (x2 + 1)), (1, .int x1), (3, .int 1), (0, .ref (g.2.2 0))]) hx hb dX8_cover_87 hl (k := 3) rfl rfl (by decide) rfl (fun ls hl => ?_)
              refine lv_goto (tgt := 7) hx hb dX8_cover_90 (by decide) ?_
              exact ih _ _ _ _ _ Z (lv_sub hl [3, 1, 0] rfl) hf
            · rw [if_neg hc78] at hf
              refine lv_iload_n hx hb dX8_cover_81 rfl (lv_at hl 3 rfl) ?_
              refine lv_goto (tgt := 86) hx hb dX8_cover_82 (by decide) ?_
              refine lv_istore_n (lv' := [(1, .int x2), (3, .int 1), (0, .ref (g.2.2 0)), (2, .int x2)]) hx hb dX8_cover_86 rfl hl (by decide) rfl (fun ls hl => ?_)
              refine lv_iinc (v := (x2 + 1)) (lv' := [(2, .int (x2 + 1)), (1, .int x2), (3, .int 1), (0, .ref (g.2.2 0))]) hx hb dX8_cover_87 hl (k := 3) rfl rfl (by decide) rfl (fun ls hl => ?_)
              refine lv_goto (tgt := 7) hx hb dX8_cover_90 (by decide) ?_
              exact ih _ _ _ _ _ Z (lv_sub hl [3, 1, 0] rfl) hf
def f_X8_cover (u : St) : Option (Int32) :=
  Option.bind (f_X8_all u) fun r1 =>
  L_X8_cover_7 (fun x1 x2 =>
    some x1) u FU r1 0
set_option maxHeartbeats 4000000 in
set_option maxRecDepth 100000 in
theorem c_X8_cover (l : Launch) {g : Gx} {u : St} {res : Int32} (hf : f_X8_cover u = some res) : CI wM 22 l yX8_cover (wsY yX8_cover cX8_cover 4 (some .int)) (rmX 2 47) g [.ref (g.2.2 0)] u res u := by
  refine CI_start (by decide +kernel) rfl (Nat.le_of_ble_eq_true rfl) (fun {p e s m args below meth c ls} C Z hl => ?_)
  have hl : lv_has ls 4 [(0, .ref (g.2.2 0))] := hl
  have hx := C.1
  have hb := C.2.1
  unfold f_X8_cover at hf
  refine lv_aload_n hx hb dX8_cover_0 rfl (lv_at hl 0 rfl) ?_
  obtain ⟨r1, hr1, hf⟩ := Option.bind_eq_some_iff.mp hf
  refine call_vi (As := []) (rest := []) C Z (c_X8_all l hr1) mf_X8_all (ml_of C mw_1100) rfl (oM_0 g _) rfl ⟨rfl, rfl, by decide, by decide⟩ rfl hl.1 (Nat.le_of_ble_eq_true rfl) dX8_cover_1 (fun H locs Z => ?_)
  refine lv_istore_n (lv' := [(1, .int r1), (0, .ref (g.2.2 0))]) hx hb dX8_cover_4 rfl hl (by decide) rfl (fun ls hl => ?_)
  refine lv_iconst (v := 0) hx hb dX8_cover_5 (by decide +kernel) ?_
  refine lv_istore_n (lv' := [(2, .int 0), (1, .int r1), (0, .ref (g.2.2 0))]) hx hb dX8_cover_6 rfl hl (by decide) rfl (fun ls hl => ?_)
  refine b_X8_cover_7 C (fun x1 x2 H locs ls Z hl hf => ?_) FU _ _ _ _ _ Z (lv_sub hl [2, 1, 0] rfl) hf
  refine lv_iload_n hx hb dX8_cover_93 rfl (lv_at hl 0 rfl) ?_
  have hf := Option.some.inj hf
  subst hf
  exact ret_i C Z dX8_cover_94
