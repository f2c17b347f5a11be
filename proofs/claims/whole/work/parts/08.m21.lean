def f_X8_now (u : St) (x1 : Int32) : Option (Int32) :=
  if x1 = 0 then
    some ((u.2.1 7) 0)
  else
  if x1 = 1 then
    some ((u.2.1 7) 45)
  else
  if x1 = 2 then
    Option.bind (f_X8_knownMuch u) fun r52 =>
    some r52
  else
  if x1 = 3 then
    Option.bind (f_X8_all u) fun r58 =>
    Option.bind (f_X8_sawBy u r58) fun r61 =>
    some r61
  else
  if x1 = 4 then
    Option.bind (f_X8_cover u) fun r66 =>
    some r66
  else
  some (-1)
set_option maxHeartbeats 4000000 in
set_option maxRecDepth 100000 in
theorem c_X8_now (l : Launch) {g : Gx} {u : St} {x1 : Int32} {res : Int32} (hf : f_X8_now u x1 = some res) : CI wM 22 l yX8_now (wsY yX8_now cX8_now 2 (some .int)) (rmX 3 70) g [.ref (g.2.2 0), .int x1] u res u := by
  refine CI_start (by decide +kernel) rfl (Nat.le_of_ble_eq_true rfl) (fun {p e s m args below meth c ls} C Z hl => ?_)
  have hl : lv_has ls 2 [(0, .ref (g.2.2 0)), (1, .int x1)] := hl
  have hx := C.1
  have hb := C.2.1
  unfold f_X8_now at hf
  refine lv_iload_n hx hb dX8_now_0 rfl (lv_at hl 1 rfl) ?_
  by_cases hs1_0 : x1 = 0
  · rw [if_pos hs1_0] at hf
    refine lv_tableIn (tgt := 36) hx hb dX8_now_1 (by rw [hs1_0]; decide) (by rw [hs1_0]; decide) (by rw [hs1_0]; first | done | rfl) (by decide) ?_
    refine lv_aload_n hx hb dX8_now_36 rfl (lv_at hl 0 rfl) ?_
    refine gM_0_10 C Z (fl_of C mw_827) dX8_now_37 ?_
    refine lv_iconst (v := 0) hx hb dX8_now_40 (by decide +kernel) ?_
    refine r_ald C Z (aM_8 g _ (f := (u.2.1 7)) rfl) (by decide) (k := 0) (by decide) dX8_now_41 (x := ((u.2.1 7) 0)) rfl ?_
    have hf := Option.some.inj hf
    subst hf
    exact ret_i C Z dX8_now_42
  rw [if_neg hs1_0] at hf
  by_cases hs1_1 : x1 = 1
  · rw [if_pos hs1_1] at hf
    refine lv_tableIn (tgt := 43) hx hb dX8_now_1 (by rw [hs1_1]; decide) (by rw [hs1_1]; decide) (by rw [hs1_1]; first | done | rfl) (by decide) ?_
    refine lv_aload_n hx hb dX8_now_43 rfl (lv_at hl 0 rfl) ?_
    refine gM_0_10 C Z (fl_of C mw_827) dX8_now_44 ?_
    refine lv_bipush (v := 45) hx hb dX8_now_47 (by decide +kernel) ?_
    refine r_ald C Z (aM_8 g _ (f := (u.2.1 7)) rfl) (by decide) (k := 45) (by decide) dX8_now_49 (x := ((u.2.1 7) 45)) rfl ?_
    have hf := Option.some.inj hf
    subst hf
    exact ret_i C Z dX8_now_50
  rw [if_neg hs1_1] at hf
  by_cases hs1_2 : x1 = 2
  · rw [if_pos hs1_2] at hf
    refine lv_tableIn (tgt := 51) hx hb dX8_now_1 (by rw [hs1_2]; decide) (by rw [hs1_2]; decide) (by rw [hs1_2]; first | done | rfl) (by decide) ?_
    refine lv_aload_n hx hb dX8_now_51 rfl (lv_at hl 0 rfl) ?_
    obtain ⟨r52, hr52, hf⟩ := Option.bind_eq_some_iff.mp hf
    refine call_vi (As := []) (rest := []) C Z (c_X8_knownMuch l hr52) mf_X8_knownMuch (ml_of C mw_1088) rfl (oM_0 g _) rfl ⟨rfl, rfl, by decide, by decide⟩ rfl hl.1 (Nat.le_of_ble_eq_true rfl) dX8_now_52 (fun H locs Z => ?_)
    have hf := Option.some.inj hf
    subst hf
    exact ret_i C Z dX8_now_55
  rw [if_neg hs1_2] at hf
  by_cases hs1_3 : x1 = 3
  · rw [if_pos hs1_3] at hf
    refine lv_tableIn (tgt := 56) hx hb dX8_now_1 (by rw [hs1_3]; decide) (by rw [hs1_3]; decide) (by rw [hs1_3]; first | done | rfl) (by decide) ?_
    refine lv_aload_n hx hb dX8_now_56 rfl (lv_at hl 0 rfl) ?_
    refine lv_aload_n hx hb dX8_now_57 rfl (lv_at hl 0 rfl) ?_
    obtain ⟨r58, hr58, hf⟩ := Option.bind_eq_some_iff.mp hf
    refine call_vi (As := []) (rest := [.ref (g.2.2 0)]) C Z (c_X8_all l hr58) mf_X8_all (ml_of C mw_1100) rfl (oM_0 g _) rfl ⟨rfl, rfl, by decide, by decide⟩ rfl hl.1 (Nat.le_of_ble_eq_true rfl) dX8_now_58 (fun H locs Z => ?_)
    obtain ⟨r61, hr61, hf⟩ := Option.bind_eq_some_iff.mp hf
    refine call_vi (As := [.int r58]) (rest := []) C Z (c_X8_sawBy l hr61) mf_X8_sawBy (ml_of C mw_1024) rfl (oM_0 g _) rfl ⟨rfl, rfl, by decide, by decide⟩ rfl hl.1 (Nat.le_of_ble_eq_true rfl) dX8_now_61 (fun H locs Z => ?_)
    have hf := Option.some.inj hf
    subst hf
    exact ret_i C Z dX8_now_64
  rw [if_neg hs1_3] at hf
  by_cases hs1_4 : x1 = 4
  · rw [if_pos hs1_4] at hf
    refine lv_tableIn (tgt := 65) hx hb dX8_now_1 (by rw [hs1_4]; decide) (by rw [hs1_4]; decide) (by rw [hs1_4]; first | done | rfl) (by decide) ?_
    refine lv_aload_n hx hb dX8_now_65 rfl (lv_at hl 0 rfl) ?_
    obtain ⟨r66, hr66, hf⟩ := Option.bind_eq_some_iff.mp hf
    refine call_vi (As := []) (rest := []) C Z (c_X8_cover l hr66) mf_X8_cover (ml_of C mw_1104) rfl (oM_0 g _) rfl ⟨rfl, rfl, by decide, by decide⟩ rfl hl.1 (Nat.le_of_ble_eq_true rfl) dX8_now_66 (fun H locs Z => ?_)
    have hf := Option.some.inj hf
    subst hf
    exact ret_i C Z dX8_now_69
  rw [if_neg hs1_4] at hf
  have e1_0 := lv_neT (a := 0) hs1_0 (by decide)
  have e1_1 := lv_neT (a := 1) hs1_1 (by decide)
  have e1_2 := lv_neT (a := 2) hs1_2 (by decide)
  have e1_3 := lv_neT (a := 3) hs1_3 (by decide)
  have e1_4 := lv_neT (a := 4) hs1_4 (by decide)
  refine lv_tableOut (tgt := 70) hx hb dX8_now_1 (by omega) (by decide) ?_
  refine lv_iconst (v := (-1)) hx hb dX8_now_70 (by decide +kernel) ?_
  have hf := Option.some.inj hf
  subst hf
  exact ret_i C Z dX8_now_71
def f_X7_isHour (x0 : Int32) : Option (Int32) :=
  Option.bind (f_X7_isWithin x0 0 29) fun r4 =>
  if nb r4 then some r4 else none
set_option maxHeartbeats 4000000 in
set_option maxRecDepth 100000 in
theorem c_X7_isHour (l : Launch) {g : Gx} {u : St} {x0 : Int32} {res : Int32} (hf : f_X7_isHour x0 = some res) : CI wC 82 l yX7_isHour (wsY yX7_isHour cX7_isHour 1 (some .boolean)) (rmX 1 22) g [.int x0] u res u := by
  refine CI_start (by decide +kernel) rfl (Nat.le_of_ble_eq_true rfl) (fun {p e s m args below meth c ls} C Z hl => ?_)
  have hl : lv_has ls 1 [(0, .int x0)] := hl
  have hx := C.1
  have hb := C.2.1
  unfold f_X7_isHour at hf
  refine lv_iload_n hx hb dX7_isHour_0 rfl (lv_at hl 0 rfl) ?_
  refine lv_iconst (v := 0) hx hb dX7_isHour_1 (by decide +kernel) ?_
  refine lv_bipush (v := 29) hx hb dX7_isHour_2 (by decide +kernel) ?_
  obtain ⟨r4, hr4, hf⟩ := Option.bind_eq_some_iff.mp hf
  refine call_si (As := [.int x0, .int 0, .int 29]) (rest := []) C Z (c_X7_isWithin l hr4) mf_X7_isWithin (ml_of C mw_331) rfl ⟨rfl, rfl, by decide, by decide⟩ rfl hl.1 (Nat.le_of_ble_eq_true rfl) dX7_isHour_4 (fun H locs Z => ?_)
  by_cases hn7 : nb r4 = true
  · rw [if_pos hn7] at hf
    have hf := Option.some.inj hf
    subst hf
    exact ret_z C Z hn7 dX7_isHour_7
  · rw [if_neg hn7] at hf
    cases hf
def L_X6_viewOf_5 (k : Int32 → Int32 → Option (Int32)) (u : St) (x1 x2 : Int32) : Nat → Int32 → Int32 → Option (Int32)
  | 0, _, _ => none
  | n + 1, x3, x4 =>
    if 24 ≤ x4 then
      k x3 x4
    else
      Option.bind (f_X6_canSee u x1 x4 x2) fun r17 =>
      if r17 = 0 then
        L_X6_viewOf_5 k u x1 x2 n x3 (x4 + 1)
      else
        L_X6_viewOf_5 k u x1 x2 n (x3 ||| (1 <<< (x4 &&& 31))) (x4 + 1)
set_option maxHeartbeats 4000000 in
set_option maxRecDepth 100000 in
theorem b_X6_viewOf_5 {p : Program} {l : Launch} {e : Env} {s : State} {m : MethodId} {args : Array Value} {below : List Frame} {meth : Method} {c : Code} {g : Gx} {u : St} {x1 x2 : Int32} {res : Int32} {k : Int32 → Int32 → Option (Int32)} (C : Cx p s m meth c args cX6_viewOf RX6 5 (some .int) 82 g)
    (hk : ∀ (x3 x4 : Int32) (H : Heap) (locs : List Loc) (ls : Array Slot), Zx wC g (Aw 82 g s.heap.size) s H locs u → lv_has ls 5 [(3, .int x3)] → k x3 x4 = some res → W p l e (rmX 3 77) s m args below meth c H locs 0 0 (QI wC 82 g res u below args s) (F0 m 36 ls [])) :
    ∀ (n : Nat) (x3 x4 : Int32) (H : Heap) (locs : List Loc) (ls : Array Slot), Zx wC g (Aw 82 g s.heap.size) s H locs u → lv_has ls 5 [(0, .ref (g.2.2 23)), (1, .int x1), (2, .int x2), (3, .int x3), (4, .int x4)] → L_X6_viewOf_5 k u x1 x2 n x3 x4 = some res → W p l e (rmX 3 77) s m args below meth c H locs 0 0 (QI wC 82 g res u below args s) (F0 m 5 ls []) := by
  have hx := C.1
  have hb := C.2.1
  intro n
  induction n with
  | zero =>
    intro x3 x4 H locs ls Z hl hf
    rw [L_X6_viewOf_5.eq_1] at hf
    cases hf
  | succ n ih =>
    intro x3 x4 H locs ls Z hl hf
    rw [L_X6_viewOf_5.eq_2] at hf
    refine lv_iload hx hb dX6_viewOf_5 (lv_at hl 4 rfl) ?_
    refine lv_bipush (v := 24) hx hb dX6_viewOf_7 (by decide +kernel) ?_
    refine lv_icmp_ge (tgt := 36) hx hb dX6_viewOf_9 (by decide) (fun hc9 => ?_) (fun hc9 => ?_)
    · rw [if_pos hc9] at hf
      exact hk _ _ H locs ls Z (lv_sub hl [3] rfl) hf
    · rw [if_neg hc9] at hf
      refine lv_aload_n hx hb dX6_viewOf_12 rfl (lv_at hl 0 rfl) ?_
      refine lv_iload_n hx hb dX6_viewOf_13 rfl (lv_at hl 1 rfl) ?_
      refine lv_iload hx hb dX6_viewOf_14 (lv_at hl 4 rfl) ?_
      refine lv_iload_n hx hb dX6_viewOf_16 rfl (lv_at hl 2 rfl) ?_
      obtain ⟨r17, hr17, hf⟩ := Option.bind_eq_some_iff.mp hf
      refine call_vi (As := [.int x1, .int x4, .int x2]) (rest := []) C Z (c_X6_canSee l hr17) mf_X6_canSee (ml_of C mw_559) rfl (oC_23 g _) rfl ⟨rfl, rfl, by decide, by decide⟩ rfl hl.1 (Nat.le_of_ble_eq_true rfl) dX6_viewOf_17 (fun H locs Z => ?_)
      refine lv_if_eq (tgt := 30) hx hb dX6_viewOf_20 (by decide) (fun hc20 => ?_) (fun hc20 => ?_)
      · rw [if_pos hc20] at hf
        refine lv_iinc (v := (x4 + 1)) (lv' := [(4, .int (x4 + 1)), (0, .ref (g.2.2 23)), (1, .int x1), (2, .int x2), (3, .int x3)]) hx hb dX6_viewOf_30 hl (k := 4) rfl rfl (by decide) rfl (fun ls hl => ?_)
        refine lv_goto (tgt := 5) hx hb dX6_viewOf_33 (by decide) ?_
        exact ih _ _ _ _ _ Z (lv_sub hl [1, 2, 3, 4, 0] rfl) hf
      · rw [if_neg hc20] at hf
        refine lv_iload_n hx hb dX6_viewOf_23 rfl (lv_at hl 3 rfl) ?_
        refine lv_iconst (v := 1) hx hb dX6_viewOf_24 (by decide +kernel) ?_
        refine lv_iload hx hb dX6_viewOf_25 (lv_at hl 4 rfl) ?_
        refine lv_ishl hx hb dX6_viewOf_27 ?_
        refine lv_ior hx hb dX6_viewOf_28 ?_
        refine lv_istore_n (lv' := [(3, .int (x3 ||| (1 <<< (x4 &&& 31)))), (0, .ref (g.2.2 23)), (1, .int x1), (2, .int x2), (4, .int x4)]) hx hb dX6_viewOf_29 rfl hl (by decide) rfl (fun ls hl => ?_)
        refine lv_iinc (v := (x4 + 1)) (lv' := [(4, .int (x4 + 1)), (3, .int (x3 ||| (1 <<< (x4 &&& 31)))), (0, .ref (g.2.2 23)), (1, .int x1), (2, .int x2)]) hx hb dX6_viewOf_30 hl (k := 4) rfl rfl (by decide) rfl (fun ls hl => ?_)
        refine lv_goto (tgt := 5) hx hb dX6_viewOf_33 (by decide) ?_
        exact ih _ _ _ _ _ Z (lv_sub hl [2, 3, 4, 1, 0] rfl) hf
def f_X6_viewOf (u : St) (x1 x2 : Int32) : Option (Int32) :=
  L_X6_viewOf_5 (fun x3 x4 =>
    some x3) u x1 x2 FU 0 0
set_option maxHeartbeats 4000000 in
set_option maxRecDepth 100000 in
theorem c_X6_viewOf (l : Launch) {g : Gx} {u : St} {x1 x2 : Int32} {res : Int32} (hf : f_X6_viewOf u x1 x2 = some res) : CI wC 82 l yX6_viewOf (wsY yX6_viewOf cX6_viewOf 5 (some .int)) (rmX 3 77) g [.ref (g.2.2 23), .int x1, .int x2] u res u := by
  refine CI_start (by decide +kernel) rfl (Nat.le_of_ble_eq_true rfl) (fun {p e s m args below meth c ls} C Z hl => ?_)
  have hl : lv_has ls 5 [(0, .ref (g.2.2 23)), (1, .int x1), (2, .int x2)] := hl
  have hx := C.1
  have hb := C.2.1
  unfold f_X6_viewOf at hf
  refine lv_iconst (v := 0) hx hb dX6_viewOf_0 (by decide +kernel) ?_
  refine lv_istore_n (lv' := [(3, .int 0), (0, .ref (g.2.2 23)), (1, .int x1), (2, .int x2)]) hx hb dX6_viewOf_1 rfl hl (by decide) rfl (fun ls hl => ?_)
  refine lv_iconst (v := 0) hx hb dX6_viewOf_2 (by decide +kernel) ?_
  refine lv_istore (lv' := [(4, .int 0), (3, .int 0), (0, .ref (g.2.2 23)), (1, .int x1), (2, .int x2)]) hx hb dX6_viewOf_3 hl (by decide) rfl (fun ls hl => ?_)
  refine b_X6_viewOf_5 C (fun x3 x4 H locs ls Z hl hf => ?_) FU _ _ _ _ _ Z (lv_sub hl [2, 3, 4, 1, 0] rfl) hf
  refine lv_iload_n hx hb dX6_viewOf_36 rfl (lv_at hl 0 rfl) ?_
  have hf := Option.some.inj hf
  subst hf
  exact ret_i C Z dX6_viewOf_37
def f_X7_view (u : St) (x1 x2 : Int32) : Option (Int32) :=
  Option.bind (f_X7_isCock u x1) fun r2 =>
  if r2 = 0 then
    some (-1)
  else
    Option.bind (f_X7_isHour x2) fun r9 =>
    if r9 = 0 then
      some (-1)
    else
      Option.bind (f_X6_viewOf u x1 x2) fun r21 =>
      some r21
set_option maxHeartbeats 4000000 in
set_option maxRecDepth 100000 in
theorem c_X7_view (l : Launch) {g : Gx} {u : St} {x1 x2 : Int32} {res : Int32} (hf : f_X7_view u x1 x2 = some res) : CI wC 82 l yX7_view (wsY yX7_view cX7_view 3 (some .int)) (rmX 4 101) g [.ref (g.2.2 0), .int x1, .int x2] u res u := by
  refine CI_start (by decide +kernel) rfl (Nat.le_of_ble_eq_true rfl) (fun {p e s m args below meth c ls} C Z hl => ?_)
  have hl : lv_has ls 3 [(0, .ref (g.2.2 0)), (1, .int x1), (2, .int x2)] := hl
  have hx := C.1
  have hb := C.2.1
  unfold f_X7_view at hf
  refine lv_aload_n hx hb dX7_view_0 rfl (lv_at hl 0 rfl) ?_
  refine lv_iload_n hx hb dX7_view_1 rfl (lv_at hl 1 rfl) ?_
  obtain ⟨r2, hr2, hf⟩ := Option.bind_eq_some_iff.mp hf
  refine call_vi (As := [.int x1]) (rest := []) C Z (c_X7_isCock l hr2) mf_X7_isCock (ml_of C mw_462) rfl (oC_0 g _) rfl ⟨rfl, rfl, by decide, by decide⟩ rfl hl.1 (Nat.le_of_ble_eq_true rfl) dX7_view_2 (fun H locs Z => ?_)
  refine lv_if_eq (tgt := 27) hx hb dX7_view_5 (by decide) (fun hc5 => ?_) (fun hc5 => ?_)
  · rw [if_pos hc5] at hf
    refine lv_iconst (v := (-1)) hx hb dX7_view_27 (by decide +kernel) ?_
    have hf := Option.some.inj hf
    subst hf
    exact ret_i C Z dX7_view_28
  · rw [if_neg hc5] at hf
    refine lv_iload_n hx hb dX7_view_8 rfl (lv_at hl 2 rfl) ?_
    obtain ⟨r9, hr9, hf⟩ := Option.bind_eq_some_iff.mp hf
    refine call_si (As := [.int x2]) (rest := []) C Z (c_X7_isHour l hr9) mf_X7_isHour (ml_of C mw_639) rfl ⟨rfl, rfl, by decide, by decide⟩ rfl hl.1 (Nat.le_of_ble_eq_true rfl) dX7_view_9 (fun H locs Z => ?_)
    refine lv_if_eq (tgt := 27) hx hb dX7_view_12 (by decide) (fun hc12 => ?_) (fun hc12 => ?_)
    · rw [if_pos hc12] at hf
      refine lv_iconst (v := (-1)) hx hb dX7_view_27 (by decide +kernel) ?_
      have hf := Option.some.inj hf
      subst hf
      exact ret_i C Z dX7_view_28
    · rw [if_neg hc12] at hf
      refine lv_aload_n hx hb dX7_view_15 rfl (lv_at hl 0 rfl) ?_
      refine gC_0_2 C Z (fl_of C mw_307) dX7_view_16 ?_
      refine lv_iload_n hx hb dX7_view_19 rfl (lv_at hl 1 rfl) ?_
      refine lv_iload_n hx hb dX7_view_20 rfl (lv_at hl 2 rfl) ?_
      obtain ⟨r21, hr21, hf⟩ := Option.bind_eq_some_iff.mp hf
      refine call_vi (As := [.int x1, .int x2]) (rest := []) C Z (c_X6_viewOf l hr21) mf_X6_viewOf (ml_nest C nw_51) rfl (oC_23 g _) rfl ⟨rfl, rfl, by decide, by decide⟩ rfl hl.1 (Nat.le_of_ble_eq_true rfl) dX7_view_21 (fun H locs Z => ?_)
      refine lv_goto (tgt := 28) hx hb dX7_view_24 (by decide) ?_
      have hf := Option.some.inj hf
      subst hf
      exact ret_i C Z dX7_view_28
def f_X8_isHour (x0 : Int32) : Option (Int32) :=
  Option.bind (f_X8_in x0 0 29) fun r4 =>
  if nb r4 then some r4 else none
set_option maxHeartbeats 4000000 in
set_option maxRecDepth 100000 in
theorem c_X8_isHour (l : Launch) {g : Gx} {u : St} {x0 : Int32} {res : Int32} (hf : f_X8_isHour x0 = some res) : CI wM 22 l yX8_isHour (wsY yX8_isHour cX8_isHour 1 (some .boolean)) (rmX 1 22) g [.int x0] u res u := by
  refine CI_start (by decide +kernel) rfl (Nat.le_of_ble_eq_true rfl) (fun {p e s m args below meth c ls} C Z hl => ?_)
  have hl : lv_has ls 1 [(0, .int x0)] := hl
  have hx := C.1
  have hb := C.2.1
  unfold f_X8_isHour at hf
  refine lv_iload_n hx hb dX8_isHour_0 rfl (lv_at hl 0 rfl) ?_
  refine lv_iconst (v := 0) hx hb dX8_isHour_1 (by decide +kernel) ?_
  refine lv_bipush (v := 29) hx hb dX8_isHour_2 (by decide +kernel) ?_
  obtain ⟨r4, hr4, hf⟩ := Option.bind_eq_some_iff.mp hf
  refine call_si (As := [.int x0, .int 0, .int 29]) (rest := []) C Z (c_X8_in l hr4) mf_X8_in (ml_of C mw_934) rfl ⟨rfl, rfl, by decide, by decide⟩ rfl hl.1 (Nat.le_of_ble_eq_true rfl) dX8_isHour_4 (fun H locs Z => ?_)
  by_cases hn7 : nb r4 = true
  · rw [if_pos hn7] at hf
    have hf := Option.some.inj hf
    subst hf
    exact ret_z C Z hn7 dX8_isHour_7
  · rw [if_neg hn7] at hf
    cases hf
def L_X8_viewOf_5 (k : Int32 → Int32 → Option (Int32)) (u : St) (x1 x2 : Int32) : Nat → Int32 → Int32 → Option (Int32)
  | 0, _, _ => none
  | n + 1, x3, x4 =>
    if 24 ≤ x4 then
      k x3 x4
    else
      Option.bind (f_X8_sees u x1 x4 x2) fun r18 =>
      if r18 = 0 then
        L_X8_viewOf_5 k u x1 x2 n (x3 ||| 0) (x4 + 1)
      else
        L_X8_viewOf_5 k u x1 x2 n (x3 ||| (1 <<< (x4 &&& 31))) (x4 + 1)
set_option maxHeartbeats 4000000 in
set_option maxRecDepth 100000 in
theorem b_X8_viewOf_5 {p : Program} {l : Launch} {e : Env} {s : State} {m : MethodId} {args : Array Value} {below : List Frame} {meth : Method} {c : Code} {g : Gx} {u : St} {x1 x2 : Int32} {res : Int32} {k : Int32 → Int32 → Option (Int32)} (C : Cx p s m meth c args cX8_viewOf RX8 5 (some .int) 22 g)
    (hk : ∀ (x3 x4 : Int32) (H : Heap) (locs : List Loc) (ls : Array Slot), Zx wM g (Aw 22 g s.heap.size) s H locs u → lv_has ls 5 [(3, .int x3)] → k x3 x4 = some res → W p l e (rmX 3 72) s m args below meth c H locs 0 0 (QI wM 22 g res u below args s) (F0 m 40 ls [])) :
    ∀ (n : Nat) (x3 x4 : Int32) (H : Heap) (locs : List Loc) (ls : Array Slot), Zx wM g (Aw 22 g s.heap.size) s H locs u → lv_has ls 5 [(0, .ref (g.2.2 0)), (1, .int x1), (2, .int x2), (3, .int x3), (4, .int x4)] → L_X8_viewOf_5 k u x1 x2 n x3 x4 = some res → W p l e (rmX 3 72) s m args below meth c H locs 0 0 (QI wM 22 g res u below args s) (F0 m 5 ls []) := by
  have hx := C.1
  have hb := C.2.1
  intro n
  induction n with
  | zero =>
    intro x3 x4 H locs ls Z hl hf
    rw [L_X8_viewOf_5.eq_1] at hf
    cases hf
  | succ n ih =>
    intro x3 x4 H locs ls Z hl hf
    rw [L_X8_viewOf_5.eq_2] at hf
    refine lv_iload hx hb dX8_viewOf_5 (lv_at hl 4 rfl) ?_
    refine lv_bipush (v := 24) hx hb dX8_viewOf_7 (by decide +kernel) ?_
    refine lv_icmp_ge (tgt := 40) hx hb dX8_viewOf_9 (by decide) (fun hc9 => ?_) (fun hc9 => ?_)
    · rw [if_pos hc9] at hf
      exact hk _ _ H locs ls Z (lv_sub hl [3] rfl) hf
    · rw [if_neg hc9] at hf
      refine lv_iload_n hx hb dX8_viewOf_12 rfl (lv_at hl 3 rfl) ?_
      refine lv_aload_n hx hb dX8_viewOf_13 rfl (lv_at hl 0 rfl) ?_
      refine lv_iload_n hx hb dX8_viewOf_14 rfl (lv_at hl 1 rfl) ?_
      refine lv_iload hx hb dX8_viewOf_15 (lv_at hl 4 rfl) ?_
      refine lv_iload_n hx hb dX8_viewOf_17 rfl (lv_at hl 2 rfl) ?_
      obtain ⟨r18, hr18, hf⟩ := Option.bind_eq_some_iff.mp hf
      refine call_vi (As := [.int x1, .int x4, .int x2]) (rest := [.int x3]) C Z (c_X8_sees l hr18) mf_X8_sees (ml_of C mw_1068) rfl (oM_0 g _) rfl ⟨rfl, rfl, by decide, by decide⟩ rfl hl.1 (Nat.le_of_ble_eq_true rfl) dX8_viewOf_18 (fun H locs Z => ?_)
      refine lv_if_eq (tgt := 31) hx hb dX8_viewOf_21 (by decide) (fun hc21 => ?_) (fun hc21 => ?_)
      · rw [if_pos hc21] at hf
        refine lv_iconst (v := 0) hx hb dX8_viewOf_31 (by decide +kernel) ?_
        refine lv_ior hx hb dX8_viewOf_32 ?_
        refine lv_istore_n (lv' := [(3, .int (x3 ||| 0)), (0, .ref (g.2.2 0)), (1, .int x1), (2, .int x2), (4, .int x4)]) hx hb dX8_viewOf_33 rfl hl (by decide) rfl (fun ls hl => ?_)
        refine lv_iinc (v := (x4 + 1)) (lv' := [(4, .int (x4 + 1)), (3, .int (x3 ||| 0)), (0, .ref (g.2.2 0)), (1, .int x1), (2, .int x2)]) hx hb dX8_viewOf_34 hl (k := 4) rfl rfl (by decide) rfl (fun ls hl => ?_)
        refine lv_goto (tgt := 5) hx hb dX8_viewOf_37 (by decide) ?_
        exact ih _ _ _ _ _ Z (lv_sub hl [2, 3, 4, 1, 0] rfl) hf
      · rw [if_neg hc21] at hf
        refine lv_iconst (v := 1) hx hb dX8_viewOf_24 (by decide +kernel) ?_
        refine lv_iload hx hb dX8_viewOf_25 (lv_at hl 4 rfl) ?_
        refine lv_ishl hx hb dX8_viewOf_27 ?_
        refine lv_goto (tgt := 32) hx hb dX8_viewOf_28 (by decide) ?_
        refine lv_ior hx hb dX8_viewOf_32 ?_
        refine lv_istore_n (lv' := [(3, .int (x3 ||| (1 <<< (x4 &&& 31)))), (0, .ref (g.2.2 0)), (1, .int x1), (2, .int x2), (4, .int x4)]) hx hb dX8_viewOf_33 rfl hl (by decide) rfl (fun ls hl => ?_)
        refine lv_iinc (v := (x4 + 1)) (lv' := [(4, .int (x4 + 1)), (3, .int (x3 ||| (1 <<< (x4 &&& 31)))), (0, .ref (g.2.2 0)), (1, .int x1), (2, .int x2)]) hx hb dX8_viewOf_34 hl (k := 4) rfl rfl (by decide) rfl (fun ls hl => ?_)
        refine lv_goto (tgt := 5) hx hb dX8_viewOf_37 (by decide) ?_
        exact ih _ _ _ _ _ Z (lv_sub hl [2, 3, 4, 1, 0] rfl) hf
def f_X8_viewOf (u : St) (x1 x2 : Int32) : Option (Int32) :=
  L_X8_viewOf_5 (fun x3 x4 =>
    some x3) u x1 x2 FU 0 0
set_option maxHeartbeats 4000000 in
set_option maxRecDepth 100000 in
theorem c_X8_viewOf (l : Launch) {g : Gx} {u : St} {x1 x2 : Int32} {res : Int32} (hf : f_X8_viewOf u x1 x2 = some res) : CI wM 22 l yX8_viewOf (wsY yX8_viewOf cX8_viewOf 5 (some .int)) (rmX 3 72) g [.ref (g.2.2 0), .int x1, .int x2] u res u := by
  refine CI_start (by decide +kernel) rfl (Nat.le_of_ble_eq_true rfl) (fun {p e s m args below meth c ls} C Z hl => ?_)
  have hl : lv_has ls 5 [(0, .ref (g.2.2 0)), (1, .int x1), (2, .int x2)] := hl
  have hx := C.1
  have hb := C.2.1
  unfold f_X8_viewOf at hf
  refine lv_iconst (v := 0) hx hb dX8_viewOf_0 (by decide +kernel) ?_
  refine lv_istore_n (lv' := [(3, .int 0), (0, .ref (g.2.2 0)), (1, .int x1), (2, .int x2)]) hx hb dX8_viewOf_1 rfl hl (by decide) rfl (fun ls hl => ?_)
  refine lv_iconst (v := 0) hx hb dX8_viewOf_2 (by decide +kernel) ?_
  refine lv_istore (lv' := [(4, .int 0), (3, .int 0), (0, .ref (g.2.2 0)), (1, .int x1), (2, .int x2)]) hx hb dX8_viewOf_3 hl (by decide) rfl (fun ls hl => ?_)
  refine b_X8_viewOf_5 C (fun x3 x4 H locs ls Z hl hf => ?_) FU _ _ _ _ _ Z (lv_sub hl [2, 3, 4, 1, 0] rfl) hf
  refine lv_iload_n hx hb dX8_viewOf_40 rfl (lv_at hl 0 rfl) ?_
  have hf := Option.some.inj hf
  subst hf
  exact ret_i C Z dX8_viewOf_41
def f_X8_view (u : St) (x1 x2 : Int32) : Option (Int32) :=
  Option.bind (f_X8_isCock u x1) fun r2 =>
  if r2 = 0 then
    some (-1)
  else
    Option.bind (f_X8_isHour x2) fun r9 =>
    if r9 = 0 then
      some (-1)
    else
      Option.bind (f_X8_viewOf u x1 x2) fun r18 =>
      some r18
set_option maxHeartbeats 4000000 in
set_option maxRecDepth 100000 in
theorem c_X8_view (l : Launch) {g : Gx} {u : St} {x1 x2 : Int32} {res : Int32} (hf : f_X8_view u x1 x2 = some res) : CI wM 22 l yX8_view (wsY yX8_view cX8_view 3 (some .int)) (rmX 4 96) g [.ref (g.2.2 0), .int x1, .int x2] u res u := by
  refine CI_start (by decide +kernel) rfl (Nat.le_of_ble_eq_true rfl) (fun {p e s m args below meth c ls} C Z hl => ?_)
  have hl : lv_has ls 3 [(0, .ref (g.2.2 0)), (1, .int x1), (2, .int x2)] := hl
  have hx := C.1
  have hb := C.2.1
  unfold f_X8_view at hf
  refine lv_aload_n hx hb dX8_view_0 rfl (lv_at hl 0 rfl) ?_
  refine lv_iload_n hx hb dX8_view_1 rfl (lv_at hl 1 rfl) ?_
  obtain ⟨r2, hr2, hf⟩ := Option.bind_eq_some_iff.mp hf
  refine call_vi (As := [.int x1]) (rest := []) C Z (c_X8_isCock l hr2) mf_X8_isCock (ml_of C mw_1006) rfl (oM_0 g _) rfl ⟨rfl, rfl, by decide, by decide⟩ rfl hl.1 (Nat.le_of_ble_eq_true rfl) dX8_view_2 (fun H locs Z => ?_)
  refine lv_if_eq (tgt := 24) hx hb dX8_view_5 (by decide) (fun hc5 => ?_) (fun hc5 => ?_)
  · rw [if_pos hc5] at hf
    refine lv_iconst (v := (-1)) hx hb dX8_view_24 (by decide +kernel) ?_
    have hf := Option.some.inj hf
    subst hf
    exact ret_i C Z dX8_view_25
  · rw [if_neg hc5] at hf
    refine lv_iload_n hx hb dX8_view_8 rfl (lv_at hl 2 rfl) ?_
    obtain ⟨r9, hr9, hf⟩ := Option.bind_eq_some_iff.mp hf
    refine call_si (As := [.int x2]) (rest := []) C Z (c_X8_isHour l hr9) mf_X8_isHour (ml_of C mw_1115) rfl ⟨rfl, rfl, by decide, by decide⟩ rfl hl.1 (Nat.le_of_ble_eq_true rfl) dX8_view_9 (fun H locs Z => ?_)
    refine lv_if_eq (tgt := 24) hx hb dX8_view_12 (by decide) (fun hc12 => ?_) (fun hc12 => ?_)
    · rw [if_pos hc12] at hf
      refine lv_iconst (v := (-1)) hx hb dX8_view_24 (by decide +kernel) ?_
      have hf := Option.some.inj hf
      subst hf
      exact ret_i C Z dX8_view_25
    · rw [if_neg hc12] at hf
      refine lv_aload_n hx hb dX8_view_15 rfl (lv_at hl 0 rfl) ?_
      refine lv_iload_n hx hb dX8_view_16 rfl (lv_at hl 1 rfl) ?_
      refine lv_iload_n hx hb dX8_view_17 rfl (lv_at hl 2 rfl) ?_
      obtain ⟨r18, hr18, hf⟩ := Option.bind_eq_some_iff.mp hf
      refine call_vi (As := [.int x1, .int x2]) (rest := []) C Z (c_X8_viewOf l hr18) mf_X8_viewOf (ml_of C mw_1118) rfl (oM_0 g _) rfl ⟨rfl, rfl, by decide, by decide⟩ rfl hl.1 (Nat.le_of_ble_eq_true rfl) dX8_view_18 (fun H locs Z => ?_)
      refine lv_goto (tgt := 25) hx hb dX8_view_21 (by decide) ?_
      have hf := Option.some.inj hf
      subst hf
      exact ret_i C Z dX8_view_25
def L_X6_unseenIn_4 (k : Int32 → Int32 → Option (Int32)) (u : St) (x1 : Int32) : Nat → Int32 → Int32 → Option (Int32)
  | 0, _, _ => none
  | n + 1, x2, x3 =>
    if (u.1 7) ≤ x3 then
      k x2 x3
    else
      Option.bind (f_X3_isAsked u x3) fun r20 =>
      if r20 = 0 then
        Option.bind (f_X6_viewOf u x3 x1) fun r30 =>
        L_X6_unseenIn_4 k u x1 n (x2 ||| r30) (x3 + 1)
      else
        L_X6_unseenIn_4 k u x1 n x2 (x3 + 1)
set_option maxHeartbeats 4000000 in
set_option maxRecDepth 100000 in
theorem b_X6_unseenIn_4 {p : Program} {l : Launch} {e : Env} {s : State} {m : MethodId} {args : Array Value} {below : List Frame} {meth : Method} {c : Code} {g : Gx} {u : St} {x1 : Int32} {res : Int32} {k : Int32 → Int32 → Option (Int32)} (C : Cx p s m meth c args cX6_unseenIn RX6 4 (some .int) 82 g)
    (hk : ∀ (x2 x3 : Int32) (H : Heap) (locs : List Loc) (ls : Array Slot), Zx wC g (Aw 82 g s.heap.size) s H locs u → lv_has ls 4 [(2, .int x2)] → k x2 x3 = some res → W p l e (rmX 4 101) s m args below meth c H locs 0 0 (QI wC 82 g res u below args s) (F0 m 41 ls [])) :
    ∀ (n : Nat) (x2 x3 : Int32) (H : Heap) (locs : List Loc) (ls : Array Slot), Zx wC g (Aw 82 g s.heap.size) s H locs u → lv_has ls 4 [(0, .ref (g.2.2 23)), (1, .int x1), (2, .int x2), (3, .int x3)] → L_X6_unseenIn_4 k u x1 n x2 x3 = some res → W p l e (rmX 4 101) s m args below meth c H locs 0 0 (QI wC 82 g res u below args s) (F0 m 4 ls []) := by
  have hx := C.1
  have hb := C.2.1
  intro n
  induction n with
  | zero =>
    intro x2 x3 H locs ls Z hl hf
    rw [L_X6_unseenIn_4.eq_1] at hf
    cases hf
  | succ n ih =>
    intro x2 x3 H locs ls Z hl hf
    rw [L_X6_unseenIn_4.eq_2] at hf
    refine lv_iload_n hx hb dX6_unseenIn_4 rfl (lv_at hl 3 rfl) ?_
    refine lv_aload_n hx hb dX6_unseenIn_5 rfl (lv_at hl 0 rfl) ?_
    refine gC_23_0 C Z (fl_of C mw_253) dX6_unseenIn_6 ?_
    refine gC_24_4 C Z (fl_nest C nw_79) dX6_unseenIn_9 (x := (u.1 7)) rfl ?_
    refine lv_icmp_ge (tgt := 41) hx hb dX6_unseenIn_12 (by decide) (fun hc12 => ?_) (fun hc12 => ?_)
    · rw [if_pos hc12] at hf
      exact hk _ _ H locs ls Z (lv_sub hl [2] rfl) hf
    · rw [if_neg hc12] at hf
      refine lv_aload_n hx hb dX6_unseenIn_15 rfl (lv_at hl 0 rfl) ?_
      refine gC_23_1 C Z (fl_of C mw_256) dX6_unseenIn_16 ?_
      refine lv_iload_n hx hb dX6_unseenIn_19 rfl (lv_at hl 3 rfl) ?_
      obtain ⟨r20, hr20, hf⟩ := Option.bind_eq_some_iff.mp hf
      refine call_vi (As := [.int x3]) (rest := []) C Z (c_X3_isAsked l hr20) mf_X3_isAsked (ml_nest C nw_39) rfl (oC_42 g _) rfl ⟨rfl, rfl, by decide, by decide⟩ rfl hl.1 (Nat.le_of_ble_eq_true rfl) dX6_unseenIn_20 (fun H locs Z => ?_)
      refine lv_if_ne (tgt := 35) hx hb dX6_unseenIn_23 (by decide) (fun hc23 => ?_) (fun hc23 => ?_)
      · rw [if_neg hc23] at hf
        refine lv_iinc (v := (x3 + 1)) (lv' := [(3, .int (x3 + 1)), (0, .ref (g.2.2 23)), (1, .int x1), (2, .int x2)]) hx hb dX6_unseenIn_35 hl (k := 3) rfl rfl (by decide) rfl (fun ls hl => ?_)
        refine lv_goto (tgt := 4) hx hb dX6_unseenIn_38 (by decide) ?_
        exact ih _ _ _ _ _ Z (lv_sub hl [1, 2, 3, 0] rfl) hf
      · rw [if_pos hc23] at hf
        refine lv_iload_n hx hb dX6_unseenIn_26 rfl (lv_at hl 2 rfl) ?_
        refine lv_aload_n hx hb dX6_unseenIn_27 rfl (lv_at hl 0 rfl) ?_
        refine lv_iload_n hx hb dX6_unseenIn_28 rfl (lv_at hl 3 rfl) ?_
        refine lv_iload_n hx hb dX6_unseenIn_29 rfl (lv_at hl 1 rfl) ?_
        obtain ⟨r30, hr30, hf⟩ := Option.bind_eq_some_iff.mp hf
        refine call_vi (As := [.int x3, .int x1]) (rest := [.int x2]) C Z (c_X6_viewOf l hr30) mf_X6_viewOf (ml_of C mw_654) rfl (oC_23 g _) rfl ⟨rfl, rfl, by decide, by decide⟩ rfl hl.1 (Nat.le_of_ble_eq_true rfl) dX6_unseenIn_30 (fun H locs Z => ?_)
        refine lv_ior hx hb dX6_unseenIn_33 ?_
        refine lv_istore_n (lv' := [(2, .int (x2 ||| r30)), (0, .ref (g.2.2 23)), (1, .int x1), (3, .int x3)]) hx hb dX6_unseenIn_34 rfl hl (by decide) rfl (fun ls hl => ?_)
        refine lv_iinc (v := (x3 + 1)) (lv' := [(3, .int (x3 + 1)), (2, .int (x2 ||| r30)), (0, .ref (g.2.2 23)), (1, .int x1)]) hx hb dX6_unseenIn_35 hl (k := 3) rfl rfl (by decide) rfl (fun ls hl => ?_)
        refine lv_goto (tgt := 4) hx hb dX6_unseenIn_38 (by decide) ?_
        exact ih _ _ _ _ _ Z (lv_sub hl [2, 3, 1, 0] rfl) hf
def f_X6_unseenIn (u : St) (x1 : Int32) : Option (Int32) :=
  L_X6_unseenIn_4 (fun x2 x3 =>
    some ((x2 ^^^ (-1)) &&& 16777215)) u x1 FU 0 0
set_option maxHeartbeats 4000000 in
set_option maxRecDepth 100000 in
theorem c_X6_unseenIn (l : Launch) {g : Gx} {u : St} {x1 : Int32} {res : Int32} (hf : f_X6_unseenIn u x1 = some res) : CI wC 82 l yX6_unseenIn (wsY yX6_unseenIn cX6_unseenIn 4 (some .int)) (rmX 4 101) g [.ref (g.2.2 23), .int x1] u res u := by
  refine CI_start (by decide +kernel) rfl (Nat.le_of_ble_eq_true rfl) (fun {p e s m args below meth c ls} C Z hl => ?_)
  have hl : lv_has ls 4 [(0, .ref (g.2.2 23)), (1, .int x1)] := hl
  have hx := C.1
  have hb := C.2.1
  unfold f_X6_unseenIn at hf
  refine lv_iconst (v := 0) hx hb dX6_unseenIn_0 (by decide +kernel) ?_
  refine lv_istore_n (lv' := [(2, .int 0), (0, .ref (g.2.2 23)), (1, .int x1)]) hx hb dX6_unseenIn_1 rfl hl (by decide) rfl (fun ls hl => ?_)
  refine lv_iconst (v := 0) hx hb dX6_unseenIn_2 (by decide +kernel) ?_
  refine lv_istore_n (lv' := [(3, .int 0), (2, .int 0), (0, .ref (g.2.2 23)), (1, .int x1)]) hx hb dX6_unseenIn_3 rfl hl (by decide) rfl (fun ls hl => ?_)
  refine b_X6_unseenIn_4 C (fun x2 x3 H locs ls Z hl hf => ?_) FU _ _ _ _ _ Z (lv_sub hl [2, 3, 1, 0] rfl) hf
  refine lv_iload_n hx hb dX6_unseenIn_41 rfl (lv_at hl 0 rfl) ?_
  refine lv_iconst (v := (-1)) hx hb dX6_unseenIn_42 (by decide +kernel) ?_
  refine lv_ixor hx hb dX6_unseenIn_43 ?_
  refine lv_ldc (v := 16777215) hx hb C.2.2.2.1 (C.2.2.2.2.1 _ mw_655) dX6_unseenIn_44 ?_
  refine lv_iand hx hb dX6_unseenIn_46 ?_
  have hf := Option.some.inj hf
  subst hf
  exact ret_i C Z dX6_unseenIn_47
