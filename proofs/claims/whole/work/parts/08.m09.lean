def L_X8_diocese_32 (k : Int32 → St → Option (Int32 × St)) : Nat → Int32 → St → Option (Int32 × St)
  | 0, _, _ => none
  | n + 1, x1, u =>
    if 24 ≤ x1 then
      k x1 u
    else
      if oob x1 24 then none else
      L_X8_diocese_32 k n (x1 + 1) (sA u 13 (upd (u.2.1 13) (Int32.toNatClampNeg x1) 0))
set_option maxHeartbeats 4000000 in
set_option maxRecDepth 100000 in
theorem b_X8_diocese_32 {p : Program} {l : Launch} {e : Env} {s : State} {m : MethodId} {args : Array Value} {below : List Frame} {meth : Method} {c : Code} {g : Gx} {res : Int32 × St} {k : Int32 → St → Option (Int32 × St)} (C : Cx p s m meth c args cX8_diocese RX8 2 (some .int) 22 g)
    (hk : ∀ (x1 : Int32) (u : St) (H : Heap) (locs : List Loc) (ls : Array Slot), Zx wM g (Aw 22 g s.heap.size) s H locs u → lv_has ls 2 [(0, .ref (g.2.2 0))] → k x1 u = some res → W p l e (rmX 7 150) s m args below meth c H locs 0 0 (QI wM 22 g res.1 res.2 below args s) (F0 m 51 ls [])) :
    ∀ (n : Nat) (x1 : Int32) (u : St) (H : Heap) (locs : List Loc) (ls : Array Slot), Zx wM g (Aw 22 g s.heap.size) s H locs u → lv_has ls 2 [(0, .ref (g.2.2 0)), (1, .int x1)] → L_X8_diocese_32 k n x1 u = some res → W p l e (rmX 7 150) s m args below meth c H locs 0 0 (QI wM 22 g res.1 res.2 below args s) (F0 m 32 ls []) := by
  have hx := C.1
  have hb := C.2.1
  intro n
  induction n with
  | zero =>
    intro x1 u H locs ls Z hl hf
    rw [L_X8_diocese_32.eq_1] at hf
    cases hf
  | succ n ih =>
    intro x1 u H locs ls Z hl hf
    rw [L_X8_diocese_32.eq_2] at hf
    refine lv_iload_n hx hb dX8_diocese_32 rfl (lv_at hl 1 rfl) ?_
    refine lv_bipush (v := 24) hx hb dX8_diocese_33 (by decide +kernel) ?_
    refine lv_icmp_ge (tgt := 51) hx hb dX8_diocese_35 (by decide) (fun hc35 => ?_) (fun hc35 => ?_)
    · rw [if_pos hc35] at hf
      exact hk _ _ H locs ls Z (lv_sub hl [0] rfl) hf
    · rw [if_neg hc35] at hf
      refine lv_aload_n hx hb dX8_diocese_38 rfl (lv_at hl 0 rfl) ?_
      refine gM_0_26 C Z (fl_of C mw_843) dX8_diocese_39 ?_
      refine lv_iload_n hx hb dX8_diocese_42 rfl (lv_at hl 1 rfl) ?_
      refine lv_iconst (v := 0) hx hb dX8_diocese_43 (by decide +kernel) ?_
      by_cases ho44 : oob x1 24 = true
      · rw [if_pos ho44] at hf; cases hf
      rw [if_neg ho44] at hf
      refine r_ast C wokM Z (aM_14 g _ (f := (u.2.1 13)) rfl) ho44 rfl (sM_14 g _ _) dX8_diocese_44 (fun H locs Z => ?_)
      refine lv_iinc (v := (x1 + 1)) (lv' := [(1, .int (x1 + 1)), (0, .ref (g.2.2 0))]) hx hb dX8_diocese_45 hl (k := 1) rfl rfl (by decide) rfl (fun ls hl => ?_)
      refine lv_goto (tgt := 32) hx hb dX8_diocese_48 (by decide) ?_
      exact ih _ _ _ _ _ Z (lv_sub hl [1, 0] rfl) hf
def L_X8_diocese_55 (k : St → Option (Int32 × St)) : Nat → St → Option (Int32 × St)
  | 0, _ => none
  | n + 1, u =>
    if (u.1 8) = 0 then
      k u
    else
      if (u.1 10) = 0 then
        Option.bind (f_X8_readItem u) fun r70 =>
        L_X8_diocese_55 k n (sI r70 11 ((r70.1 11) + 1))
      else
        k u
set_option maxHeartbeats 4000000 in
set_option maxRecDepth 100000 in
theorem b_X8_diocese_55 {p : Program} {l : Launch} {e : Env} {s : State} {m : MethodId} {args : Array Value} {below : List Frame} {meth : Method} {c : Code} {g : Gx} {res : Int32 × St} {k : St → Option (Int32 × St)} (C : Cx p s m meth c args cX8_diocese RX8 2 (some .int) 22 g)
    (hk : ∀ (u : St) (H : Heap) (locs : List Loc) (ls : Array Slot), Zx wM g (Aw 22 g s.heap.size) s H locs u → lv_has ls 2 [(0, .ref (g.2.2 0))] → k u = some res → W p l e (rmX 7 150) s m args below meth c H locs 0 0 (QI wM 22 g res.1 res.2 below args s) (F0 m 86 ls [])) :
    ∀ (n : Nat) (u : St) (H : Heap) (locs : List Loc) (ls : Array Slot), Zx wM g (Aw 22 g s.heap.size) s H locs u → lv_has ls 2 [(0, .ref (g.2.2 0))] → L_X8_diocese_55 k n u = some res → W p l e (rmX 7 150) s m args below meth c H locs 0 0 (QI wM 22 g res.1 res.2 below args s) (F0 m 55 ls []) := by
  have hx := C.1
  have hb := C.2.1
  intro n
  induction n with
  | zero =>
    intro u H locs ls Z hl hf
    rw [L_X8_diocese_55.eq_1] at hf
    cases hf
  | succ n ih =>
    intro u H locs ls Z hl hf
    rw [L_X8_diocese_55.eq_2] at hf
    refine lv_aload_n hx hb dX8_diocese_55 rfl (lv_at hl 0 rfl) ?_
    refine gM_0_22 C Z (fl_of C mw_839) dX8_diocese_56 (x := (u.1 8)) rfl ?_
    refine lv_if_eq (tgt := 86) hx hb dX8_diocese_59 (by decide) (fun hc59 => ?_) (fun hc59 => ?_)
    · rw [if_pos hc59] at hf
      exact hk _ H locs ls Z (lv_sub hl [0] rfl) hf
    · rw [if_neg hc59] at hf
      refine lv_aload_n hx hb dX8_diocese_62 rfl (lv_at hl 0 rfl) ?_
      refine gM_0_24 C Z (fl_of C mw_841) dX8_diocese_63 (x := (u.1 10)) rfl ?_
      refine lv_if_ne (tgt := 86) hx hb dX8_diocese_66 (by decide) (fun hc66 => ?_) (fun hc66 => ?_)
      · rw [if_neg hc66] at hf
        exact hk _ H locs ls Z (lv_sub hl [0] rfl) hf
      · rw [if_pos hc66] at hf
        refine lv_aload_n hx hb dX8_diocese_69 rfl (lv_at hl 0 rfl) ?_
        obtain ⟨r70, hr70, hf⟩ := Option.bind_eq_some_iff.mp hf
        refine call_vv (As := []) (rest := []) C Z (c_X8_readItem l hr70) mf_X8_readItem (ml_of C mw_959) rfl (oM_0 g _) rfl ⟨rfl, rfl, by decide, by decide⟩ rfl hl.1 (Nat.le_of_ble_eq_true rfl) dX8_diocese_70 (fun H locs Z => ?_)
        refine lv_aload_n hx hb dX8_diocese_73 rfl (lv_at hl 0 rfl) ?_
        refine lv_dup hx hb dX8_diocese_74 rfl ?_
        refine gM_0_25 C Z (fl_of C mw_842) dX8_diocese_75 (x := (r70.1 11)) rfl ?_
        refine lv_iconst (v := 1) hx hb dX8_diocese_78 (by decide +kernel) ?_
        refine lv_iadd hx hb dX8_diocese_79 ?_
        refine pM_0_25 C Z (fl_of C mw_842) dX8_diocese_80 (fun H locs Z => ?_)
        refine lv_goto (tgt := 55) hx hb dX8_diocese_83 (by decide) ?_
        exact ih _ _ _ _ Z (lv_sub hl [0] rfl) hf
def f_X8_diocese (u : St) : Option (Int32 × St) :=
  L_X8_diocese_32 (fun x1 u32 =>
    Option.bind (f_X8_next u32) fun r52 =>
    L_X8_diocese_55 (fun u55 =>
      if (u55.1 10) = 0 then
        Option.bind (f_X8_settles u55) fun r102 =>
        some ((r102.1 11), r102)
      else
        some (((-10) - (u55.1 7)), u55)) FU r52) FU 0 (sI (sI (sI (sI (sI (sI u 6 0) 10 0) 11 0) 12 0) 13 0) 14 0)
set_option maxHeartbeats 4000000 in
set_option maxRecDepth 100000 in
theorem c_X8_diocese (l : Launch) {g : Gx} {u : St} {res : Int32 × St} (hf : f_X8_diocese u = some res) : CI wM 22 l yX8_diocese (wsY yX8_diocese cX8_diocese 2 (some .int)) (rmX 7 150) g [.ref (g.2.2 0)] u res.1 res.2 := by
  refine CI_start (by decide +kernel) rfl (Nat.le_of_ble_eq_true rfl) (fun {p e s m args below meth c ls} C Z hl => ?_)
  have hl : lv_has ls 2 [(0, .ref (g.2.2 0))] := hl
  have hx := C.1
  have hb := C.2.1
  unfold f_X8_diocese at hf
  refine lv_aload_n hx hb dX8_diocese_0 rfl (lv_at hl 0 rfl) ?_
  refine lv_iconst (v := 0) hx hb dX8_diocese_1 (by decide +kernel) ?_
  refine pM_0_20 C Z (fl_of C mw_837) dX8_diocese_2 (fun H locs Z => ?_)
  refine lv_aload_n hx hb dX8_diocese_5 rfl (lv_at hl 0 rfl) ?_
  refine lv_iconst (v := 0) hx hb dX8_diocese_6 (by decide +kernel) ?_
  refine pM_0_24 C Z (fl_of C mw_841) (by decide) dX8_diocese_7 (fun H locs Z => ?_)
  refine lv_aload_n hx hb dX8_diocese_10 rfl (lv_at hl 0 rfl) ?_
  refine lv_iconst (v := 0) hx hb dX8_diocese_11 (by decide +kernel) ?_
  refine pM_0_25 C Z (fl_of C mw_842) dX8_diocese_12 (fun H locs Z => ?_)
  refine lv_aload_n hx hb dX8_diocese_15 rfl (lv_at hl 0 rfl) ?_
  refine lv_iconst (v := 0) hx hb dX8_diocese_16 (by decide +kernel) ?_
  refine pM_0_27 C Z (fl_of C mw_844) dX8_diocese_17 (fun H locs Z => ?_)
  refine lv_aload_n hx hb dX8_diocese_20 rfl (lv_at hl 0 rfl) ?_
  refine lv_iconst (v := 0) hx hb dX8_diocese_21 (by decide +kernel) ?_
  refine pM_0_32 C Z (fl_of C mw_849) dX8_diocese_22 (fun H locs Z => ?_)
  refine lv_aload_n hx hb dX8_diocese_25 rfl (lv_at hl 0 rfl) ?_
  refine lv_iconst (v := 0) hx hb dX8_diocese_26 (by decide +kernel) ?_
  refine pM_0_35 C Z (fl_of C mw_852) dX8_diocese_27 (fun H locs Z => ?_)
  refine lv_iconst (v := 0) hx hb dX8_diocese_30 (by decide +kernel) ?_
  refine lv_istore_n (lv' := [(1, .int 0), (0, .ref (g.2.2 0))]) hx hb dX8_diocese_31 rfl hl (by decide) rfl (fun ls hl => ?_)
  refine b_X8_diocese_32 C (fun x1 u32 H locs ls Z hl hf => ?_) FU _ _ _ _ _ Z (lv_sub hl [1, 0] rfl) hf
  refine lv_aload_n hx hb dX8_diocese_51 rfl (lv_at hl 0 rfl) ?_
  obtain ⟨r52, hr52, hf⟩ := Option.bind_eq_some_iff.mp hf
  refine call_vv (As := []) (rest := []) C Z (c_X8_next l hr52) mf_X8_next (ml_of C mw_945) rfl (oM_0 g _) rfl ⟨rfl, rfl, by decide, by decide⟩ rfl hl.1 (Nat.le_of_ble_eq_true rfl) dX8_diocese_52 (fun H locs Z => ?_)
  refine b_X8_diocese_55 C (fun u55 H locs ls Z hl hf => ?_) FU _ _ _ _ Z (lv_sub hl [0] rfl) hf
  refine lv_aload_n hx hb dX8_diocese_86 rfl (lv_at hl 0 rfl) ?_
  refine gM_0_24 C Z (fl_of C mw_841) dX8_diocese_87 (x := (u55.1 10)) rfl ?_
  refine lv_if_eq (tgt := 101) hx hb dX8_diocese_90 (by decide) (fun hc90 => ?_) (fun hc90 => ?_)
  · rw [if_pos hc90] at hf
    refine lv_aload_n hx hb dX8_diocese_101 rfl (lv_at hl 0 rfl) ?_
    obtain ⟨r102, hr102, hf⟩ := Option.bind_eq_some_iff.mp hf
    refine call_vv (As := []) (rest := []) C Z (c_X8_settles l hr102) mf_X8_settles (ml_of C mw_991) rfl (oM_0 g _) rfl ⟨rfl, rfl, by decide, by decide⟩ rfl hl.1 (Nat.le_of_ble_eq_true rfl) dX8_diocese_102 (fun H locs Z => ?_)
    refine lv_aload_n hx hb dX8_diocese_105 rfl (lv_at hl 0 rfl) ?_
    refine gM_0_25 C Z (fl_of C mw_842) dX8_diocese_106 (x := (r102.1 11)) rfl ?_
    have hf := Option.some.inj hf
    subst hf
    exact ret_i C Z dX8_diocese_109
  · rw [if_neg hc90] at hf
    refine lv_bipush (v := (-10)) hx hb dX8_diocese_93 (by decide +kernel) ?_
    refine lv_aload_n hx hb dX8_diocese_95 rfl (lv_at hl 0 rfl) ?_
    refine gM_0_21 C Z (fl_of C mw_838) dX8_diocese_96 (x := (u55.1 7)) rfl ?_
    refine lv_isub hx hb dX8_diocese_99 ?_
    have hf := Option.some.inj hf
    subst hf
    exact ret_i C Z dX8_diocese_100
def f_X7_isCell (x0 : Int32) : Option (Int32) :=
  Option.bind (f_X7_isWithin x0 0 23) fun r4 =>
  if nb r4 then some r4 else none
set_option maxHeartbeats 4000000 in
set_option maxRecDepth 100000 in
theorem c_X7_isCell (l : Launch) {g : Gx} {u : St} {x0 : Int32} {res : Int32} (hf : f_X7_isCell x0 = some res) : CI wC 82 l yX7_isCell (wsY yX7_isCell cX7_isCell 1 (some .boolean)) (rmX 1 22) g [.int x0] u res u := by
  refine CI_start (by decide +kernel) rfl (Nat.le_of_ble_eq_true rfl) (fun {p e s m args below meth c ls} C Z hl => ?_)
  have hl : lv_has ls 1 [(0, .int x0)] := hl
  have hx := C.1
  have hb := C.2.1
  unfold f_X7_isCell at hf
  refine lv_iload_n hx hb dX7_isCell_0 rfl (lv_at hl 0 rfl) ?_
  refine lv_iconst (v := 0) hx hb dX7_isCell_1 (by decide +kernel) ?_
  refine lv_bipush (v := 23) hx hb dX7_isCell_2 (by decide +kernel) ?_
  obtain ⟨r4, hr4, hf⟩ := Option.bind_eq_some_iff.mp hf
  refine call_si (As := [.int x0, .int 0, .int 23]) (rest := []) C Z (c_X7_isWithin l hr4) mf_X7_isWithin (ml_of C mw_331) rfl ⟨rfl, rfl, by decide, by decide⟩ rfl hl.1 (Nat.le_of_ble_eq_true rfl) dX7_isCell_4 (fun H locs Z => ?_)
  by_cases hn7 : nb r4 = true
  · rw [if_pos hn7] at hf
    have hf := Option.some.inj hf
    subst hf
    exact ret_z C Z hn7 dX7_isCell_7
  · rw [if_neg hn7] at hf
    cases hf
def f_X7_roof (u : St) (x1 : Int32) : Option (Int32) :=
  Option.bind (f_X7_isCell x1) fun r1 =>
  if r1 = 0 then
    some (-1)
  else
    if oob x1 24 then none else
    some ((u.2.1 30) (Int32.toNatClampNeg x1))
set_option maxHeartbeats 4000000 in
set_option maxRecDepth 100000 in
theorem c_X7_roof (l : Launch) {g : Gx} {u : St} {x1 : Int32} {res : Int32} (hf : f_X7_roof u x1 = some res) : CI wC 82 l yX7_roof (wsY yX7_roof cX7_roof 2 (some .int)) (rmX 2 42) g [.ref (g.2.2 0), .int x1] u res u := by
  refine CI_start (by decide +kernel) rfl (Nat.le_of_ble_eq_true rfl) (fun {p e s m args below meth c ls} C Z hl => ?_)
  have hl : lv_has ls 2 [(0, .ref (g.2.2 0)), (1, .int x1)] := hl
  have hx := C.1
  have hb := C.2.1
  unfold f_X7_roof at hf
  refine lv_iload_n hx hb dX7_roof_0 rfl (lv_at hl 1 rfl) ?_
  obtain ⟨r1, hr1, hf⟩ := Option.bind_eq_some_iff.mp hf
  refine call_si (As := [.int x1]) (rest := []) C Z (c_X7_isCell l hr1) mf_X7_isCell (ml_of C mw_455) rfl ⟨rfl, rfl, by decide, by decide⟩ rfl hl.1 (Nat.le_of_ble_eq_true rfl) dX7_roof_1 (fun H locs Z => ?_)
  refine lv_if_eq (tgt := 22) hx hb dX7_roof_4 (by decide) (fun hc4 => ?_) (fun hc4 => ?_)
  · rw [if_pos hc4] at hf
    refine lv_iconst (v := (-1)) hx hb dX7_roof_22 (by decide +kernel) ?_
    have hf := Option.some.inj hf
    subst hf
    exact ret_i C Z dX7_roof_23
  · rw [if_neg hc4] at hf
    refine lv_aload_n hx hb dX7_roof_7 rfl (lv_at hl 0 rfl) ?_
    refine gC_0_2 C Z (fl_of C mw_307) dX7_roof_8 ?_
    refine gC_23_1 C Z (fl_nest C nw_100) dX7_roof_11 ?_
    refine gC_42_2 C Z (fl_nest C nw_93) dX7_roof_14 ?_
    refine lv_iload_n hx hb dX7_roof_17 rfl (lv_at hl 1 rfl) ?_
    by_cases ho18 : oob x1 24 = true
    · rw [if_pos ho18] at hf; cases hf
    rw [if_neg ho18] at hf
    refine r_ald C Z (aC_43 g _ (f := (u.2.1 30)) rfl) ho18 rfl dX7_roof_18 (x := ((u.2.1 30) (Int32.toNatClampNeg x1))) rfl ?_
    refine lv_goto (tgt := 23) hx hb dX7_roof_19 (by decide) ?_
    have hf := Option.some.inj hf
    subst hf
    exact ret_i C Z dX7_roof_23
def f_X8_isCell (x0 : Int32) : Option (Int32) :=
  Option.bind (f_X8_in x0 0 23) fun r4 =>
  if nb r4 then some r4 else none
set_option maxHeartbeats 4000000 in
set_option maxRecDepth 100000 in
theorem c_X8_isCell (l : Launch) {g : Gx} {u : St} {x0 : Int32} {res : Int32} (hf : f_X8_isCell x0 = some res) : CI wM 22 l yX8_isCell (wsY yX8_isCell cX8_isCell 1 (some .boolean)) (rmX 1 22) g [.int x0] u res u := by
  refine CI_start (by decide +kernel) rfl (Nat.le_of_ble_eq_true rfl) (fun {p e s m args below meth c ls} C Z hl => ?_)
  have hl : lv_has ls 1 [(0, .int x0)] := hl
  have hx := C.1
  have hb := C.2.1
  unfold f_X8_isCell at hf
  refine lv_iload_n hx hb dX8_isCell_0 rfl (lv_at hl 0 rfl) ?_
  refine lv_iconst (v := 0) hx hb dX8_isCell_1 (by decide +kernel) ?_
  refine lv_bipush (v := 23) hx hb dX8_isCell_2 (by decide +kernel) ?_
  obtain ⟨r4, hr4, hf⟩ := Option.bind_eq_some_iff.mp hf
  refine call_si (As := [.int x0, .int 0, .int 23]) (rest := []) C Z (c_X8_in l hr4) mf_X8_in (ml_of C mw_934) rfl ⟨rfl, rfl, by decide, by decide⟩ rfl hl.1 (Nat.le_of_ble_eq_true rfl) dX8_isCell_4 (fun H locs Z => ?_)
  by_cases hn7 : nb r4 = true
  · rw [if_pos hn7] at hf
    have hf := Option.some.inj hf
    subst hf
    exact ret_z C Z hn7 dX8_isCell_7
  · rw [if_neg hn7] at hf
    cases hf
def f_X8_roof (u : St) (x1 : Int32) : Option (Int32) :=
  Option.bind (f_X8_isCell x1) fun r1 =>
  if r1 = 0 then
    some (-1)
  else
    if oob (1 + x1) 507 then none else
    some ((u.2.1 7) (Int32.toNatClampNeg (1 + x1)))
set_option maxHeartbeats 4000000 in
set_option maxRecDepth 100000 in
theorem c_X8_roof (l : Launch) {g : Gx} {u : St} {x1 : Int32} {res : Int32} (hf : f_X8_roof u x1 = some res) : CI wM 22 l yX8_roof (wsY yX8_roof cX8_roof 2 (some .int)) (rmX 2 42) g [.ref (g.2.2 0), .int x1] u res u := by
  refine CI_start (by decide +kernel) rfl (Nat.le_of_ble_eq_true rfl) (fun {p e s m args below meth c ls} C Z hl => ?_)
  have hl : lv_has ls 2 [(0, .ref (g.2.2 0)), (1, .int x1)] := hl
  have hx := C.1
  have hb := C.2.1
  unfold f_X8_roof at hf
  refine lv_iload_n hx hb dX8_roof_0 rfl (lv_at hl 1 rfl) ?_
  obtain ⟨r1, hr1, hf⟩ := Option.bind_eq_some_iff.mp hf
  refine call_si (As := [.int x1]) (rest := []) C Z (c_X8_isCell l hr1) mf_X8_isCell (ml_of C mw_999) rfl ⟨rfl, rfl, by decide, by decide⟩ rfl hl.1 (Nat.le_of_ble_eq_true rfl) dX8_roof_1 (fun H locs Z => ?_)
  refine lv_if_eq (tgt := 18) hx hb dX8_roof_4 (by decide) (fun hc4 => ?_) (fun hc4 => ?_)
  · rw [if_pos hc4] at hf
    refine lv_iconst (v := (-1)) hx hb dX8_roof_18 (by decide +kernel) ?_
    have hf := Option.some.inj hf
    subst hf
    exact ret_i C Z dX8_roof_19
  · rw [if_neg hc4] at hf
    refine lv_aload_n hx hb dX8_roof_7 rfl (lv_at hl 0 rfl) ?_
    refine gM_0_10 C Z (fl_of C mw_827) dX8_roof_8 ?_
    refine lv_iconst (v := 1) hx hb dX8_roof_11 (by decide +kernel) ?_
    refine lv_iload_n hx hb dX8_roof_12 rfl (lv_at hl 1 rfl) ?_
    refine lv_iadd hx hb dX8_roof_13 ?_
    by_cases ho14 : oob (1 + x1) 507 = true
    · rw [if_pos ho14] at hf; cases hf
    rw [if_neg ho14] at hf
    refine r_ald C Z (aM_8 g _ (f := (u.2.1 7)) rfl) ho14 rfl dX8_roof_14 (x := ((u.2.1 7) (Int32.toNatClampNeg (1 + x1)))) rfl ?_
    refine lv_goto (tgt := 19) hx hb dX8_roof_15 (by decide) ?_
    have hf := Option.some.inj hf
    subst hf
    exact ret_i C Z dX8_roof_19
def f_X7_isCock (u : St) (x1 : Int32) : Option (Int32) :=
  Option.bind (f_X7_isWithin x1 0 ((u.1 7) - 1)) fun r14 =>
  if nb r14 then some r14 else none
set_option maxHeartbeats 4000000 in
set_option maxRecDepth 100000 in
theorem c_X7_isCock (l : Launch) {g : Gx} {u : St} {x1 : Int32} {res : Int32} (hf : f_X7_isCock u x1 = some res) : CI wC 82 l yX7_isCock (wsY yX7_isCock cX7_isCock 2 (some .boolean)) (rmX 1 22) g [.ref (g.2.2 0), .int x1] u res u := by
  refine CI_start (by decide +kernel) rfl (Nat.le_of_ble_eq_true rfl) (fun {p e s m args below meth c ls} C Z hl => ?_)
  have hl : lv_has ls 2 [(0, .ref (g.2.2 0)), (1, .int x1)] := hl
  have hx := C.1
  have hb := C.2.1
  unfold f_X7_isCock at hf
  refine lv_iload_n hx hb dX7_isCock_0 rfl (lv_at hl 1 rfl) ?_
  refine lv_iconst (v := 0) hx hb dX7_isCock_1 (by decide +kernel) ?_
  refine lv_aload_n hx hb dX7_isCock_2 rfl (lv_at hl 0 rfl) ?_
  refine gC_0_2 C Z (fl_of C mw_307) dX7_isCock_3 ?_
  refine gC_23_0 C Z (fl_nest C nw_98) dX7_isCock_6 ?_
  refine gC_24_4 C Z (fl_nest C nw_80) dX7_isCock_9 (x := (u.1 7)) rfl ?_
  refine lv_iconst (v := 1) hx hb dX7_isCock_12 (by decide +kernel) ?_
  refine lv_isub hx hb dX7_isCock_13 ?_
  obtain ⟨r14, hr14, hf⟩ := Option.bind_eq_some_iff.mp hf
  refine call_si (As := [.int x1, .int 0, .int ((u.1 7) - 1)]) (rest := []) C Z (c_X7_isWithin l hr14) mf_X7_isWithin (ml_of C mw_331) rfl ⟨rfl, rfl, by decide, by decide⟩ rfl hl.1 (Nat.le_of_ble_eq_true rfl) dX7_isCock_14 (fun H locs Z => ?_)
  by_cases hn17 : nb r14 = true
  · rw [if_pos hn17] at hf
    have hf := Option.some.inj hf
    subst hf
    exact ret_z C Z hn17 dX7_isCock_17
  · rw [if_neg hn17] at hf
    cases hf
def f_X6_eyeOf (u : St) (x1 : Int32) : Option (Int32) :=
  if oob x1 5 then none else
  if oob ((u.2.1 (17 + (Int32.toNatClampNeg x1))) 0) 24 then none else
  some (((u.2.1 30) (Int32.toNatClampNeg ((u.2.1 (17 + (Int32.toNatClampNeg x1))) 0))) + ((u.2.1 (17 + (Int32.toNatClampNeg x1))) 1))
set_option maxHeartbeats 4000000 in
set_option maxRecDepth 100000 in
theorem c_X6_eyeOf (l : Launch) {g : Gx} {u : St} {x1 : Int32} {res : Int32} (hf : f_X6_eyeOf u x1 = some res) : CI wC 82 l yX6_eyeOf (wsY yX6_eyeOf cX6_eyeOf 2 (some .int)) (rmX 0 0) g [.ref (g.2.2 23), .int x1] u res u := by
  refine CI_start (by decide +kernel) rfl (Nat.le_of_ble_eq_true rfl) (fun {p e s m args below meth c ls} C Z hl => ?_)
  have hl : lv_has ls 2 [(0, .ref (g.2.2 23)), (1, .int x1)] := hl
  have hx := C.1
  have hb := C.2.1
  unfold f_X6_eyeOf at hf
  refine lv_aload_n hx hb dX6_eyeOf_0 rfl (lv_at hl 0 rfl) ?_
  refine gC_23_1 C Z (fl_of C mw_256) dX6_eyeOf_1 ?_
  refine gC_42_2 C Z (fl_nest C nw_92) dX6_eyeOf_4 ?_
  refine lv_aload_n hx hb dX6_eyeOf_7 rfl (lv_at hl 0 rfl) ?_
  refine gC_23_0 C Z (fl_of C mw_253) dX6_eyeOf_8 ?_
  refine gC_24_1 C Z (fl_nest C nw_74) dX6_eyeOf_11 ?_
  refine lv_iload_n hx hb dX6_eyeOf_14 rfl (lv_at hl 1 rfl) ?_
  by_cases ho15 : oob x1 5 = true
  · rw [if_pos ho15] at hf; cases hf
  rw [if_neg ho15] at hf
  refine r_aldr C Z (aC_26 g _) ho15 dX6_eyeOf_15 (b := g.2.2 (27 + (Int32.toNatClampNeg x1))) rfl ?_
  refine lv_iconst (v := 0) hx hb dX6_eyeOf_16 (by decide +kernel) ?_
  refine r_ald C Z (arC_26 g _ (oob_lt ho15) (f := (u.2.1 (17 + (Int32.toNatClampNeg x1)))) rfl) (by decide) (k := 0) (by decide) dX6_eyeOf_17 (x := ((u.2.1 (17 + (Int32.toNatClampNeg x1))) 0)) rfl ?_
  by_cases ho18 : oob ((u.2.1 (17 + (Int32.toNatClampNeg x1))) 0) 24 = true
  · rw [if_pos ho18] at hf; cases hf
  rw [if_neg ho18] at hf
  refine r_ald C Z (aC_43 g _ (f := (u.2.1 30)) rfl) ho18 rfl dX6_eyeOf_18 (x := ((u.2.1 30) (Int32.toNatClampNeg ((u.2.1 (17 + (Int32.toNatClampNeg x1))) 0)))) rfl ?_
  refine lv_aload_n hx hb dX6_eyeOf_19 rfl (lv_at hl 0 rfl) ?_
  refine gC_23_0 C Z (fl_of C mw_253) dX6_eyeOf_20 ?_
  refine gC_24_1 C Z (fl_nest C nw_74) dX6_eyeOf_23 ?_
  refine lv_iload_n hx hb dX6_eyeOf_26 rfl (lv_at hl 1 rfl) ?_
  refine r_aldr C Z (aC_26 g _) ho15 dX6_eyeOf_27 (b := g.2.2 (27 + (Int32.toNatClampNeg x1))) rfl ?_
  refine lv_iconst (v := 1) hx hb dX6_eyeOf_28 (by decide +kernel) ?_
  refine r_ald C Z (arC_26 g _ (oob_lt ho15) (f := (u.2.1 (17 + (Int32.toNatClampNeg x1)))) rfl) (by decide) (k := 1) (by decide) dX6_eyeOf_29 (x := ((u.2.1 (17 + (Int32.toNatClampNeg x1))) 1)) rfl ?_
  refine lv_iadd hx hb dX6_eyeOf_30 ?_
  have hf := Option.some.inj hf
  subst hf
  exact ret_i C Z dX6_eyeOf_31
def f_X7_sideBy (x0 x1 x2 : Int32) : Option (Int32) :=
  if 0 < x1 then
    if x1 = 0 then none else
    if ((x2 / x1) - ((x2 / x1) / 2) * 2) = 1 then
      some (1 - x0)
    else
      some x0
  else
    some x0
set_option maxHeartbeats 4000000 in
set_option maxRecDepth 100000 in
theorem c_X7_sideBy (l : Launch) {g : Gx} {u : St} {x0 x1 x2 : Int32} {res : Int32} (hf : f_X7_sideBy x0 x1 x2 = some res) : CI wC 82 l yX7_sideBy (wsY yX7_sideBy cX7_sideBy 4 (some .int)) (rmX 0 0) g [.int x0, .int x1, .int x2] u res u := by
  refine CI_start (by decide +kernel) rfl (Nat.le_of_ble_eq_true rfl) (fun {p e s m args below meth c ls} C Z hl => ?_)
  have hl : lv_has ls 4 [(0, .int x0), (1, .int x1), (2, .int x2)] := hl
  have hx := C.1
  have hb := C.2.1
  unfold f_X7_sideBy at hf
  refine lv_iload_n hx hb dX7_sideBy_0 rfl (lv_at hl 1 rfl) ?_
  refine lv_if_gt (tgt := 6) hx hb dX7_sideBy_1 (by decide) (fun hc1 => ?_) (fun hc1 => ?_)
  · rw [if_pos hc1] at hf
    refine lv_iload_n hx hb dX7_sideBy_6 rfl (lv_at hl 2 rfl) ?_
    refine lv_iload_n hx hb dX7_sideBy_7 rfl (lv_at hl 1 rfl) ?_
    by_cases hz8 : x1 = 0
    · rw [if_pos hz8] at hf; cases hf
    rw [if_neg hz8] at hf
    refine lv_idiv hx hb dX7_sideBy_8 hz8 ?_
    refine lv_iconst (v := 2) hx hb dX7_sideBy_9 (by decide +kernel) ?_
    refine lv_irem hx hb dX7_sideBy_10 (by decide) ?_
    refine lv_iconst (v := 1) hx hb dX7_sideBy_11 (by decide +kernel) ?_
    refine lv_icmp_ne (tgt := 19) hx hb dX7_sideBy_12 (by decide) (fun hc12 => ?_) (fun hc12 => ?_)
    · rw [if_neg hc12] at hf
      refine lv_iconst (v := 0) hx hb dX7_sideBy_19 (by decide +kernel) ?_
      refine lv_istore_n (lv' := [(3, .int 0), (0, .int x0), (1, .int x1), (2, .int x2)]) hx hb dX7_sideBy_20 rfl hl (by decide) rfl (fun ls hl => ?_)
      refine lv_iload_n hx hb dX7_sideBy_21 rfl (lv_at hl 0 rfl) ?_
      refine lv_if_eq (tgt := 31) hx hb dX7_sideBy_22 (by decide) (fun _ => ?_) (fun hq => absurd (by decide) hq)
      refine lv_iload_n hx hb dX7_sideBy_31 rfl (lv_at hl 1 rfl) ?_
      have hf := Option.some.inj hf
      subst hf
      exact ret_i C Z dX7_sideBy_32
    · rw [if_pos hc12] at hf
      refine lv_iconst (v := 1) hx hb dX7_sideBy_15 (by decide +kernel) ?_
      refine lv_goto (tgt := 20) hx hb dX7_sideBy_16 (by decide) ?_
      refine lv_istore_n (lv' := [(3, .int 1), (0, .int x0), (1, .int x1), (2, .int x2)]) hx hb dX7_sideBy_20 rfl hl (by decide) rfl (fun ls hl => ?_)
      refine lv_iload_n hx hb dX7_sideBy_21 rfl (lv_at hl 0 rfl) ?_
      refine lv_if_eq (tgt := 31) hx hb dX7_sideBy_22 (by decide) (fun hq => absurd hq (by decide)) (fun _ => ?_)
      refine lv_iconst (v := 1) hx hb dX7_sideBy_25 (by decide +kernel) ?_
      refine lv_iload_n hx hb dX7_sideBy_26 rfl (lv_at hl 1 rfl) ?_
      refine lv_isub hx hb dX7_sideBy_27 ?_
      refine lv_goto (tgt := 32) hx hb dX7_sideBy_28 (by decide) ?_
      have hf := Option.some.inj hf
      subst hf
      exact ret_i C Z dX7_sideBy_32
  · rw [if_neg hc1] at hf
    refine lv_iload_n hx hb dX7_sideBy_4 rfl (lv_at hl 0 rfl) ?_
    have hf := Option.some.inj hf
    subst hf
    exact ret_i C Z dX7_sideBy_5
def f_X1_sideOf (u : St) (x1 x2 : Int32) : Option (Int32) :=
  if oob x1 5 then none else
  Option.bind (f_X7_sideBy ((u.2.1 (17 + (Int32.toNatClampNeg x1))) 2) ((u.2.1 (17 + (Int32.toNatClampNeg x1))) 3) x2) fun r17 =>
  some r17
set_option maxHeartbeats 4000000 in
set_option maxRecDepth 100000 in
theorem c_X1_sideOf (l : Launch) {g : Gx} {u : St} {x1 x2 : Int32} {res : Int32} (hf : f_X1_sideOf u x1 x2 = some res) : CI wC 82 l yX1_sideOf (wsY yX1_sideOf cX1_sideOf 3 (some .int)) (rmX 1 23) g [.ref (g.2.2 24), .int x1, .int x2] u res u := by
  refine CI_start (by decide +kernel) rfl (Nat.le_of_ble_eq_true rfl) (fun {p e s m args below meth c ls} C Z hl => ?_)
  have hl : lv_has ls 3 [(0, .ref (g.2.2 24)), (1, .int x1), (2, .int x2)] := hl
  have hx := C.1
  have hb := C.2.1
  unfold f_X1_sideOf at hf
  refine lv_aload_n hx hb dX1_sideOf_0 rfl (lv_at hl 0 rfl) ?_
  refine gC_24_1 C Z (fl_of C mw_162) dX1_sideOf_1 ?_
  refine lv_iload_n hx hb dX1_sideOf_4 rfl (lv_at hl 1 rfl) ?_
  by_cases ho5 : oob x1 5 = true
  · rw [if_pos ho5] at hf; cases hf
  rw [if_neg ho5] at hf
  refine r_aldr C Z (aC_26 g _) ho5 dX1_sideOf_5 (b := g.2.2 (27 + (Int32.toNatClampNeg x1))) rfl ?_
  refine lv_iconst (v := 2) hx hb dX1_sideOf_6 (by decide +kernel) ?_
  refine r_ald C Z (arC_26 g _ (oob_lt ho5) (f := (u.2.1 (17 + (Int32.toNatClampNeg x1)))) rfl) (by decide) (k := 2) (by decide) dX1_sideOf_7 (x := ((u.2.1 (17 + (Int32.toNatClampNeg x1))) 2)) rfl ?_
  refine lv_aload_n hx hb dX1_sideOf_8 rfl (lv_at hl 0 rfl) ?_
  refine gC_24_1 C Z (fl_of C mw_162) dX1_sideOf_9 ?_
  refine lv_iload_n hx hb dX1_sideOf_12 rfl (lv_at hl 1 rfl) ?_
  refine r_aldr C Z (aC_26 g _) ho5 dX1_sideOf_13 (b := g.2.2 (27 + (Int32.toNatClampNeg x1))) rfl ?_
  refine lv_iconst (v := 3) hx hb dX1_sideOf_14 (by decide +kernel) ?_
  refine r_ald C Z (arC_26 g _ (oob_lt ho5) (f := (u.2.1 (17 + (Int32.toNatClampNeg x1)))) rfl) (by decide) (k := 3) (by decide) dX1_sideOf_15 (x := ((u.2.1 (17 + (Int32.toNatClampNeg x1))) 3)) rfl ?_
  refine lv_iload_n hx hb dX1_sideOf_16 rfl (lv_at hl 2 rfl) ?_
  obtain ⟨r17, hr17, hf⟩ := Option.bind_eq_some_iff.mp hf
  refine call_si (As := [.int ((u.2.1 (17 + (Int32.toNatClampNeg x1))) 2), .int ((u.2.1 (17 + (Int32.toNatClampNeg x1))) 3), .int x2]) (rest := []) C Z (c_X7_sideBy l hr17) mf_X7_sideBy (ml_nest C nw_26) rfl ⟨rfl, rfl, by decide, by decide⟩ rfl hl.1 (Nat.le_of_ble_eq_true rfl) dX1_sideOf_17 (fun H locs Z => ?_)
  have hf := Option.some.inj hf
  subst hf
  exact ret_i C Z dX1_sideOf_20
