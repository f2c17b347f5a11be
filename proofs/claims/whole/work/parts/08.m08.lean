def f_X8_readItem (u : St) : Option (St) :=
  if (u.1 8) = 1 then
    Option.bind (f_X8_mayBegin u (u.1 9)) fun r15 =>
    if r15 = 0 then
      some (sI u 10 1)
    else
      Option.bind (f_X8_next u) fun r28 =>
      Option.bind (f_X8_readBody r28 (u.1 9)) fun r33 =>
      if (r33.1 10) = 0 then
        if (r33.1 8) = 3 then
          Option.bind (f_X8_next (sI r33 10 0)) fun r68 =>
          some r68
        else
          some (sI r33 10 1)
      else
        some (sI r33 10 1)
  else
    some (sI u 10 1)
set_option maxHeartbeats 4000000 in
set_option maxRecDepth 100000 in
theorem c_X8_readItem (l : Launch) {g : Gx} {u : St} {res : St} (hf : f_X8_readItem u = some res) : CV wM 22 l yX8_readItem (wsY yX8_readItem cX8_readItem 2 (none)) (rmX 6 129) g [.ref (g.2.2 0)] u res := by
  refine CV_start (by decide +kernel) rfl (Nat.le_of_ble_eq_true rfl) (fun {p e s m args below meth c ls} C Z hl => ?_)
  have hl : lv_has ls 2 [(0, .ref (g.2.2 0))] := hl
  have hx := C.1
  have hb := C.2.1
  unfold f_X8_readItem at hf
  refine lv_aload_n hx hb dX8_readItem_0 rfl (lv_at hl 0 rfl) ?_
  refine gM_0_23 C Z (fl_of C mw_840) dX8_readItem_1 (x := (u.1 9)) rfl ?_
  refine lv_istore_n (lv' := [(1, .int (u.1 9)), (0, .ref (g.2.2 0))]) hx hb dX8_readItem_4 rfl hl (by decide) rfl (fun ls hl => ?_)
  refine lv_aload_n hx hb dX8_readItem_5 rfl (lv_at hl 1 rfl) ?_
  refine gM_0_22 C Z (fl_of C mw_839) dX8_readItem_6 (x := (u.1 8)) rfl ?_
  refine lv_iconst (v := 1) hx hb dX8_readItem_9 (by decide +kernel) ?_
  refine lv_icmp_ne (tgt := 21) hx hb dX8_readItem_10 (by decide) (fun hc10 => ?_) (fun hc10 => ?_)
  · rw [if_neg hc10] at hf
    refine lv_aload_n hx hb dX8_readItem_21 rfl (lv_at hl 1 rfl) ?_
    refine lv_iconst (v := 1) hx hb dX8_readItem_22 (by decide +kernel) ?_
    refine pM_0_24 C Z (fl_of C mw_841) (by decide) dX8_readItem_23 (fun H locs Z => ?_)
    have hf := Option.some.inj hf
    subst hf
    exact ret_v C Z dX8_readItem_26
  · rw [if_pos hc10] at hf
    refine lv_aload_n hx hb dX8_readItem_13 rfl (lv_at hl 1 rfl) ?_
    refine lv_iload_n hx hb dX8_readItem_14 rfl (lv_at hl 0 rfl) ?_
    obtain ⟨r15, hr15, hf⟩ := Option.bind_eq_some_iff.mp hf
    refine call_vi (As := [.int (u.1 9)]) (rest := []) C Z (c_X8_mayBegin l hr15) mf_X8_mayBegin (ml_of C mw_963) rfl (oM_0 g _) rfl ⟨rfl, rfl, by decide, by decide⟩ rfl hl.1 (Nat.le_of_ble_eq_true rfl) dX8_readItem_15 (fun H locs Z => ?_)
    refine lv_if_ne (tgt := 27) hx hb dX8_readItem_18 (by decide) (fun hc18 => ?_) (fun hc18 => ?_)
    · rw [if_neg hc18] at hf
      refine lv_aload_n hx hb dX8_readItem_27 rfl (lv_at hl 1 rfl) ?_
      obtain ⟨r28, hr28, hf⟩ := Option.bind_eq_some_iff.mp hf
      refine call_vv (As := []) (rest := []) C Z (c_X8_next l hr28) mf_X8_next (ml_of C mw_945) rfl (oM_0 g _) rfl ⟨rfl, rfl, by decide, by decide⟩ rfl hl.1 (Nat.le_of_ble_eq_true rfl) dX8_readItem_28 (fun H locs Z => ?_)
      refine lv_aload_n hx hb dX8_readItem_31 rfl (lv_at hl 1 rfl) ?_
      refine lv_iload_n hx hb dX8_readItem_32 rfl (lv_at hl 0 rfl) ?_
      obtain ⟨r33, hr33, hf⟩ := Option.bind_eq_some_iff.mp hf
      refine call_vv (As := [.int (u.1 9)]) (rest := []) C Z (c_X8_readBody l hr33) mf_X8_readBody (ml_of C mw_967) rfl (oM_0 g _) rfl ⟨rfl, rfl, by decide, by decide⟩ rfl hl.1 (Nat.le_of_ble_eq_true rfl) dX8_readItem_33 (fun H locs Z => ?_)
      refine lv_aload_n hx hb dX8_readItem_36 rfl (lv_at hl 1 rfl) ?_
      refine lv_aload_n hx hb dX8_readItem_37 rfl (lv_at hl 1 rfl) ?_
      refine gM_0_24 C Z (fl_of C mw_841) dX8_readItem_38 (x := (r33.1 10)) rfl ?_
      refine lv_if_ne (tgt := 52) hx hb dX8_readItem_41 (by decide) (fun hc41 => ?_) (fun hc41 => ?_)
      · rw [if_neg hc41] at hf
        refine lv_iconst (v := 1) hx hb dX8_readItem_52 (by decide +kernel) ?_
        refine lv_goto (tgt := 57) hx hb dX8_readItem_53 (by decide) ?_
        refine pM_0_24 C Z (fl_of C mw_841) (by decide) dX8_readItem_57 (fun H locs Z => ?_)
        refine lv_aload_n hx hb dX8_readItem_60 rfl (lv_at hl 1 rfl) ?_
        refine gM_0_24 C Z (fl_of C mw_841) dX8_readItem_61 (x := 1) rfl ?_
        refine lv_if_ne (tgt := 71) hx hb dX8_readItem_64 (by decide) (fun _ => ?_) (fun hq => absurd hq (by decide))
        have hf := Option.some.inj hf
        subst hf
        exact ret_v C Z dX8_readItem_71
      · rw [if_pos hc41] at hf
        refine lv_aload_n hx hb dX8_readItem_44 rfl (lv_at hl 1 rfl) ?_
        refine gM_0_22 C Z (fl_of C mw_839) dX8_readItem_45 (x := (r33.1 8)) rfl ?_
        refine lv_iconst (v := 3) hx hb dX8_readItem_48 (by decide +kernel) ?_
        refine lv_icmp_eq (tgt := 56) hx hb dX8_readItem_49 (by decide) (fun hc49 => ?_) (fun hc49 => ?_)
        · rw [if_pos hc49] at hf
          refine lv_iconst (v := 0) hx hb dX8_readItem_56 (by decide +kernel) ?_
          refine pM_0_24 C Z (fl_of C mw_841) (by decide) dX8_readItem_57 (fun H locs Z => ?_)
          refine lv_aload_n hx hb dX8_readItem_60 rfl (lv_at hl 1 rfl) ?_
          refine gM_0_24 C Z (fl_of C mw_841) dX8_readItem_61 (x := 0) rfl ?_
          refine lv_if_ne (tgt := 71) hx hb dX8_readItem_64 (by decide) (fun hq => absurd hq (by decide)) (fun _ => ?_)
          refine lv_aload_n hx hb dX8_readItem_67 rfl (lv_at hl 1 rfl) ?_
          obtain ⟨r68, hr68, hf⟩ := Option.bind_eq_some_iff.mp hf
          refine call_vv (As := []) (rest := []) C Z (c_X8_next l hr68) mf_X8_next (ml_of C mw_945) rfl (oM_0 g _) rfl ⟨rfl, rfl, by decide, by decide⟩ rfl hl.1 (Nat.le_of_ble_eq_true rfl) dX8_readItem_68 (fun H locs Z => ?_)
          have hf := Option.some.inj hf
          subst hf
          exact ret_v C Z dX8_readItem_71
        · rw [if_neg hc49] at hf
          refine lv_iconst (v := 1) hx hb dX8_readItem_52 (by decide +kernel) ?_
          refine lv_goto (tgt := 57) hx hb dX8_readItem_53 (by decide) ?_
          refine pM_0_24 C Z (fl_of C mw_841) (by decide) dX8_readItem_57 (fun H locs Z => ?_)
          refine lv_aload_n hx hb dX8_readItem_60 rfl (lv_at hl 1 rfl) ?_
          refine gM_0_24 C Z (fl_of C mw_841) dX8_readItem_61 (x := 1) rfl ?_
          refine lv_if_ne (tgt := 71) hx hb dX8_readItem_64 (by decide) (fun _ => ?_) (fun hq => absurd hq (by decide))
          have hf := Option.some.inj hf
          subst hf
          exact ret_v C Z dX8_readItem_71
    · rw [if_pos hc18] at hf
      refine lv_aload_n hx hb dX8_readItem_21 rfl (lv_at hl 1 rfl) ?_
      refine lv_iconst (v := 1) hx hb dX8_readItem_22 (by decide +kernel) ?_
      refine pM_0_24 C Z (fl_of C mw_841) (by decide) dX8_readItem_23 (fun H locs Z => ?_)
      have hf := Option.some.inj hf
      subst hf
      exact ret_v C Z dX8_readItem_26
def L_X8_settles_26 (k : Int32 → St → Option (St)) : Nat → Int32 → St → Option (St)
  | 0, _, _ => none
  | n + 1, x1, u =>
    if 5 ≤ x1 then
      k x1 u
    else
      if oob x1 5 then none else
      L_X8_settles_26 k n (x1 + 1) (sA (sA (sA (sA u 0 (upd (u.2.1 0) (Int32.toNatClampNeg x1) ((u.2.1 14) (Int32.toNatClampNeg x1)))) 1 (upd (u.2.1 1) (Int32.toNatClampNeg x1) ((u.2.1 15) (Int32.toNatClampNeg x1)))) 2 (upd (u.2.1 2) (Int32.toNatClampNeg x1) ((u.2.1 16) (Int32.toNatClampNeg x1)))) 3 (upd (u.2.1 3) (Int32.toNatClampNeg x1) ((u.2.1 17) (Int32.toNatClampNeg x1))))
set_option maxHeartbeats 4000000 in
set_option maxRecDepth 100000 in
theorem b_X8_settles_26 {p : Program} {l : Launch} {e : Env} {s : State} {m : MethodId} {args : Array Value} {below : List Frame} {meth : Method} {c : Code} {g : Gx} {res : St} {k : Int32 → St → Option (St)} (C : Cx p s m meth c args cX8_settles RX8 2 (none) 22 g)
    (hk : ∀ (x1 : Int32) (u : St) (H : Heap) (locs : List Loc) (ls : Array Slot), Zx wM g (Aw 22 g s.heap.size) s H locs u → lv_has ls 2 [(0, .ref (g.2.2 0))] → k x1 u = some res → W p l e (rmX 0 0) s m args below meth c H locs 0 0 (QV wM 22 g res below args s) (F0 m 85 ls [])) :
    ∀ (n : Nat) (x1 : Int32) (u : St) (H : Heap) (locs : List Loc) (ls : Array Slot), Zx wM g (Aw 22 g s.heap.size) s H locs u → lv_has ls 2 [(0, .ref (g.2.2 0)), (1, .int x1)] → L_X8_settles_26 k n x1 u = some res → W p l e (rmX 0 0) s m args below meth c H locs 0 0 (QV wM 22 g res below args s) (F0 m 26 ls []) := by
  have hx := C.1
  have hb := C.2.1
  intro n
  induction n with
  | zero =>
    intro x1 u H locs ls Z hl hf
    rw [L_X8_settles_26.eq_1] at hf
    cases hf
  | succ n ih =>
    intro x1 u H locs ls Z hl hf
    rw [L_X8_settles_26.eq_2] at hf
    refine lv_iload_n hx hb dX8_settles_26 rfl (lv_at hl 1 rfl) ?_
    refine lv_iconst (v := 5) hx hb dX8_settles_27 (by decide +kernel) ?_
    refine lv_icmp_ge (tgt := 85) hx hb dX8_settles_28 (by decide) (fun hc28 => ?_) (fun hc28 => ?_)
    · rw [if_pos hc28] at hf
      exact hk _ _ H locs ls Z (lv_sub hl [0] rfl) hf
    · rw [if_neg hc28] at hf
      refine lv_aload_n hx hb dX8_settles_31 rfl (lv_at hl 0 rfl) ?_
      refine gM_0_1 C Z (fl_of C mw_818) dX8_settles_32 ?_
      refine lv_iload_n hx hb dX8_settles_35 rfl (lv_at hl 1 rfl) ?_
      refine lv_aload_n hx hb dX8_settles_36 rfl (lv_at hl 0 rfl) ?_
      refine gM_0_28 C Z (fl_of C mw_845) dX8_settles_37 ?_
      refine lv_iload_n hx hb dX8_settles_40 rfl (lv_at hl 1 rfl) ?_
      by_cases ho41 : oob x1 5 = true
      · rw [if_pos ho41] at hf; cases hf
      rw [if_neg ho41] at hf
      refine r_ald C Z (aM_15 g _ (f := (u.2.1 14)) rfl) ho41 rfl dX8_settles_41 (x := ((u.2.1 14) (Int32.toNatClampNeg x1))) rfl ?_
      refine r_ast C wokM Z (aM_1 g _ (f := (u.2.1 0)) rfl) ho41 rfl (sM_1 g _ _) dX8_settles_42 (fun H locs Z => ?_)
      refine lv_aload_n hx hb dX8_settles_43 rfl (lv_at hl 0 rfl) ?_
      refine gM_0_2 C Z (fl_of C mw_819) dX8_settles_44 ?_
      refine lv_iload_n hx hb dX8_settles_47 rfl (lv_at hl 1 rfl) ?_
      refine lv_aload_n hx hb dX8_settles_48 rfl (lv_at hl 0 rfl) ?_
      refine gM_0_29 C Z (fl_of C mw_846) dX8_settles_49 ?_
      refine lv_iload_n hx hb dX8_settles_52 rfl (lv_at hl 1 rfl) ?_
      refine r_ald C Z (aM_16 g _ (f := (u.2.1 15)) rfl) ho41 rfl dX8_settles_53 (x := ((u.2.1 15) (Int32.toNatClampNeg x1))) rfl ?_
      refine r_ast C wokM Z (aM_2 g _ (f := (u.2.1 1)) rfl) ho41 rfl (sM_2 g _ _) dX8_settles_54 (fun H locs Z => ?_)
      refine lv_aload_n hx hb dX8_settles_55 rfl (lv_at hl 0 rfl) ?_
      refine gM_0_3 C Z (fl_of C mw_820) dX8_settles_56 ?_
      refine lv_iload_n hx hb dX8_settles_59 rfl (lv_at hl 1 rfl) ?_
      refine lv_aload_n hx hb dX8_settles_60 rfl (lv_at hl 0 rfl) ?_
      refine gM_0_30 C Z (fl_of C mw_847) dX8_settles_61 ?_
      refine lv_iload_n hx hb dX8_settles_64 rfl (lv_at hl 1 rfl) ?_
      refine r_ald C Z (aM_17 g _ (f := (u.2.1 16)) rfl) ho41 rfl dX8_settles_65 (x := ((u.2.1 16) (Int32.toNatClampNeg x1))) rfl ?_
      refine r_ast C wokM Z (aM_3 g _ (f := (u.2.1 2)) rfl) ho41 rfl (sM_3 g _ _) dX8_settles_66 (fun H locs Z => ?_)
      refine lv_aload_n hx hb dX8_settles_67 rfl (lv_at hl 0 rfl) ?_
      refine gM_0_4 C Z (fl_of C mw_821) dX8_settles_68 ?_
      refine lv_iload_n hx hb dX8_settles_71 rfl (lv_at hl 1 rfl) ?_
      refine lv_aload_n hx hb dX8_settles_72 rfl (lv_at hl 0 rfl) ?_
      refine gM_0_31 C Z (fl_of C mw_848) dX8_settles_73 ?_
      refine lv_iload_n hx hb dX8_settles_76 rfl (lv_at hl 1 rfl) ?_
      refine r_ald C Z (aM_18 g _ (f := (u.2.1 17)) rfl) ho41 rfl dX8_settles_77 (x := ((u.2.1 17) (Int32.toNatClampNeg x1))) rfl ?_
      refine r_ast C wokM Z (aM_4 g _ (f := (u.2.1 3)) rfl) ho41 rfl (sM_4 g _ _) dX8_settles_78 (fun H locs Z => ?_)
      refine lv_iinc (v := (x1 + 1)) (lv' := [(1, .int (x1 + 1)), (0, .ref (g.2.2 0))]) hx hb dX8_settles_79 hl (k := 1) rfl rfl (by decide) rfl (fun ls hl => ?_)
      refine lv_goto (tgt := 26) hx hb dX8_settles_82 (by decide) ?_
      exact ih _ _ _ _ _ Z (lv_sub hl [1, 0] rfl) hf
def L_X8_settles_87 (k : Int32 → St → Option (St)) : Nat → Int32 → St → Option (St)
  | 0, _, _ => none
  | n + 1, x1, u =>
    if 4 ≤ x1 then
      k x1 u
    else
      if oob x1 4 then none else
      L_X8_settles_87 k n (x1 + 1) (sA (sA u 4 (upd (u.2.1 4) (Int32.toNatClampNeg x1) ((u.2.1 18) (Int32.toNatClampNeg x1)))) 5 (upd (u.2.1 5) (Int32.toNatClampNeg x1) ((u.2.1 19) (Int32.toNatClampNeg x1))))
set_option maxHeartbeats 4000000 in
set_option maxRecDepth 100000 in
theorem b_X8_settles_87 {p : Program} {l : Launch} {e : Env} {s : State} {m : MethodId} {args : Array Value} {below : List Frame} {meth : Method} {c : Code} {g : Gx} {res : St} {k : Int32 → St → Option (St)} (C : Cx p s m meth c args cX8_settles RX8 2 (none) 22 g)
    (hk : ∀ (x1 : Int32) (u : St) (H : Heap) (locs : List Loc) (ls : Array Slot), Zx wM g (Aw 22 g s.heap.size) s H locs u → lv_has ls 2 [(0, .ref (g.2.2 0))] → k x1 u = some res → W p l e (rmX 0 0) s m args below meth c H locs 0 0 (QV wM 22 g res below args s) (F0 m 122 ls [])) :
    ∀ (n : Nat) (x1 : Int32) (u : St) (H : Heap) (locs : List Loc) (ls : Array Slot), Zx wM g (Aw 22 g s.heap.size) s H locs u → lv_has ls 2 [(0, .ref (g.2.2 0)), (1, .int x1)] → L_X8_settles_87 k n x1 u = some res → W p l e (rmX 0 0) s m args below meth c H locs 0 0 (QV wM 22 g res below args s) (F0 m 87 ls []) := by
  have hx := C.1
  have hb := C.2.1
  intro n
  induction n with
  | zero =>
    intro x1 u H locs ls Z hl hf
    rw [L_X8_settles_87.eq_1] at hf
    cases hf
  | succ n ih =>
    intro x1 u H locs ls Z hl hf
    rw [L_X8_settles_87.eq_2] at hf
    refine lv_iload_n hx hb dX8_settles_87 rfl (lv_at hl 1 rfl) ?_
    refine lv_iconst (v := 4) hx hb dX8_settles_88 (by decide +kernel) ?_
    refine lv_icmp_ge (tgt := 122) hx hb dX8_settles_89 (by decide) (fun hc89 => ?_) (fun hc89 => ?_)
    · rw [if_pos hc89] at hf
      exact hk _ _ H locs ls Z (lv_sub hl [0] rfl) hf
    · rw [if_neg hc89] at hf
      refine lv_aload_n hx hb dX8_settles_92 rfl (lv_at hl 0 rfl) ?_
      refine gM_0_6 C Z (fl_of C mw_823) dX8_settles_93 ?_
      refine lv_iload_n hx hb dX8_settles_96 rfl (lv_at hl 1 rfl) ?_
      refine lv_aload_n hx hb dX8_settles_97 rfl (lv_at hl 0 rfl) ?_
      refine gM_0_33 C Z (fl_of C mw_850) dX8_settles_98 ?_
      refine lv_iload_n hx hb dX8_settles_101 rfl (lv_at hl 1 rfl) ?_
      by_cases ho102 : oob x1 4 = true
      · rw [if_pos ho102] at hf; cases hf
      rw [if_neg ho102] at hf
      refine r_ald C Z (aM_19 g _ (f := (u.2.1 18)) rfl) ho102 rfl dX8_settles_102 (x := ((u.2.1 18) (Int32.toNatClampNeg x1))) rfl ?_
      refine r_ast C wokM Z (aM_5 g _ (f := (u.2.1 4)) rfl) ho102 rfl (sM_5 g _ _) dX8_settles_103 (fun H locs Z => ?_)
      refine lv_aload_n hx hb dX8_settles_104 rfl (lv_at hl 0 rfl) ?_
      refine gM_0_7 C Z (fl_of C mw_824) dX8_settles_105 ?_
      refine lv_iload_n hx hb dX8_settles_108 rfl (lv_at hl 1 rfl) ?_
      refine lv_aload_n hx hb dX8_settles_109 rfl (lv_at hl 0 rfl) ?_
      refine gM_0_34 C Z (fl_of C mw_851) dX8_settles_110 ?_
      refine lv_iload_n hx hb dX8_settles_113 rfl (lv_at hl 1 rfl) ?_
      refine r_ald C Z (aM_20 g _ (f := (u.2.1 19)) rfl) ho102 rfl dX8_settles_114 (x := ((u.2.1 19) (Int32.toNatClampNeg x1))) rfl ?_
      refine r_ast C wokM Z (aM_6 g _ (f := (u.2.1 5)) rfl) ho102 rfl (sM_6 g _ _) dX8_settles_115 (fun H locs Z => ?_)
      refine lv_iinc (v := (x1 + 1)) (lv' := [(1, .int (x1 + 1)), (0, .ref (g.2.2 0))]) hx hb dX8_settles_116 hl (k := 1) rfl rfl (by decide) rfl (fun ls hl => ?_)
      refine lv_goto (tgt := 87) hx hb dX8_settles_119 (by decide) ?_
      exact ih _ _ _ _ _ Z (lv_sub hl [1, 0] rfl) hf
def L_X8_settles_124 (k : Int32 → St → Option (St)) : Nat → Int32 → St → Option (St)
  | 0, _, _ => none
  | n + 1, x1, u =>
    if 12 ≤ x1 then
      k x1 u
    else
      if oob x1 12 then none else
      L_X8_settles_124 k n (x1 + 1) (sA u 6 (upd (u.2.1 6) (Int32.toNatClampNeg x1) ((u.2.1 20) (Int32.toNatClampNeg x1))))
set_option maxHeartbeats 4000000 in
set_option maxRecDepth 100000 in
theorem b_X8_settles_124 {p : Program} {l : Launch} {e : Env} {s : State} {m : MethodId} {args : Array Value} {below : List Frame} {meth : Method} {c : Code} {g : Gx} {res : St} {k : Int32 → St → Option (St)} (C : Cx p s m meth c args cX8_settles RX8 2 (none) 22 g)
    (hk : ∀ (x1 : Int32) (u : St) (H : Heap) (locs : List Loc) (ls : Array Slot), Zx wM g (Aw 22 g s.heap.size) s H locs u → lv_has ls 2 [(0, .ref (g.2.2 0))] → k x1 u = some res → W p l e (rmX 0 0) s m args below meth c H locs 0 0 (QV wM 22 g res below args s) (F0 m 148 ls [])) :
    ∀ (n : Nat) (x1 : Int32) (u : St) (H : Heap) (locs : List Loc) (ls : Array Slot), Zx wM g (Aw 22 g s.heap.size) s H locs u → lv_has ls 2 [(0, .ref (g.2.2 0)), (1, .int x1)] → L_X8_settles_124 k n x1 u = some res → W p l e (rmX 0 0) s m args below meth c H locs 0 0 (QV wM 22 g res below args s) (F0 m 124 ls []) := by
  have hx := C.1
  have hb := C.2.1
  intro n
  induction n with
  | zero =>
    intro x1 u H locs ls Z hl hf
    rw [L_X8_settles_124.eq_1] at hf
    cases hf
  | succ n ih =>
    intro x1 u H locs ls Z hl hf
    rw [L_X8_settles_124.eq_2] at hf
    refine lv_iload_n hx hb dX8_settles_124 rfl (lv_at hl 1 rfl) ?_
    refine lv_bipush (v := 12) hx hb dX8_settles_125 (by decide +kernel) ?_
    refine lv_icmp_ge (tgt := 148) hx hb dX8_settles_127 (by decide) (fun hc127 => ?_) (fun hc127 => ?_)
    · rw [if_pos hc127] at hf
      exact hk _ _ H locs ls Z (lv_sub hl [0] rfl) hf
    · rw [if_neg hc127] at hf
      refine lv_aload_n hx hb dX8_settles_130 rfl (lv_at hl 0 rfl) ?_
      refine gM_0_9 C Z (fl_of C mw_826) dX8_settles_131 ?_
      refine lv_iload_n hx hb dX8_settles_134 rfl (lv_at hl 1 rfl) ?_
      refine lv_aload_n hx hb dX8_settles_135 rfl (lv_at hl 0 rfl) ?_
      refine gM_0_36 C Z (fl_of C mw_853) dX8_settles_136 ?_
      refine lv_iload_n hx hb dX8_settles_139 rfl (lv_at hl 1 rfl) ?_
      by_cases ho140 : oob x1 12 = true
      · rw [if_pos ho140] at hf; cases hf
      rw [if_neg ho140] at hf
      refine r_ald C Z (aM_21 g _ (f := (u.2.1 20)) rfl) ho140 rfl dX8_settles_140 (x := ((u.2.1 20) (Int32.toNatClampNeg x1))) rfl ?_
      refine r_ast C wokM Z (aM_7 g _ (f := (u.2.1 6)) rfl) ho140 rfl (sM_7 g _ _) dX8_settles_141 (fun H locs Z => ?_)
      refine lv_iinc (v := (x1 + 1)) (lv' := [(1, .int (x1 + 1)), (0, .ref (g.2.2 0))]) hx hb dX8_settles_142 hl (k := 1) rfl rfl (by decide) rfl (fun ls hl => ?_)
      refine lv_goto (tgt := 124) hx hb dX8_settles_145 (by decide) ?_
      exact ih _ _ _ _ _ Z (lv_sub hl [1, 0] rfl) hf
def L_X8_settles_150 (k : Int32 → St → Option (St)) : Nat → Int32 → St → Option (St)
  | 0, _, _ => none
  | n + 1, x1, u =>
    if 507 ≤ x1 then
      k x1 u
    else
      if oob x1 507 then none else
      L_X8_settles_150 k n (x1 + 1) (sA u 7 (upd (u.2.1 7) (Int32.toNatClampNeg x1) 0))
set_option maxHeartbeats 4000000 in
set_option maxRecDepth 100000 in
theorem b_X8_settles_150 {p : Program} {l : Launch} {e : Env} {s : State} {m : MethodId} {args : Array Value} {below : List Frame} {meth : Method} {c : Code} {g : Gx} {res : St} {k : Int32 → St → Option (St)} (C : Cx p s m meth c args cX8_settles RX8 2 (none) 22 g)
    (hk : ∀ (x1 : Int32) (u : St) (H : Heap) (locs : List Loc) (ls : Array Slot), Zx wM g (Aw 22 g s.heap.size) s H locs u → lv_has ls 2 [(0, .ref (g.2.2 0))] → k x1 u = some res → W p l e (rmX 0 0) s m args below meth c H locs 0 0 (QV wM 22 g res below args s) (F0 m 170 ls [])) :
    ∀ (n : Nat) (x1 : Int32) (u : St) (H : Heap) (locs : List Loc) (ls : Array Slot), Zx wM g (Aw 22 g s.heap.size) s H locs u → lv_has ls 2 [(0, .ref (g.2.2 0)), (1, .int x1)] → L_X8_settles_150 k n x1 u = some res → W p l e (rmX 0 0) s m args below meth c H locs 0 0 (QV wM 22 g res below args s) (F0 m 150 ls []) := by
  have hx := C.1
  have hb := C.2.1
  intro n
  induction n with
  | zero =>
    intro x1 u H locs ls Z hl hf
    rw [L_X8_settles_150.eq_1] at hf
    cases hf
  | succ n ih =>
    intro x1 u H locs ls Z hl hf
    rw [L_X8_settles_150.eq_2] at hf
    refine lv_iload_n hx hb dX8_settles_150 rfl (lv_at hl 1 rfl) ?_
    refine lv_sipush (v := 507) hx hb dX8_settles_151 (by decide +kernel) ?_
    refine lv_icmp_ge (tgt := 170) hx hb dX8_settles_154 (by decide) (fun hc154 => ?_) (fun hc154 => ?_)
    · rw [if_pos hc154] at hf
      exact hk _ _ H locs ls Z (lv_sub hl [0] rfl) hf
    · rw [if_neg hc154] at hf
      refine lv_aload_n hx hb dX8_settles_157 rfl (lv_at hl 0 rfl) ?_
      refine gM_0_10 C Z (fl_of C mw_827) dX8_settles_158 ?_
      refine lv_iload_n hx hb dX8_settles_161 rfl (lv_at hl 1 rfl) ?_
      refine lv_iconst (v := 0) hx hb dX8_settles_162 (by decide +kernel) ?_
      by_cases ho163 : oob x1 507 = true
      · rw [if_pos ho163] at hf; cases hf
      rw [if_neg ho163] at hf
      refine r_ast C wokM Z (aM_8 g _ (f := (u.2.1 7)) rfl) ho163 rfl (sM_8 g _ _) dX8_settles_163 (fun H locs Z => ?_)
      refine lv_iinc (v := (x1 + 1)) (lv' := [(1, .int (x1 + 1)), (0, .ref (g.2.2 0))]) hx hb dX8_settles_164 hl (k := 1) rfl rfl (by decide) rfl (fun ls hl => ?_)
      refine lv_goto (tgt := 150) hx hb dX8_settles_167 (by decide) ?_
      exact ih _ _ _ _ _ Z (lv_sub hl [1, 0] rfl) hf
def L_X8_settles_172 (k : Int32 → St → Option (St)) : Nat → Int32 → St → Option (St)
  | 0, _, _ => none
  | n + 1, x1, u =>
    if 24 ≤ x1 then
      k x1 u
    else
      if oob x1 24 then none else
      if oob (1 + x1) 507 then none else
      L_X8_settles_172 k n (x1 + 1) (sA u 7 (upd (u.2.1 7) (Int32.toNatClampNeg (1 + x1)) ((u.2.1 13) (Int32.toNatClampNeg x1))))
set_option maxHeartbeats 4000000 in
set_option maxRecDepth 100000 in
theorem b_X8_settles_172 {p : Program} {l : Launch} {e : Env} {s : State} {m : MethodId} {args : Array Value} {below : List Frame} {meth : Method} {c : Code} {g : Gx} {res : St} {k : Int32 → St → Option (St)} (C : Cx p s m meth c args cX8_settles RX8 2 (none) 22 g)
    (hk : ∀ (x1 : Int32) (u : St) (H : Heap) (locs : List Loc) (ls : Array Slot), Zx wM g (Aw 22 g s.heap.size) s H locs u → lv_has ls 2 [(0, .ref (g.2.2 0))] → k x1 u = some res → W p l e (rmX 0 0) s m args below meth c H locs 0 0 (QV wM 22 g res below args s) (F0 m 198 ls [])) :
    ∀ (n : Nat) (x1 : Int32) (u : St) (H : Heap) (locs : List Loc) (ls : Array Slot), Zx wM g (Aw 22 g s.heap.size) s H locs u → lv_has ls 2 [(0, .ref (g.2.2 0)), (1, .int x1)] → L_X8_settles_172 k n x1 u = some res → W p l e (rmX 0 0) s m args below meth c H locs 0 0 (QV wM 22 g res below args s) (F0 m 172 ls []) := by
  have hx := C.1
  have hb := C.2.1
  intro n
  induction n with
  | zero =>
    intro x1 u H locs ls Z hl hf
    rw [L_X8_settles_172.eq_1] at hf
    cases hf
  | succ n ih =>
    intro x1 u H locs ls Z hl hf
    rw [L_X8_settles_172.eq_2] at hf
    refine lv_iload_n hx hb dX8_settles_172 rfl (lv_at hl 1 rfl) ?_
    refine lv_bipush (v := 24) hx hb dX8_settles_173 (by decide +kernel) ?_
    refine lv_icmp_ge (tgt := 198) hx hb dX8_settles_175 (by decide) (fun hc175 => ?_) (fun hc175 => ?_)
    · rw [if_pos hc175] at hf
      exact hk _ _ H locs ls Z (lv_sub hl [0] rfl) hf
    · rw [if_neg hc175] at hf
      refine lv_aload_n hx hb dX8_settles_178 rfl (lv_at hl 0 rfl) ?_
      refine gM_0_10 C Z (fl_of C mw_827) dX8_settles_179 ?_
      refine lv_iconst (v := 1) hx hb dX8_settles_182 (by decide +kernel) ?_
      refine lv_iload_n hx hb dX8_settles_183 rfl (lv_at hl 1 rfl) ?_
      refine lv_iadd hx hb dX8_settles_184 ?_
      refine lv_aload_n hx hb dX8_settles_185 rfl (lv_at hl 0 rfl) ?_
      refine gM_0_26 C Z (fl_of C mw_843) dX8_settles_186 ?_
      refine lv_iload_n hx hb dX8_settles_189 rfl (lv_at hl 1 rfl) ?_
      by_cases ho190 : oob x1 24 = true
      · rw [if_pos ho190] at hf; cases hf
      rw [if_neg ho190] at hf
      refine r_ald C Z (aM_14 g _ (f := (u.2.1 13)) rfl) ho190 rfl dX8_settles_190 (x := ((u.2.1 13) (Int32.toNatClampNeg x1))) rfl ?_
      by_cases ho191 : oob (1 + x1) 507 = true
      · rw [if_pos ho191] at hf; cases hf
      rw [if_neg ho191] at hf
      refine r_ast C wokM Z (aM_8 g _ (f := (u.2.1 7)) rfl) ho191 rfl (sM_8 g _ _) dX8_settles_191 (fun H locs Z => ?_)
      refine lv_iinc (v := (x1 + 1)) (lv' := [(1, .int (x1 + 1)), (0, .ref (g.2.2 0))]) hx hb dX8_settles_192 hl (k := 1) rfl rfl (by decide) rfl (fun ls hl => ?_)
      refine lv_goto (tgt := 172) hx hb dX8_settles_195 (by decide) ?_
      exact ih _ _ _ _ _ Z (lv_sub hl [1, 0] rfl) hf
def f_X8_settles (u : St) : Option (St) :=
  L_X8_settles_26 (fun x1 u26 =>
    L_X8_settles_87 (fun x1 u87 =>
      L_X8_settles_124 (fun x1 u124 =>
        L_X8_settles_150 (fun x1 u150 =>
          L_X8_settles_172 (fun x1 u172 =>
            some (sI (sA (sA (sI (sI u172 3 0) 4 0) 9 (upd (u172.2.1 9) 0 0)) 9 (upd (upd (u172.2.1 9) 0 0) 1 0)) 5 0)) FU 0 u150) FU 0 u124) FU 0 u87) FU 0 u26) FU 0 (sI (sI (sI u 0 (u.1 12)) 1 (u.1 13)) 2 (u.1 14))
set_option maxHeartbeats 4000000 in
set_option maxRecDepth 100000 in
theorem c_X8_settles (l : Launch) {g : Gx} {u : St} {res : St} (hf : f_X8_settles u = some res) : CV wM 22 l yX8_settles (wsY yX8_settles cX8_settles 2 (none)) (rmX 0 0) g [.ref (g.2.2 0)] u res := by
  refine CV_start (by decide +kernel) rfl (Nat.le_of_ble_eq_true rfl) (fun {p e s m args below meth c ls} C Z hl => ?_)
  have hl : lv_has ls 2 [(0, .ref (g.2.2 0))] := hl
  have hx := C.1
  have hb := C.2.1
  unfold f_X8_settles at hf
  refine lv_aload_n hx hb dX8_settles_0 rfl (lv_at hl 0 rfl) ?_
  refine lv_aload_n hx hb dX8_settles_1 rfl (lv_at hl 0 rfl) ?_
  refine gM_0_27 C Z (fl_of C mw_844) dX8_settles_2 (x := (u.1 12)) rfl ?_
  refine pM_0_0 C Z (fl_of C mw_817) dX8_settles_5 (fun H locs Z => ?_)
  refine lv_aload_n hx hb dX8_settles_8 rfl (lv_at hl 0 rfl) ?_
  refine lv_aload_n hx hb dX8_settles_9 rfl (lv_at hl 0 rfl) ?_
  refine gM_0_32 C Z (fl_of C mw_849) dX8_settles_10 (x := (u.1 13)) rfl ?_
  refine pM_0_5 C Z (fl_of C mw_822) dX8_settles_13 (fun H locs Z => ?_)
  refine lv_aload_n hx hb dX8_settles_16 rfl (lv_at hl 0 rfl) ?_
  refine lv_aload_n hx hb dX8_settles_17 rfl (lv_at hl 0 rfl) ?_
  refine gM_0_35 C Z (fl_of C mw_852) dX8_settles_18 (x := (u.1 14)) rfl ?_
  refine pM_0_8 C Z (fl_of C mw_825) dX8_settles_21 (fun H locs Z => ?_)
  refine lv_iconst (v := 0) hx hb dX8_settles_24 (by decide +kernel) ?_
  refine lv_istore_n (lv' := [(1, .int 0), (0, .ref (g.2.2 0))]) hx hb dX8_settles_25 rfl hl (by decide) rfl (fun ls hl => ?_)
  refine b_X8_settles_26 C (fun x1 u26 H locs ls Z hl hf => ?_) FU _ _ _ _ _ Z (lv_sub hl [1, 0] rfl) hf
  refine lv_iconst (v := 0) hx hb dX8_settles_85 (by decide +kernel) ?_
  refine lv_istore_n (lv' := [(1, .int 0), (0, .ref (g.2.2 0))]) hx hb dX8_settles_86 rfl hl (by decide) rfl (fun ls hl => ?_)
  refine b_X8_settles_87 C (fun x1 u87 H locs ls Z hl hf => ?_) FU _ _ _ _ _ Z (lv_sub hl [1, 0] rfl) hf
  refine lv_iconst (v := 0) hx hb dX8_settles_122 (by decide +kernel) ?_
  refine lv_istore_n (lv' := [(1, .int 0), (0, .ref (g.2.2 0))]) hx hb dX8_settles_123 rfl hl (by decide) rfl (fun ls hl => ?_)
  refine b_X8_settles_124 C (fun x1 u124 H locs ls Z hl hf => ?_) FU _ _ _ _ _ Z (lv_sub hl [1, 0] rfl) hf
  refine lv_iconst (v := 0) hx hb dX8_settles_148 (by decide +kernel) ?_
  refine lv_istore_n (lv' := [(1, .int 0), (0, .ref (g.2.2 0))]) hx hb dX8_settles_149 rfl hl (by decide) rfl (fun ls hl => ?_)
  refine b_X8_settles_150 C (fun x1 u150 H locs ls Z hl hf => ?_) FU _ _ _ _ _ Z (lv_sub hl [1, 0] rfl) hf
  refine lv_iconst (v := 0) hx hb dX8_settles_170 (by decide +kernel) ?_
  refine lv_istore_n (lv' := [(1, .int 0), (0, .ref (g.2.2 0))]) hx hb dX8_settles_171 rfl hl (by decide) rfl (fun ls hl => ?_)
  refine b_X8_settles_172 C (fun x1 u172 H locs ls Z hl hf => ?_) FU _ _ _ _ _ Z (lv_sub hl [1, 0] rfl) hf
  refine lv_aload_n hx hb dX8_settles_198 rfl (lv_at hl 0 rfl) ?_
  refine lv_iconst (v := 0) hx hb dX8_settles_199 (by decide +kernel) ?_
  refine pM_0_13 C Z (fl_of C mw_830) dX8_settles_200 (fun H locs Z => ?_)
  refine lv_aload_n hx hb dX8_settles_203 rfl (lv_at hl 0 rfl) ?_
  refine lv_iconst (v := 0) hx hb dX8_settles_204 (by decide +kernel) ?_
  refine pM_0_15 C Z (fl_of C mw_832) dX8_settles_205 (fun H locs Z => ?_)
  refine lv_aload_n hx hb dX8_settles_208 rfl (lv_at hl 0 rfl) ?_
  refine gM_0_12 C Z (fl_of C mw_829) dX8_settles_209 ?_
  refine lv_iconst (v := 0) hx hb dX8_settles_212 (by decide +kernel) ?_
  refine lv_iconst (v := 0) hx hb dX8_settles_213 (by decide +kernel) ?_
  refine r_zast C wokM Z (aM_10 g _ (f := (u172.2.1 9)) rfl) (by decide) (by decide) (k := 0) (by decide) (sM_10 g _ _) dX8_settles_214 (fun H locs Z => ?_)
  refine lv_aload_n hx hb dX8_settles_215 rfl (lv_at hl 0 rfl) ?_
  refine gM_0_12 C Z (fl_of C mw_829) dX8_settles_216 ?_
  refine lv_iconst (v := 1) hx hb dX8_settles_219 (by decide +kernel) ?_
  refine lv_iconst (v := 0) hx hb dX8_settles_220 (by decide +kernel) ?_
  refine r_zast C wokM Z (aM_10 g _ (f := (upd (u172.2.1 9) 0 0)) rfl) (by decide) (by decide) (k := 1) (by decide) (sM_10 g _ _) dX8_settles_221 (fun H locs Z => ?_)
  refine lv_aload_n hx hb dX8_settles_222 rfl (lv_at hl 0 rfl) ?_
  refine lv_iconst (v := 0) hx hb dX8_settles_223 (by decide +kernel) ?_
  refine pM_0_19 C Z (fl_of C mw_836) dX8_settles_224 (fun H locs Z => ?_)
  have hf := Option.some.inj hf
  subst hf
  exact ret_v C Z dX8_settles_227
