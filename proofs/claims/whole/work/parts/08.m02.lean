def L_X5_readNumber_20 (k : St → Option (Int32 × St)) : Nat → St → Option (Int32 × St)
  | 0, _ => none
  | n + 1, u =>
    if (u.1 0) ≤ (u.1 1) then
      k u
    else
      if oob (u.1 1) 150 then none else
      Option.bind (f_X5_isDigit ((u.2.1 0) (Int32.toNatClampNeg (u.1 1)))) fun r40 =>
      if r40 = 0 then
        k u
      else
        if 99 < (u.1 3) then
          L_X5_readNumber_20 k n (sI u 1 ((u.1 1) + 1))
        else
          L_X5_readNumber_20 k n (sI (sI u 3 ((((u.1 3) * 10) + ((u.2.1 0) (Int32.toNatClampNeg (u.1 1)))) - 48)) 1 ((u.1 1) + 1))
set_option maxHeartbeats 4000000 in
set_option maxRecDepth 100000 in
theorem b_X5_readNumber_20 {p : Program} {l : Launch} {e : Env} {s : State} {m : MethodId} {args : Array Value} {below : List Frame} {meth : Method} {c : Code} {g : Gx} {x1 : Int32} {res : Int32 × St} {k : St → Option (Int32 × St)} (C : Cx p s m meth c args cX5_readNumber RX5 2 (some .int) 82 g)
    (hk : ∀ (u : St) (H : Heap) (locs : List Loc) (ls : Array Slot), Zx wC g (Aw 82 g s.heap.size) s H locs u → lv_has ls 2 [(0, .ref (g.2.2 1)), (1, .int x1)] → k u = some res → W p l e (rmX 1 20) s m args below meth c H locs 0 0 (QI wC 82 g res.1 res.2 below args s) (F0 m 92 ls [])) :
    ∀ (n : Nat) (u : St) (H : Heap) (locs : List Loc) (ls : Array Slot), Zx wC g (Aw 82 g s.heap.size) s H locs u → lv_has ls 2 [(0, .ref (g.2.2 1)), (1, .int x1)] → L_X5_readNumber_20 k n u = some res → W p l e (rmX 1 20) s m args below meth c H locs 0 0 (QI wC 82 g res.1 res.2 below args s) (F0 m 20 ls []) := by
  have hx := C.1
  have hb := C.2.1
  intro n
  induction n with
  | zero =>
    intro u H locs ls Z hl hf
    rw [L_X5_readNumber_20.eq_1] at hf
    cases hf
  | succ n ih =>
    intro u H locs ls Z hl hf
    rw [L_X5_readNumber_20.eq_2] at hf
    refine lv_aload_n hx hb dX5_readNumber_20 rfl (lv_at hl 0 rfl) ?_
    refine gC_1_2 C Z (fl_of C mw_128) dX5_readNumber_21 (x := (u.1 1)) rfl ?_
    refine lv_aload_n hx hb dX5_readNumber_24 rfl (lv_at hl 0 rfl) ?_
    refine gC_1_1 C Z (fl_of C mw_126) dX5_readNumber_25 (x := (u.1 0)) rfl ?_
    refine lv_icmp_ge (tgt := 92) hx hb dX5_readNumber_28 (by decide) (fun hc28 => ?_) (fun hc28 => ?_)
    · rw [if_pos hc28] at hf
      exact hk _ H locs ls Z (lv_sub hl [0, 1] rfl) hf
    · rw [if_neg hc28] at hf
      refine lv_aload_n hx hb dX5_readNumber_31 rfl (lv_at hl 0 rfl) ?_
      refine gC_1_0 C Z (fl_of C mw_125) dX5_readNumber_32 ?_
      refine lv_aload_n hx hb dX5_readNumber_35 rfl (lv_at hl 0 rfl) ?_
      refine gC_1_2 C Z (fl_of C mw_128) dX5_readNumber_36 (x := (u.1 1)) rfl ?_
      by_cases ho39 : oob (u.1 1) 150 = true
      · rw [if_pos ho39] at hf; cases hf
      rw [if_neg ho39] at hf
      refine r_ald C Z (aC_2 g _ (f := (u.2.1 0)) rfl) ho39 rfl dX5_readNumber_39 (x := ((u.2.1 0) (Int32.toNatClampNeg (u.1 1)))) rfl ?_
      obtain ⟨r40, hr40, hf⟩ := Option.bind_eq_some_iff.mp hf
      refine call_si (As := [.int ((u.2.1 0) (Int32.toNatClampNeg (u.1 1)))]) (rest := []) C Z (c_X5_isDigit l hr40) mf_X5_isDigit (ml_of C mw_376) rfl ⟨rfl, rfl, by decide, by decide⟩ rfl hl.1 (Nat.le_of_ble_eq_true rfl) dX5_readNumber_40 (fun H locs Z => ?_)
      refine lv_if_eq (tgt := 92) hx hb dX5_readNumber_43 (by decide) (fun hc43 => ?_) (fun hc43 => ?_)
      · rw [if_pos hc43] at hf
        exact hk _ H locs ls Z (lv_sub hl [0, 1] rfl) hf
      · rw [if_neg hc43] at hf
        refine lv_aload_n hx hb dX5_readNumber_46 rfl (lv_at hl 0 rfl) ?_
        refine gC_1_4 C Z (fl_of C mw_132) dX5_readNumber_47 (x := (u.1 3)) rfl ?_
        refine lv_bipush (v := 99) hx hb dX5_readNumber_50 (by decide +kernel) ?_
        refine lv_icmp_gt (tgt := 79) hx hb dX5_readNumber_52 (by decide) (fun hc52 => ?_) (fun hc52 => ?_)
        · rw [if_pos hc52] at hf
          refine lv_aload_n hx hb dX5_readNumber_79 rfl (lv_at hl 0 rfl) ?_
          refine lv_dup hx hb dX5_readNumber_80 rfl ?_
          refine gC_1_2 C Z (fl_of C mw_128) dX5_readNumber_81 (x := (u.1 1)) rfl ?_
          refine lv_iconst (v := 1) hx hb dX5_readNumber_84 (by decide +kernel) ?_
          refine lv_iadd hx hb dX5_readNumber_85 ?_
          refine pC_1_2 C Z (fl_of C mw_128) dX5_readNumber_86 (fun H locs Z => ?_)
          refine lv_goto (tgt := 20) hx hb dX5_readNumber_89 (by decide) ?_
          exact ih _ _ _ _ Z (lv_sub hl [0, 1] rfl) hf
        · rw [if_neg hc52] at hf
          refine lv_aload_n hx hb dX5_readNumber_55 rfl (lv_at hl 0 rfl) ?_
          refine lv_aload_n hx hb dX5_readNumber_56 rfl (lv_at hl 0 rfl) ?_
          refine gC_1_4 C Z (fl_of C mw_132) dX5_readNumber_57 (x := (u.1 3)) rfl ?_
          refine lv_bipush (v := 10) hx hb dX5_readNumber_60 (by decide +kernel) ?_
          refine lv_imul hx hb dX5_readNumber_62 ?_
          refine lv_aload_n hx hb dX5_readNumber_63 rfl (lv_at hl 0 rfl) ?_
          refine gC_1_0 C Z (fl_of C mw_125) dX5_readNumber_64 ?_
          refine lv_aload_n hx hb dX5_readNumber_67 rfl (lv_at hl 0 rfl) ?_
          refine gC_1_2 C Z (fl_of C mw_128) dX5_readNumber_68 (x := (u.1 1)) rfl ?_
          refine r_ald C Z (aC_2 g _ (f := (u.2.1 0)) rfl) ho39 rfl dX5_readNumber_71 (x := ((u.2.1 0) (Int32.toNatClampNeg (u.1 1)))) rfl ?_
          refine lv_iadd hx hb dX5_readNumber_72 ?_
          refine lv_bipush (v := 48) hx hb dX5_readNumber_73 (by decide +kernel) ?_
          refine lv_isub hx hb dX5_readNumber_75 ?_
          refine pC_1_4 C Z (fl_of C mw_132) dX5_readNumber_76 (fun H locs Z => ?_)
          refine lv_aload_n hx hb dX5_readNumber_79 rfl (lv_at hl 0 rfl) ?_
          refine lv_dup hx hb dX5_readNumber_80 rfl ?_
          refine gC_1_2 C Z (fl_of C mw_128) dX5_readNumber_81 (x := (u.1 1)) rfl ?_
          refine lv_iconst (v := 1) hx hb dX5_readNumber_84 (by decide +kernel) ?_
          refine lv_iadd hx hb dX5_readNumber_85 ?_
          refine pC_1_2 C Z (fl_of C mw_128) dX5_readNumber_86 (fun H locs Z => ?_)
          refine lv_goto (tgt := 20) hx hb dX5_readNumber_89 (by decide) ?_
          exact ih _ _ _ _ Z (lv_sub hl [0, 1] rfl) hf
def f_X5_readNumber (u : St) : Option (Int32 × St) :=
  if oob (u.1 1) 150 then none else
  if ((u.2.1 0) (Int32.toNatClampNeg (u.1 1))) = 48 then
    L_X5_readNumber_20 (fun u20 =>
      if ((u20.1 1) - (u20.1 2)) ≤ 1 then
        if (u20.1 3) ≤ 99 then
          some (2, u20)
        else
          some (4, u20)
      else
        some (4, u20)) FU u
  else
    L_X5_readNumber_20 (fun u20 =>
      if (u20.1 3) ≤ 99 then
        some (2, u20)
      else
        some (4, u20)) FU u
set_option maxHeartbeats 4000000 in
set_option maxRecDepth 100000 in
theorem c_X5_readNumber (l : Launch) {g : Gx} {u : St} {res : Int32 × St} (hf : f_X5_readNumber u = some res) : CI wC 82 l yX5_readNumber (wsY yX5_readNumber cX5_readNumber 2 (some .int)) (rmX 1 20) g [.ref (g.2.2 1)] u res.1 res.2 := by
  refine CI_start (by decide +kernel) rfl (Nat.le_of_ble_eq_true rfl) (fun {p e s m args below meth c ls} C Z hl => ?_)
  have hl : lv_has ls 2 [(0, .ref (g.2.2 1))] := hl
  have hx := C.1
  have hb := C.2.1
  unfold f_X5_readNumber at hf
  refine lv_aload_n hx hb dX5_readNumber_0 rfl (lv_at hl 0 rfl) ?_
  refine gC_1_0 C Z (fl_of C mw_125) dX5_readNumber_1 ?_
  refine lv_aload_n hx hb dX5_readNumber_4 rfl (lv_at hl 0 rfl) ?_
  refine gC_1_2 C Z (fl_of C mw_128) dX5_readNumber_5 (x := (u.1 1)) rfl ?_
  by_cases ho8 : oob (u.1 1) 150 = true
  · rw [if_pos ho8] at hf; cases hf
  rw [if_neg ho8] at hf
  refine r_ald C Z (aC_2 g _ (f := (u.2.1 0)) rfl) ho8 rfl dX5_readNumber_8 (x := ((u.2.1 0) (Int32.toNatClampNeg (u.1 1)))) rfl ?_
  refine lv_bipush (v := 48) hx hb dX5_readNumber_9 (by decide +kernel) ?_
  refine lv_icmp_ne (tgt := 18) hx hb dX5_readNumber_11 (by decide) (fun hc11 => ?_) (fun hc11 => ?_)
  · rw [if_neg hc11] at hf
    refine lv_iconst (v := 0) hx hb dX5_readNumber_18 (by decide +kernel) ?_
    refine lv_istore_n (lv' := [(1, .int 0), (0, .ref (g.2.2 1))]) hx hb dX5_readNumber_19 rfl hl (by decide) rfl (fun ls hl => ?_)
    refine b_X5_readNumber_20 C (fun u20 H locs ls Z hl hf => ?_) FU _ _ _ _ Z (lv_sub hl [1, 0] rfl) hf
    refine lv_iload_n hx hb dX5_readNumber_92 rfl (lv_at hl 1 rfl) ?_
    refine lv_if_eq (tgt := 111) hx hb dX5_readNumber_93 (by decide) (fun _ => ?_) (fun hq => absurd (by decide) hq)
    refine lv_aload_n hx hb dX5_readNumber_111 rfl (lv_at hl 0 rfl) ?_
    refine gC_1_4 C Z (fl_of C mw_132) dX5_readNumber_112 (x := (u20.1 3)) rfl ?_
    refine lv_bipush (v := 99) hx hb dX5_readNumber_115 (by decide +kernel) ?_
    refine lv_icmp_le (tgt := 124) hx hb dX5_readNumber_117 (by decide) (fun hc117 => ?_) (fun hc117 => ?_)
    · rw [if_pos hc117] at hf
      refine lv_iconst (v := 2) hx hb dX5_readNumber_124 (by decide +kernel) ?_
      have hf := Option.some.inj hf
      subst hf
      exact ret_i C Z dX5_readNumber_125
    · rw [if_neg hc117] at hf
      refine lv_iconst (v := 4) hx hb dX5_readNumber_120 (by decide +kernel) ?_
      refine lv_goto (tgt := 125) hx hb dX5_readNumber_121 (by decide) ?_
      have hf := Option.some.inj hf
      subst hf
      exact ret_i C Z dX5_readNumber_125
  · rw [if_pos hc11] at hf
    refine lv_iconst (v := 1) hx hb dX5_readNumber_14 (by decide +kernel) ?_
    refine lv_goto (tgt := 19) hx hb dX5_readNumber_15 (by decide) ?_
    refine lv_istore_n (lv' := [(1, .int 1), (0, .ref (g.2.2 1))]) hx hb dX5_readNumber_19 rfl hl (by decide) rfl (fun ls hl => ?_)
    refine b_X5_readNumber_20 C (fun u20 H locs ls Z hl hf => ?_) FU _ _ _ _ Z (lv_sub hl [1, 0] rfl) hf
    refine lv_iload_n hx hb dX5_readNumber_92 rfl (lv_at hl 1 rfl) ?_
    refine lv_if_eq (tgt := 111) hx hb dX5_readNumber_93 (by decide) (fun hq => absurd hq (by decide)) (fun _ => ?_)
    refine lv_aload_n hx hb dX5_readNumber_96 rfl (lv_at hl 0 rfl) ?_
    refine gC_1_2 C Z (fl_of C mw_128) dX5_readNumber_97 (x := (u20.1 1)) rfl ?_
    refine lv_aload_n hx hb dX5_readNumber_100 rfl (lv_at hl 0 rfl) ?_
    refine gC_1_3 C Z (fl_of C mw_130) dX5_readNumber_101 (x := (u20.1 2)) rfl ?_
    refine lv_isub hx hb dX5_readNumber_104 ?_
    refine lv_iconst (v := 1) hx hb dX5_readNumber_105 (by decide +kernel) ?_
    refine lv_icmp_le (tgt := 111) hx hb dX5_readNumber_106 (by decide) (fun hc106 => ?_) (fun hc106 => ?_)
    · rw [if_pos hc106] at hf
      refine lv_aload_n hx hb dX5_readNumber_111 rfl (lv_at hl 0 rfl) ?_
      refine gC_1_4 C Z (fl_of C mw_132) dX5_readNumber_112 (x := (u20.1 3)) rfl ?_
      refine lv_bipush (v := 99) hx hb dX5_readNumber_115 (by decide +kernel) ?_
      refine lv_icmp_le (tgt := 124) hx hb dX5_readNumber_117 (by decide) (fun hc117 => ?_) (fun hc117 => ?_)
      · rw [if_pos hc117] at hf
        refine lv_iconst (v := 2) hx hb dX5_readNumber_124 (by decide +kernel) ?_
        have hf := Option.some.inj hf
        subst hf
        exact ret_i C Z dX5_readNumber_125
      · rw [if_neg hc117] at hf
        refine lv_iconst (v := 4) hx hb dX5_readNumber_120 (by decide +kernel) ?_
        refine lv_goto (tgt := 125) hx hb dX5_readNumber_121 (by decide) ?_
        have hf := Option.some.inj hf
        subst hf
        exact ret_i C Z dX5_readNumber_125
    · rw [if_neg hc106] at hf
      refine lv_iconst (v := 4) hx hb dX5_readNumber_109 (by decide +kernel) ?_
      have hf := Option.some.inj hf
      subst hf
      exact ret_i C Z dX5_readNumber_110
def L_X5_readWord_10 (k : St → Option (Int32 × St)) : Nat → St → Option (Int32 × St)
  | 0, _ => none
  | n + 1, u =>
    if (u.1 0) ≤ (u.1 1) then
      k u
    else
      if oob (u.1 1) 150 then none else
      Option.bind (f_X5_isLetter ((u.2.1 0) (Int32.toNatClampNeg (u.1 1)))) fun r30 =>
      if r30 = 0 then
        k u
      else
        L_X5_readWord_10 k n (sI u 1 ((u.1 1) + 1))
set_option maxHeartbeats 4000000 in
set_option maxRecDepth 100000 in
theorem b_X5_readWord_10 {p : Program} {l : Launch} {e : Env} {s : State} {m : MethodId} {args : Array Value} {below : List Frame} {meth : Method} {c : Code} {g : Gx} {x1 : Int32} {res : Int32 × St} {k : St → Option (Int32 × St)} (C : Cx p s m meth c args cX5_readWord RX5 2 (some .int) 82 g)
    (hk : ∀ (u : St) (H : Heap) (locs : List Loc) (ls : Array Slot), Zx wC g (Aw 82 g s.heap.size) s H locs u → lv_has ls 2 [(0, .ref (g.2.2 1)), (1, .int x1)] → k u = some res → W p l e (rmX 1 20) s m args below meth c H locs 0 0 (QI wC 82 g res.1 res.2 below args s) (F0 m 49 ls [])) :
    ∀ (n : Nat) (u : St) (H : Heap) (locs : List Loc) (ls : Array Slot), Zx wC g (Aw 82 g s.heap.size) s H locs u → lv_has ls 2 [(0, .ref (g.2.2 1)), (1, .int x1)] → L_X5_readWord_10 k n u = some res → W p l e (rmX 1 20) s m args below meth c H locs 0 0 (QI wC 82 g res.1 res.2 below args s) (F0 m 10 ls []) := by
  have hx := C.1
  have hb := C.2.1
  intro n
  induction n with
  | zero =>
    intro u H locs ls Z hl hf
    rw [L_X5_readWord_10.eq_1] at hf
    cases hf
  | succ n ih =>
    intro u H locs ls Z hl hf
    rw [L_X5_readWord_10.eq_2] at hf
    refine lv_aload_n hx hb dX5_readWord_10 rfl (lv_at hl 0 rfl) ?_
    refine gC_1_2 C Z (fl_of C mw_128) dX5_readWord_11 (x := (u.1 1)) rfl ?_
    refine lv_aload_n hx hb dX5_readWord_14 rfl (lv_at hl 0 rfl) ?_
    refine gC_1_1 C Z (fl_of C mw_126) dX5_readWord_15 (x := (u.1 0)) rfl ?_
    refine lv_icmp_ge (tgt := 49) hx hb dX5_readWord_18 (by decide) (fun hc18 => ?_) (fun hc18 => ?_)
    · rw [if_pos hc18] at hf
      exact hk _ H locs ls Z (lv_sub hl [0, 1] rfl) hf
    · rw [if_neg hc18] at hf
      refine lv_aload_n hx hb dX5_readWord_21 rfl (lv_at hl 0 rfl) ?_
      refine gC_1_0 C Z (fl_of C mw_125) dX5_readWord_22 ?_
      refine lv_aload_n hx hb dX5_readWord_25 rfl (lv_at hl 0 rfl) ?_
      refine gC_1_2 C Z (fl_of C mw_128) dX5_readWord_26 (x := (u.1 1)) rfl ?_
      by_cases ho29 : oob (u.1 1) 150 = true
      · rw [if_pos ho29] at hf; cases hf
      rw [if_neg ho29] at hf
      refine r_ald C Z (aC_2 g _ (f := (u.2.1 0)) rfl) ho29 rfl dX5_readWord_29 (x := ((u.2.1 0) (Int32.toNatClampNeg (u.1 1)))) rfl ?_
      obtain ⟨r30, hr30, hf⟩ := Option.bind_eq_some_iff.mp hf
      refine call_si (As := [.int ((u.2.1 0) (Int32.toNatClampNeg (u.1 1)))]) (rest := []) C Z (c_X5_isLetter l hr30) mf_X5_isLetter (ml_of C mw_369) rfl ⟨rfl, rfl, by decide, by decide⟩ rfl hl.1 (Nat.le_of_ble_eq_true rfl) dX5_readWord_30 (fun H locs Z => ?_)
      refine lv_if_eq (tgt := 49) hx hb dX5_readWord_33 (by decide) (fun hc33 => ?_) (fun hc33 => ?_)
      · rw [if_pos hc33] at hf
        exact hk _ H locs ls Z (lv_sub hl [0, 1] rfl) hf
      · rw [if_neg hc33] at hf
        refine lv_aload_n hx hb dX5_readWord_36 rfl (lv_at hl 0 rfl) ?_
        refine lv_dup hx hb dX5_readWord_37 rfl ?_
        refine gC_1_2 C Z (fl_of C mw_128) dX5_readWord_38 (x := (u.1 1)) rfl ?_
        refine lv_iconst (v := 1) hx hb dX5_readWord_41 (by decide +kernel) ?_
        refine lv_iadd hx hb dX5_readWord_42 ?_
        refine pC_1_2 C Z (fl_of C mw_128) dX5_readWord_43 (fun H locs Z => ?_)
        refine lv_goto (tgt := 10) hx hb dX5_readWord_46 (by decide) ?_
        exact ih _ _ _ _ Z (lv_sub hl [0, 1] rfl) hf
def f_X5_readWord (u : St) : Option (Int32 × St) :=
  if oob (u.1 1) 150 then none else
  L_X5_readWord_10 (fun u10 =>
    if ((u10.1 1) - (u10.1 2)) = 1 then
      some (1, (sI u10 3 ((u.2.1 0) (Int32.toNatClampNeg (u.1 1)))))
    else
      some (1, u10)) FU u
set_option maxHeartbeats 4000000 in
set_option maxRecDepth 100000 in
theorem c_X5_readWord (l : Launch) {g : Gx} {u : St} {res : Int32 × St} (hf : f_X5_readWord u = some res) : CI wC 82 l yX5_readWord (wsY yX5_readWord cX5_readWord 2 (some .int)) (rmX 1 20) g [.ref (g.2.2 1)] u res.1 res.2 := by
  refine CI_start (by decide +kernel) rfl (Nat.le_of_ble_eq_true rfl) (fun {p e s m args below meth c ls} C Z hl => ?_)
  have hl : lv_has ls 2 [(0, .ref (g.2.2 1))] := hl
  have hx := C.1
  have hb := C.2.1
  unfold f_X5_readWord at hf
  refine lv_aload_n hx hb dX5_readWord_0 rfl (lv_at hl 0 rfl) ?_
  refine gC_1_0 C Z (fl_of C mw_125) dX5_readWord_1 ?_
  refine lv_aload_n hx hb dX5_readWord_4 rfl (lv_at hl 0 rfl) ?_
  refine gC_1_2 C Z (fl_of C mw_128) dX5_readWord_5 (x := (u.1 1)) rfl ?_
  by_cases ho8 : oob (u.1 1) 150 = true
  · rw [if_pos ho8] at hf; cases hf
  rw [if_neg ho8] at hf
  refine r_ald C Z (aC_2 g _ (f := (u.2.1 0)) rfl) ho8 rfl dX5_readWord_8 (x := ((u.2.1 0) (Int32.toNatClampNeg (u.1 1)))) rfl ?_
  refine lv_istore_n (lv' := [(1, .int ((u.2.1 0) (Int32.toNatClampNeg (u.1 1)))), (0, .ref (g.2.2 1))]) hx hb dX5_readWord_9 rfl hl (by decide) rfl (fun ls hl => ?_)
  refine b_X5_readWord_10 C (fun u10 H locs ls Z hl hf => ?_) FU _ _ _ _ Z (lv_sub hl [1, 0] rfl) hf
  refine lv_aload_n hx hb dX5_readWord_49 rfl (lv_at hl 0 rfl) ?_
  refine gC_1_2 C Z (fl_of C mw_128) dX5_readWord_50 (x := (u10.1 1)) rfl ?_
  refine lv_aload_n hx hb dX5_readWord_53 rfl (lv_at hl 0 rfl) ?_
  refine gC_1_3 C Z (fl_of C mw_130) dX5_readWord_54 (x := (u10.1 2)) rfl ?_
  refine lv_isub hx hb dX5_readWord_57 ?_
  refine lv_iconst (v := 1) hx hb dX5_readWord_58 (by decide +kernel) ?_
  refine lv_icmp_ne (tgt := 67) hx hb dX5_readWord_59 (by decide) (fun hc59 => ?_) (fun hc59 => ?_)
  · rw [if_neg hc59] at hf
    refine lv_iconst (v := 1) hx hb dX5_readWord_67 (by decide +kernel) ?_
    have hf := Option.some.inj hf
    subst hf
    exact ret_i C Z dX5_readWord_68
  · rw [if_pos hc59] at hf
    refine lv_aload_n hx hb dX5_readWord_62 rfl (lv_at hl 0 rfl) ?_
    refine lv_iload_n hx hb dX5_readWord_63 rfl (lv_at hl 1 rfl) ?_
    refine pC_1_4 C Z (fl_of C mw_132) dX5_readWord_64 (fun H locs Z => ?_)
    refine lv_iconst (v := 1) hx hb dX5_readWord_67 (by decide +kernel) ?_
    have hf := Option.some.inj hf
    subst hf
    exact ret_i C Z dX5_readWord_68
def L_X5_nextToken_0 (k : St → Option (Int32 × St)) : Nat → St → Option (Int32 × St)
  | 0, _ => none
  | n + 1, u =>
    if (u.1 0) ≤ (u.1 1) then
      k u
    else
      if oob (u.1 1) 150 then none else
      if ((u.2.1 0) (Int32.toNatClampNeg (u.1 1))) = 32 then
        L_X5_nextToken_0 k n (sI u 1 ((u.1 1) + 1))
      else
        k u
set_option maxHeartbeats 4000000 in
set_option maxRecDepth 100000 in
theorem b_X5_nextToken_0 {p : Program} {l : Launch} {e : Env} {s : State} {m : MethodId} {args : Array Value} {below : List Frame} {meth : Method} {c : Code} {g : Gx} {res : Int32 × St} {k : St → Option (Int32 × St)} (C : Cx p s m meth c args cX5_nextToken RX5 2 (some .int) 82 g)
    (hk : ∀ (u : St) (H : Heap) (locs : List Loc) (ls : Array Slot), Zx wC g (Aw 82 g s.heap.size) s H locs u → lv_has ls 2 [(0, .ref (g.2.2 1))] → k u = some res → W p l e (rmX 2 41) s m args below meth c H locs 0 0 (QI wC 82 g res.1 res.2 below args s) (F0 m 38 ls [])) :
    ∀ (n : Nat) (u : St) (H : Heap) (locs : List Loc) (ls : Array Slot), Zx wC g (Aw 82 g s.heap.size) s H locs u → lv_has ls 2 [(0, .ref (g.2.2 1))] → L_X5_nextToken_0 k n u = some res → W p l e (rmX 2 41) s m args below meth c H locs 0 0 (QI wC 82 g res.1 res.2 below args s) (F0 m 0 ls []) := by
  have hx := C.1
  have hb := C.2.1
  intro n
  induction n with
  | zero =>
    intro u H locs ls Z hl hf
    rw [L_X5_nextToken_0.eq_1] at hf
    cases hf
  | succ n ih =>
    intro u H locs ls Z hl hf
    rw [L_X5_nextToken_0.eq_2] at hf
    refine lv_aload_n hx hb dX5_nextToken_0 rfl (lv_at hl 0 rfl) ?_
    refine gC_1_2 C Z (fl_of C mw_128) dX5_nextToken_1 (x := (u.1 1)) rfl ?_
    refine lv_aload_n hx hb dX5_nextToken_4 rfl (lv_at hl 0 rfl) ?_
    refine gC_1_1 C Z (fl_of C mw_126) dX5_nextToken_5 (x := (u.1 0)) rfl ?_
    refine lv_icmp_ge (tgt := 38) hx hb dX5_nextToken_8 (by decide) (fun hc8 => ?_) (fun hc8 => ?_)
    · rw [if_pos hc8] at hf
      exact hk _ H locs ls Z (lv_sub hl [0] rfl) hf
    · rw [if_neg hc8] at hf
      refine lv_aload_n hx hb dX5_nextToken_11 rfl (lv_at hl 0 rfl) ?_
      refine gC_1_0 C Z (fl_of C mw_125) dX5_nextToken_12 ?_
      refine lv_aload_n hx hb dX5_nextToken_15 rfl (lv_at hl 0 rfl) ?_
      refine gC_1_2 C Z (fl_of C mw_128) dX5_nextToken_16 (x := (u.1 1)) rfl ?_
      by_cases ho19 : oob (u.1 1) 150 = true
      · rw [if_pos ho19] at hf; cases hf
      rw [if_neg ho19] at hf
      refine r_ald C Z (aC_2 g _ (f := (u.2.1 0)) rfl) ho19 rfl dX5_nextToken_19 (x := ((u.2.1 0) (Int32.toNatClampNeg (u.1 1)))) rfl ?_
      refine lv_bipush (v := 32) hx hb dX5_nextToken_20 (by decide +kernel) ?_
      refine lv_icmp_ne (tgt := 38) hx hb dX5_nextToken_22 (by decide) (fun hc22 => ?_) (fun hc22 => ?_)
      · rw [if_neg hc22] at hf
        exact hk _ H locs ls Z (lv_sub hl [0] rfl) hf
      · rw [if_pos hc22] at hf
        refine lv_aload_n hx hb dX5_nextToken_25 rfl (lv_at hl 0 rfl) ?_
        refine lv_dup hx hb dX5_nextToken_26 rfl ?_
        refine gC_1_2 C Z (fl_of C mw_128) dX5_nextToken_27 (x := (u.1 1)) rfl ?_
        refine lv_iconst (v := 1) hx hb dX5_nextToken_30 (by decide +kernel) ?_
        refine lv_iadd hx hb dX5_nextToken_31 ?_
        refine pC_1_2 C Z (fl_of C mw_128) dX5_nextToken_32 (fun H locs Z => ?_)
        refine lv_goto (tgt := 0) hx hb dX5_nextToken_35 (by decide) ?_
        exact ih _ _ _ _ Z (lv_sub hl [0] rfl) hf
def f_X5_nextToken (u : St) : Option (Int32 × St) :=
  L_X5_nextToken_0 (fun u0 =>
    if (u0.1 1) < (u0.1 0) then
      if oob (u0.1 1) 150 then none else
      Option.bind (f_X5_isLetter ((u0.2.1 0) (Int32.toNatClampNeg (u0.1 1)))) fun r73 =>
      if r73 = 0 then
        Option.bind (f_X5_isDigit ((u0.2.1 0) (Int32.toNatClampNeg (u0.1 1)))) fun r93 =>
        if r93 = 0 then
          if ((u0.2.1 0) (Int32.toNatClampNeg (u0.1 1))) = 59 then
            some (3, (sI (sI (sI u0 2 (u0.1 1)) 3 0) 1 ((u0.1 1) + 1)))
          else
            some (4, (sI (sI (sI u0 2 (u0.1 1)) 3 0) 1 ((u0.1 1) + 1)))
        else
          Option.bind (f_X5_readNumber (sI (sI u0 2 (u0.1 1)) 3 0)) fun r100 =>
          some (r100.1, r100.2)
      else
        Option.bind (f_X5_readWord (sI (sI u0 2 (u0.1 1)) 3 0)) fun r80 =>
        some (r80.1, r80.2)
    else
      some (0, (sI (sI u0 2 (u0.1 1)) 3 0))) FU u
set_option maxHeartbeats 4000000 in
set_option maxRecDepth 100000 in
theorem c_X5_nextToken (l : Launch) {g : Gx} {u : St} {res : Int32 × St} (hf : f_X5_nextToken u = some res) : CI wC 82 l yX5_nextToken (wsY yX5_nextToken cX5_nextToken 2 (some .int)) (rmX 2 41) g [.ref (g.2.2 1)] u res.1 res.2 := by
  refine CI_start (by decide +kernel) rfl (Nat.le_of_ble_eq_true rfl) (fun {p e s m args below meth c ls} C Z hl => ?_)
  have hl : lv_has ls 2 [(0, .ref (g.2.2 1))] := hl
  have hx := C.1
  have hb := C.2.1
  unfold f_X5_nextToken at hf
  refine b_X5_nextToken_0 C (fun u0 H locs ls Z hl hf => ?_) FU _ _ _ _ Z (lv_sub hl [0] rfl) hf
  refine lv_aload_n hx hb dX5_nextToken_38 rfl (lv_at hl 0 rfl) ?_
  refine lv_aload_n hx hb dX5_nextToken_39 rfl (lv_at hl 0 rfl) ?_
  refine gC_1_2 C Z (fl_of C mw_128) dX5_nextToken_40 (x := (u0.1 1)) rfl ?_
  refine pC_1_3 C Z (fl_of C mw_130) dX5_nextToken_43 (fun H locs Z => ?_)
  refine lv_aload_n hx hb dX5_nextToken_46 rfl (lv_at hl 0 rfl) ?_
  refine lv_iconst (v := 0) hx hb dX5_nextToken_47 (by decide +kernel) ?_
  refine pC_1_4 C Z (fl_of C mw_132) dX5_nextToken_48 (fun H locs Z => ?_)
  refine lv_aload_n hx hb dX5_nextToken_51 rfl (lv_at hl 0 rfl) ?_
  refine gC_1_2 C Z (fl_of C mw_128) dX5_nextToken_52 (x := (u0.1 1)) rfl ?_
  refine lv_aload_n hx hb dX5_nextToken_55 rfl (lv_at hl 0 rfl) ?_
  refine gC_1_1 C Z (fl_of C mw_126) dX5_nextToken_56 (x := (u0.1 0)) rfl ?_
  refine lv_icmp_lt (tgt := 64) hx hb dX5_nextToken_59 (by decide) (fun hc59 => ?_) (fun hc59 => ?_)
  · rw [if_pos hc59] at hf
    refine lv_aload_n hx hb dX5_nextToken_64 rfl (lv_at hl 0 rfl) ?_
    refine gC_1_0 C Z (fl_of C mw_125) dX5_nextToken_65 ?_
    refine lv_aload_n hx hb dX5_nextToken_68 rfl (lv_at hl 0 rfl) ?_
    refine gC_1_2 C Z (fl_of C mw_128) dX5_nextToken_69 (x := (u0.1 1)) rfl ?_
    by_cases ho72 : oob (u0.1 1) 150 = true
    · rw [if_pos ho72] at hf; cases hf
    rw [if_neg ho72] at hf
    refine r_ald C Z (aC_2 g _ (f := (u0.2.1 0)) rfl) ho72 rfl dX5_nextToken_72 (x := ((u0.2.1 0) (Int32.toNatClampNeg (u0.1 1)))) rfl ?_
    obtain ⟨r73, hr73, hf⟩ := Option.bind_eq_some_iff.mp hf
    refine call_si (As := [.int ((u0.2.1 0) (Int32.toNatClampNeg (u0.1 1)))]) (rest := []) C Z (c_X5_isLetter l hr73) mf_X5_isLetter (ml_of C mw_369) rfl ⟨rfl, rfl, by decide, by decide⟩ rfl hl.1 (Nat.le_of_ble_eq_true rfl) dX5_nextToken_73 (fun H locs Z => ?_)
    refine lv_if_eq (tgt := 84) hx hb dX5_nextToken_76 (by decide) (fun hc76 => ?_) (fun hc76 => ?_)
    · rw [if_pos hc76] at hf
      refine lv_aload_n hx hb dX5_nextToken_84 rfl (lv_at hl 0 rfl) ?_
      refine gC_1_0 C Z (fl_of C mw_125) dX5_nextToken_85 ?_
      refine lv_aload_n hx hb dX5_nextToken_88 rfl (lv_at hl 0 rfl) ?_
      refine gC_1_2 C Z (fl_of C mw_128) dX5_nextToken_89 (x := (u0.1 1)) rfl ?_
      refine r_ald C Z (aC_2 g _ (f := (u0.2.1 0)) rfl) ho72 rfl dX5_nextToken_92 (x := ((u0.2.1 0) (Int32.toNatClampNeg (u0.1 1)))) rfl ?_
      obtain ⟨r93, hr93, hf⟩ := Option.bind_eq_some_iff.mp hf
      refine call_si (As := [.int ((u0.2.1 0) (Int32.toNatClampNeg (u0.1 1)))]) (rest := []) C Z (c_X5_isDigit l hr93) mf_X5_isDigit (ml_of C mw_376) rfl ⟨rfl, rfl, by decide, by decide⟩ rfl hl.1 (Nat.le_of_ble_eq_true rfl) dX5_nextToken_93 (fun H locs Z => ?_)
      refine lv_if_eq (tgt := 104) hx hb dX5_nextToken_96 (by decide) (fun hc96 => ?_) (fun hc96 => ?_)
      · rw [if_pos hc96] at hf
        refine lv_aload_n hx hb dX5_nextToken_104 rfl (lv_at hl 0 rfl) ?_
        refine gC_1_0 C Z (fl_of C mw_125) dX5_nextToken_105 ?_
        refine lv_aload_n hx hb dX5_nextToken_108 rfl (lv_at hl 0 rfl) ?_
        refine gC_1_2 C Z (fl_of C mw_128) dX5_nextToken_109 (x := (u0.1 1)) rfl ?_
        refine r_ald C Z (aC_2 g _ (f := (u0.2.1 0)) rfl) ho72 rfl dX5_nextToken_112 (x := ((u0.2.1 0) (Int32.toNatClampNeg (u0.1 1)))) rfl ?_
        refine lv_bipush (v := 59) hx hb dX5_nextToken_113 (by decide +kernel) ?_
        refine lv_icmp_ne (tgt := 122) hx hb dX5_nextToken_115 (by decide) (fun hc115 => ?_) (fun hc115 => ?_)
        · rw [if_neg hc115] at hf
          refine lv_iconst (v := 0) hx hb dX5_nextToken_122 (by decide +kernel) ?_
          refine lv_istore_n (lv' := [(1, .int 0), (0, .ref (g.2.2 1))]) hx hb dX5_nextToken_123 rfl hl (by decide) rfl (fun ls hl => ?_)
          refine lv_aload_n hx hb dX5_nextToken_124 rfl (lv_at hl 1 rfl) ?_
          refine lv_dup hx hb dX5_nextToken_125 rfl ?_
          refine gC_1_2 C Z (fl_of C mw_128) dX5_nextToken_126 (x := (u0.1 1)) rfl ?_
          refine lv_iconst (v := 1) hx hb dX5_nextToken_129 (by decide +kernel) ?_
          refine lv_iadd hx hb dX5_nextToken_130 ?_
          refine pC_1_2 C Z (fl_of C mw_128) dX5_nextToken_131 (fun H locs Z => ?_)
          refine lv_iload_n hx hb dX5_nextToken_134 rfl (lv_at hl 0 rfl) ?_
          refine lv_if_eq (tgt := 142) hx hb dX5_nextToken_135 (by decide) (fun _ => ?_) (fun hq => absurd (by decide) hq)
          refine lv_iconst (v := 4) hx hb dX5_nextToken_142 (by decide +kernel) ?_
          have hf := Option.some.inj hf
          subst hf
          exact ret_i C Z dX5_nextToken_143
        · rw [if_pos hc115] at hf
          refine lv_iconst (v := 1) hx hb dX5_nextToken_118 (by decide +kernel) ?_
          refine lv_goto (tgt := 123) hx hb dX5_nextToken_119 (by decide) ?_
          refine lv_istore_n (lv' := [(1, .int 1), (0, .ref (g.2.2 1))]) hx hb dX5_nextToken_123 rfl hl (by decide) rfl (fun ls hl => ?_)
          refine lv_aload_n hx hb dX5_nextToken_124 rfl (lv_at hl 1 rfl) ?_
          refine lv_dup hx hb dX5_nextToken_125 rfl ?_
          refine gC_1_2 C Z (fl_of C mw_128) dX5_nextToken_126 (x := (u0.1 1)) rfl ?_
          refine lv_iconst (v := 1) hx hb dX5_nextToken_129 (by decide +kernel) ?_
          refine lv_iadd hx hb dX5_nextToken_130 ?_
          refine pC_1_2 C Z (fl_of C mw_128) dX5_nextToken_131 (fun H locs Z => ?_)
          refine lv_iload_n hx hb dX5_nextToken_134 rfl (lv_at hl 0 rfl) ?_
          refine lv_if_eq (tgt := 142) hx hb dX5_nextToken_135 (by decide) (fun hq => absurd hq (by decide)) (fun _ => ?_)
          refine lv_iconst (v := 3) hx hb dX5_nextToken_138 (by decide +kernel) ?_
          refine lv_goto (tgt := 143) hx hb dX5_nextToken_139 (by decide) ?_
          have hf := Option.some.inj hf
          subst hf
          exact ret_i C Z dX5_nextToken_143
      · rw [if_neg hc96] at hf
        refine lv_aload_n hx hb dX5_nextToken_99 rfl (lv_at hl 0 rfl) ?_
        obtain ⟨r100, hr100, hf⟩ := Option.bind_eq_some_iff.mp hf
        refine call_vi (As := []) (rest := []) C Z (c_X5_readNumber l hr100) mf_X5_readNumber (ml_of C mw_379) rfl (oC_1 g _) rfl ⟨rfl, rfl, by decide, by decide⟩ rfl hl.1 (Nat.le_of_ble_eq_true rfl) dX5_nextToken_100 (fun H locs Z => ?_)
        have hf := Option.some.inj hf
        subst hf
        exact ret_i C Z dX5_nextToken_103
    · rw [if_neg hc76] at hf
      refine lv_aload_n hx hb dX5_nextToken_79 rfl (lv_at hl 0 rfl) ?_
      obtain ⟨r80, hr80, hf⟩ := Option.bind_eq_some_iff.mp hf
      refine call_vi (As := []) (rest := []) C Z (c_X5_readWord l hr80) mf_X5_readWord (ml_of C mw_372) rfl (oC_1 g _) rfl ⟨rfl, rfl, by decide, by decide⟩ rfl hl.1 (Nat.le_of_ble_eq_true rfl) dX5_nextToken_80 (fun H locs Z => ?_)
      have hf := Option.some.inj hf
      subst hf
      exact ret_i C Z dX5_nextToken_83
  · rw [if_neg hc59] at hf
    refine lv_iconst (v := 0) hx hb dX5_nextToken_62 (by decide +kernel) ?_
    have hf := Option.some.inj hf
    subst hf
    exact ret_i C Z dX5_nextToken_63
