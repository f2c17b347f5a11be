def f_X8_isFigure (x0 : Int32) : Option (Int32) :=
  Option.bind (f_X8_in x0 48 57) fun r5 =>
  if nb r5 then some r5 else none
set_option maxHeartbeats 4000000 in
set_option maxRecDepth 100000 in
theorem c_X8_isFigure (l : Launch) {g : Gx} {u : St} {x0 : Int32} {res : Int32} (hf : f_X8_isFigure x0 = some res) : CI wM 22 l yX8_isFigure (wsY yX8_isFigure cX8_isFigure 1 (some .boolean)) (rmX 1 22) g [.int x0] u res u := by
  refine CI_start (by decide +kernel) rfl (Nat.le_of_ble_eq_true rfl) (fun {p e s m args below meth c ls} C Z hl => ?_)
  have hl : lv_has ls 1 [(0, .int x0)] := hl
  have hx := C.1
  have hb := C.2.1
  unfold f_X8_isFigure at hf
  refine lv_iload_n hx hb dX8_isFigure_0 rfl (lv_at hl 0 rfl) ?_
  refine lv_bipush (v := 48) hx hb dX8_isFigure_1 (by decide +kernel) ?_
  refine lv_bipush (v := 57) hx hb dX8_isFigure_3 (by decide +kernel) ?_
  obtain ⟨r5, hr5, hf⟩ := Option.bind_eq_some_iff.mp hf
  refine call_si (As := [.int x0, .int 48, .int 57]) (rest := []) C Z (c_X8_in l hr5) mf_X8_in (ml_of C mw_934) rfl ⟨rfl, rfl, by decide, by decide⟩ rfl hl.1 (Nat.le_of_ble_eq_true rfl) dX8_isFigure_5 (fun H locs Z => ?_)
  by_cases hn8 : nb r5 = true
  · rw [if_pos hn8] at hf
    have hf := Option.some.inj hf
    subst hf
    exact ret_z C Z hn8 dX8_isFigure_8
  · rw [if_neg hn8] at hf
    cases hf
def f_X8_isLetter (x0 : Int32) : Option (Int32) :=
  Option.bind (f_X8_in x0 97 122) fun r5 =>
  if nb r5 then some r5 else none
set_option maxHeartbeats 4000000 in
set_option maxRecDepth 100000 in
theorem c_X8_isLetter (l : Launch) {g : Gx} {u : St} {x0 : Int32} {res : Int32} (hf : f_X8_isLetter x0 = some res) : CI wM 22 l yX8_isLetter (wsY yX8_isLetter cX8_isLetter 1 (some .boolean)) (rmX 1 22) g [.int x0] u res u := by
  refine CI_start (by decide +kernel) rfl (Nat.le_of_ble_eq_true rfl) (fun {p e s m args below meth c ls} C Z hl => ?_)
  have hl : lv_has ls 1 [(0, .int x0)] := hl
  have hx := C.1
  have hb := C.2.1
  unfold f_X8_isLetter at hf
  refine lv_iload_n hx hb dX8_isLetter_0 rfl (lv_at hl 0 rfl) ?_
  refine lv_bipush (v := 97) hx hb dX8_isLetter_1 (by decide +kernel) ?_
  refine lv_bipush (v := 122) hx hb dX8_isLetter_3 (by decide +kernel) ?_
  obtain ⟨r5, hr5, hf⟩ := Option.bind_eq_some_iff.mp hf
  refine call_si (As := [.int x0, .int 97, .int 122]) (rest := []) C Z (c_X8_in l hr5) mf_X8_in (ml_of C mw_934) rfl ⟨rfl, rfl, by decide, by decide⟩ rfl hl.1 (Nat.le_of_ble_eq_true rfl) dX8_isLetter_5 (fun H locs Z => ?_)
  by_cases hn8 : nb r5 = true
  · rw [if_pos hn8] at hf
    have hf := Option.some.inj hf
    subst hf
    exact ret_z C Z hn8 dX8_isLetter_8
  · rw [if_neg hn8] at hf
    cases hf
def L_X8_next_0 (k : St → Option (St)) : Nat → St → Option (St)
  | 0, _ => none
  | n + 1, u =>
    Option.bind (f_X8_letterAt u (u.1 6)) fun r5 =>
    if r5 = 32 then
      L_X8_next_0 k n (sI u 6 ((u.1 6) + 1))
    else
      k u
set_option maxHeartbeats 4000000 in
set_option maxRecDepth 100000 in
theorem b_X8_next_0 {p : Program} {l : Launch} {e : Env} {s : State} {m : MethodId} {args : Array Value} {below : List Frame} {meth : Method} {c : Code} {g : Gx} {res : St} {k : St → Option (St)} (C : Cx p s m meth c args cX8_next RX8 2 (none) 22 g)
    (hk : ∀ (u : St) (H : Heap) (locs : List Loc) (ls : Array Slot), Zx wM g (Aw 22 g s.heap.size) s H locs u → lv_has ls 2 [(0, .ref (g.2.2 0))] → k u = some res → W p l e (rmX 2 42) s m args below meth c H locs 0 0 (QV wM 22 g res below args s) (F0 m 26 ls [])) :
    ∀ (n : Nat) (u : St) (H : Heap) (locs : List Loc) (ls : Array Slot), Zx wM g (Aw 22 g s.heap.size) s H locs u → lv_has ls 2 [(0, .ref (g.2.2 0))] → L_X8_next_0 k n u = some res → W p l e (rmX 2 42) s m args below meth c H locs 0 0 (QV wM 22 g res below args s) (F0 m 0 ls []) := by
  have hx := C.1
  have hb := C.2.1
  intro n
  induction n with
  | zero =>
    intro u H locs ls Z hl hf
    rw [L_X8_next_0.eq_1] at hf
    cases hf
  | succ n ih =>
    intro u H locs ls Z hl hf
    rw [L_X8_next_0.eq_2] at hf
    refine lv_aload_n hx hb dX8_next_0 rfl (lv_at hl 0 rfl) ?_
    refine lv_aload_n hx hb dX8_next_1 rfl (lv_at hl 0 rfl) ?_
    refine gM_0_20 C Z (fl_of C mw_837) dX8_next_2 (x := (u.1 6)) rfl ?_
    obtain ⟨r5, hr5, hf⟩ := Option.bind_eq_some_iff.mp hf
    refine call_vi (As := [.int (u.1 6)]) (rest := []) C Z (c_X8_letterAt l hr5) mf_X8_letterAt (ml_of C mw_949) rfl (oM_0 g _) rfl ⟨rfl, rfl, by decide, by decide⟩ rfl hl.1 (Nat.le_of_ble_eq_true rfl) dX8_next_5 (fun H locs Z => ?_)
    refine lv_bipush (v := 32) hx hb dX8_next_8 (by decide +kernel) ?_
    refine lv_icmp_ne (tgt := 26) hx hb dX8_next_10 (by decide) (fun hc10 => ?_) (fun hc10 => ?_)
    · rw [if_neg hc10] at hf
      exact hk _ H locs ls Z (lv_sub hl [0] rfl) hf
    · rw [if_pos hc10] at hf
      refine lv_aload_n hx hb dX8_next_13 rfl (lv_at hl 0 rfl) ?_
      refine lv_dup hx hb dX8_next_14 rfl ?_
      refine gM_0_20 C Z (fl_of C mw_837) dX8_next_15 (x := (u.1 6)) rfl ?_
      refine lv_iconst (v := 1) hx hb dX8_next_18 (by decide +kernel) ?_
      refine lv_iadd hx hb dX8_next_19 ?_
      refine pM_0_20 C Z (fl_of C mw_837) dX8_next_20 (fun H locs Z => ?_)
      refine lv_goto (tgt := 0) hx hb dX8_next_23 (by decide) ?_
      exact ih _ _ _ _ Z (lv_sub hl [0] rfl) hf
def L_X8_next_180 (k : St → Option (St)) : Nat → St → Option (St)
  | 0, _ => none
  | n + 1, u =>
    Option.bind (f_X8_letterAt u (u.1 6)) fun r185 =>
    Option.bind (f_X8_isLetter r185) fun r188 =>
    if r188 = 0 then
      k u
    else
      L_X8_next_180 k n (sI u 6 ((u.1 6) + 1))
set_option maxHeartbeats 4000000 in
set_option maxRecDepth 100000 in
theorem b_X8_next_180 {p : Program} {l : Launch} {e : Env} {s : State} {m : MethodId} {args : Array Value} {below : List Frame} {meth : Method} {c : Code} {g : Gx} {x1 : Int32} {res : St} {k : St → Option (St)} (C : Cx p s m meth c args cX8_next RX8 2 (none) 22 g)
    (hk : ∀ (u : St) (H : Heap) (locs : List Loc) (ls : Array Slot), Zx wM g (Aw 22 g s.heap.size) s H locs u → lv_has ls 2 [(0, .ref (g.2.2 0)), (1, .int x1)] → k u = some res → W p l e (rmX 2 42) s m args below meth c H locs 0 0 (QV wM 22 g res below args s) (F0 m 207 ls [])) :
    ∀ (n : Nat) (u : St) (H : Heap) (locs : List Loc) (ls : Array Slot), Zx wM g (Aw 22 g s.heap.size) s H locs u → lv_has ls 2 [(0, .ref (g.2.2 0)), (1, .int x1)] → L_X8_next_180 k n u = some res → W p l e (rmX 2 42) s m args below meth c H locs 0 0 (QV wM 22 g res below args s) (F0 m 180 ls []) := by
  have hx := C.1
  have hb := C.2.1
  intro n
  induction n with
  | zero =>
    intro u H locs ls Z hl hf
    rw [L_X8_next_180.eq_1] at hf
    cases hf
  | succ n ih =>
    intro u H locs ls Z hl hf
    rw [L_X8_next_180.eq_2] at hf
    refine lv_aload_n hx hb dX8_next_180 rfl (lv_at hl 0 rfl) ?_
    refine lv_aload_n hx hb dX8_next_181 rfl (lv_at hl 0 rfl) ?_
    refine gM_0_20 C Z (fl_of C mw_837) dX8_next_182 (x := (u.1 6)) rfl ?_
    obtain ⟨r185, hr185, hf⟩ := Option.bind_eq_some_iff.mp hf
    refine call_vi (As := [.int (u.1 6)]) (rest := []) C Z (c_X8_letterAt l hr185) mf_X8_letterAt (ml_of C mw_949) rfl (oM_0 g _) rfl ⟨rfl, rfl, by decide, by decide⟩ rfl hl.1 (Nat.le_of_ble_eq_true rfl) dX8_next_185 (fun H locs Z => ?_)
    obtain ⟨r188, hr188, hf⟩ := Option.bind_eq_some_iff.mp hf
    refine call_si (As := [.int r185]) (rest := []) C Z (c_X8_isLetter l hr188) mf_X8_isLetter (ml_of C mw_956) rfl ⟨rfl, rfl, by decide, by decide⟩ rfl hl.1 (Nat.le_of_ble_eq_true rfl) dX8_next_188 (fun H locs Z => ?_)
    refine lv_if_eq (tgt := 207) hx hb dX8_next_191 (by decide) (fun hc191 => ?_) (fun hc191 => ?_)
    · rw [if_pos hc191] at hf
      exact hk _ H locs ls Z (lv_sub hl [0, 1] rfl) hf
    · rw [if_neg hc191] at hf
      refine lv_aload_n hx hb dX8_next_194 rfl (lv_at hl 0 rfl) ?_
      refine lv_dup hx hb dX8_next_195 rfl ?_
      refine gM_0_20 C Z (fl_of C mw_837) dX8_next_196 (x := (u.1 6)) rfl ?_
      refine lv_iconst (v := 1) hx hb dX8_next_199 (by decide +kernel) ?_
      refine lv_iadd hx hb dX8_next_200 ?_
      refine pM_0_20 C Z (fl_of C mw_837) dX8_next_201 (fun H locs Z => ?_)
      refine lv_goto (tgt := 180) hx hb dX8_next_204 (by decide) ?_
      exact ih _ _ _ _ Z (lv_sub hl [0, 1] rfl) hf
def L_X8_next_67 (k : St → Option (St)) : Nat → St → Option (St)
  | 0, _ => none
  | n + 1, u =>
    Option.bind (f_X8_letterAt u (u.1 6)) fun r72 =>
    Option.bind (f_X8_isFigure r72) fun r75 =>
    if r75 = 0 then
      k u
    else
      if (u.1 9) ≤ 99 then
        Option.bind (f_X8_letterAt u (u.1 6)) fun r110 =>
        L_X8_next_67 k n (sI (sI u 9 (((10 * (u.1 9)) + r110) - 48)) 6 ((u.1 6) + 1))
      else
        L_X8_next_67 k n (sI (sI u 9 (u.1 9)) 6 ((u.1 6) + 1))
set_option maxHeartbeats 4000000 in
set_option maxRecDepth 100000 in
theorem b_X8_next_67 {p : Program} {l : Launch} {e : Env} {s : State} {m : MethodId} {args : Array Value} {below : List Frame} {meth : Method} {c : Code} {g : Gx} {x1 : Int32} {res : St} {k : St → Option (St)} (C : Cx p s m meth c args cX8_next RX8 2 (none) 22 g)
    (hk : ∀ (u : St) (H : Heap) (locs : List Loc) (ls : Array Slot), Zx wM g (Aw 22 g s.heap.size) s H locs u → lv_has ls 2 [(0, .ref (g.2.2 0)), (1, .int x1)] → k u = some res → W p l e (rmX 2 42) s m args below meth c H locs 0 0 (QV wM 22 g res below args s) (F0 m 133 ls [])) :
    ∀ (n : Nat) (u : St) (H : Heap) (locs : List Loc) (ls : Array Slot), Zx wM g (Aw 22 g s.heap.size) s H locs u → lv_has ls 2 [(0, .ref (g.2.2 0)), (1, .int x1)] → L_X8_next_67 k n u = some res → W p l e (rmX 2 42) s m args below meth c H locs 0 0 (QV wM 22 g res below args s) (F0 m 67 ls []) := by
  have hx := C.1
  have hb := C.2.1
  intro n
  induction n with
  | zero =>
    intro u H locs ls Z hl hf
    rw [L_X8_next_67.eq_1] at hf
    cases hf
  | succ n ih =>
    intro u H locs ls Z hl hf
    rw [L_X8_next_67.eq_2] at hf
    refine lv_aload_n hx hb dX8_next_67 rfl (lv_at hl 0 rfl) ?_
    refine lv_aload_n hx hb dX8_next_68 rfl (lv_at hl 0 rfl) ?_
    refine gM_0_20 C Z (fl_of C mw_837) dX8_next_69 (x := (u.1 6)) rfl ?_
    obtain ⟨r72, hr72, hf⟩ := Option.bind_eq_some_iff.mp hf
    refine call_vi (As := [.int (u.1 6)]) (rest := []) C Z (c_X8_letterAt l hr72) mf_X8_letterAt (ml_of C mw_949) rfl (oM_0 g _) rfl ⟨rfl, rfl, by decide, by decide⟩ rfl hl.1 (Nat.le_of_ble_eq_true rfl) dX8_next_72 (fun H locs Z => ?_)
    obtain ⟨r75, hr75, hf⟩ := Option.bind_eq_some_iff.mp hf
    refine call_si (As := [.int r72]) (rest := []) C Z (c_X8_isFigure l hr75) mf_X8_isFigure (ml_of C mw_953) rfl ⟨rfl, rfl, by decide, by decide⟩ rfl hl.1 (Nat.le_of_ble_eq_true rfl) dX8_next_75 (fun H locs Z => ?_)
    refine lv_if_eq (tgt := 133) hx hb dX8_next_78 (by decide) (fun hc78 => ?_) (fun hc78 => ?_)
    · rw [if_pos hc78] at hf
      exact hk _ H locs ls Z (lv_sub hl [0, 1] rfl) hf
    · rw [if_neg hc78] at hf
      refine lv_aload_n hx hb dX8_next_81 rfl (lv_at hl 0 rfl) ?_
      refine lv_aload_n hx hb dX8_next_82 rfl (lv_at hl 0 rfl) ?_
      refine gM_0_23 C Z (fl_of C mw_840) dX8_next_83 (x := (u.1 9)) rfl ?_
      refine lv_bipush (v := 99) hx hb dX8_next_86 (by decide +kernel) ?_
      refine lv_icmp_le (tgt := 98) hx hb dX8_next_88 (by decide) (fun hc88 => ?_) (fun hc88 => ?_)
      · rw [if_pos hc88] at hf
        refine lv_bipush (v := 10) hx hb dX8_next_98 (by decide +kernel) ?_
        refine lv_aload_n hx hb dX8_next_100 rfl (lv_at hl 0 rfl) ?_
        refine gM_0_23 C Z (fl_of C mw_840) dX8_next_101 (x := (u.1 9)) rfl ?_
        refine lv_imul hx hb dX8_next_104 ?_
        refine lv_aload_n hx hb dX8_next_105 rfl (lv_at hl 0 rfl) ?_
        refine lv_aload_n hx hb dX8_next_106 rfl (lv_at hl 0 rfl) ?_
        refine gM_0_20 C Z (fl_of C mw_837) dX8_next_107 (x := (u.1 6)) rfl ?_
        obtain ⟨r110, hr110, hf⟩ := Option.bind_eq_some_iff.mp hf
        refine call_vi (As := [.int (u.1 6)]) (rest := [.int (10 * (u.1 9)), .ref (g.2.2 0)]) C Z (c_X8_letterAt l hr110) mf_X8_letterAt (ml_of C mw_949) rfl (oM_0 g _) rfl ⟨rfl, rfl, by decide, by decide⟩ rfl hl.1 (Nat.le_of_ble_eq_true rfl) dX8_next_110 (fun H locs Z => ?_)
        refine lv_iadd hx hb dX8_next_113 ?_
        refine lv_bipush (v := 48) hx hb dX8_next_114 (by decide +kernel) ?_
        refine lv_isub hx hb dX8_next_116 ?_
        refine pM_0_23 C Z (fl_of C mw_840) dX8_next_117 (fun H locs Z => ?_)
        refine lv_aload_n hx hb dX8_next_120 rfl (lv_at hl 0 rfl) ?_
        refine lv_dup hx hb dX8_next_121 rfl ?_
        refine gM_0_20 C Z (fl_of C mw_837) dX8_next_122 (x := (u.1 6)) rfl ?_
        refine lv_iconst (v := 1) hx hb dX8_next_125 (by decide +kernel) ?_
        refine lv_iadd hx hb dX8_next_126 ?_
        refine pM_0_20 C Z (fl_of C mw_837) dX8_next_127 (fun H locs Z => ?_)
        refine lv_goto (tgt := 67) hx hb dX8_next_130 (by decide) ?_
        exact ih _ _ _ _ Z (lv_sub hl [0, 1] rfl) hf
      · rw [if_neg hc88] at hf
        refine lv_aload_n hx hb dX8_next_91 rfl (lv_at hl 0 rfl) ?_
        refine gM_0_23 C Z (fl_of C mw_840) dX8_next_92 (x := (u.1 9)) rfl ?_
        refine lv_goto (tgt := 117) hx hb dX8_next_95 (by decide) ?_
        refine pM_0_23 C Z (fl_of C mw_840) dX8_next_117 (fun H locs Z => ?_)
        refine lv_aload_n hx hb dX8_next_120 rfl (lv_at hl 0 rfl) ?_
        refine lv_dup hx hb dX8_next_121 rfl ?_
        refine gM_0_20 C Z (fl_of C mw_837) dX8_next_122 (x := (u.1 6)) rfl ?_
        refine lv_iconst (v := 1) hx hb dX8_next_125 (by decide +kernel) ?_
        refine lv_iadd hx hb dX8_next_126 ?_
        refine pM_0_20 C Z (fl_of C mw_837) dX8_next_127 (fun H locs Z => ?_)
        refine lv_goto (tgt := 67) hx hb dX8_next_130 (by decide) ?_
        exact ih _ _ _ _ Z (lv_sub hl [0, 1] rfl) hf
def f_X8_next (u : St) : Option (St) :=
  L_X8_next_0 (fun u0 =>
    Option.bind (f_X8_letterAt (sI u0 7 (u0.1 6)) (u0.1 6)) fun r39 =>
    if 0 ≤ r39 then
      Option.bind (f_X8_isFigure r39) fun r61 =>
      if r61 = 0 then
        Option.bind (f_X8_isLetter r39) fun r174 =>
        if r174 = 0 then
          if r39 = 59 then
            some (sI (sI (sI (sI u0 7 (u0.1 6)) 9 0) 8 3) 6 ((u0.1 6) + 1))
          else
            some (sI (sI (sI (sI u0 7 (u0.1 6)) 9 0) 8 4) 6 ((u0.1 6) + 1))
        else
          L_X8_next_180 (fun u180 =>
            if ((u180.1 6) - (u180.1 7)) = 1 then
              some (sI (sI u180 8 1) 9 r39)
            else
              some (sI (sI u180 8 1) 9 0)) FU (sI (sI u0 7 (u0.1 6)) 9 0)
      else
        L_X8_next_67 (fun u67 =>
          if 99 < (u67.1 9) then
            some (sI u67 8 4)
          else
            if r39 = 48 then
              if ((u67.1 6) - (u67.1 7)) ≤ 1 then
                some (sI u67 8 2)
              else
                some (sI u67 8 4)
            else
              some (sI u67 8 2)) FU (sI (sI u0 7 (u0.1 6)) 9 0)
    else
      some (sI (sI (sI u0 7 (u0.1 6)) 9 0) 8 0)) FU u
set_option maxHeartbeats 4000000 in
set_option maxRecDepth 100000 in
theorem c_X8_next (l : Launch) {g : Gx} {u : St} {res : St} (hf : f_X8_next u = some res) : CV wM 22 l yX8_next (wsY yX8_next cX8_next 2 (none)) (rmX 2 42) g [.ref (g.2.2 0)] u res := by
  refine CV_start (by decide +kernel) rfl (Nat.le_of_ble_eq_true rfl) (fun {p e s m args below meth c ls} C Z hl => ?_)
  have hl : lv_has ls 2 [(0, .ref (g.2.2 0))] := hl
  have hx := C.1
  have hb := C.2.1
  unfold f_X8_next at hf
  refine b_X8_next_0 C (fun u0 H locs ls Z hl hf => ?_) FU _ _ _ _ Z (lv_sub hl [0] rfl) hf
  refine lv_aload_n hx hb dX8_next_26 rfl (lv_at hl 0 rfl) ?_
  refine lv_aload_n hx hb dX8_next_27 rfl (lv_at hl 0 rfl) ?_
  refine gM_0_20 C Z (fl_of C mw_837) dX8_next_28 (x := (u0.1 6)) rfl ?_
  refine pM_0_21 C Z (fl_of C mw_838) dX8_next_31 (fun H locs Z => ?_)
  refine lv_aload_n hx hb dX8_next_34 rfl (lv_at hl 0 rfl) ?_
  refine lv_aload_n hx hb dX8_next_35 rfl (lv_at hl 0 rfl) ?_
  refine gM_0_20 C Z (fl_of C mw_837) dX8_next_36 (x := (u0.1 6)) rfl ?_
  obtain ⟨r39, hr39, hf⟩ := Option.bind_eq_some_iff.mp hf
  refine call_vi (As := [.int (u0.1 6)]) (rest := []) C Z (c_X8_letterAt l hr39) mf_X8_letterAt (ml_of C mw_949) rfl (oM_0 g _) rfl ⟨rfl, rfl, by decide, by decide⟩ rfl hl.1 (Nat.le_of_ble_eq_true rfl) dX8_next_39 (fun H locs Z => ?_)
  refine lv_istore_n (lv' := [(1, .int r39), (0, .ref (g.2.2 0))]) hx hb dX8_next_42 rfl hl (by decide) rfl (fun ls hl => ?_)
  refine lv_aload_n hx hb dX8_next_43 rfl (lv_at hl 1 rfl) ?_
  refine lv_iconst (v := 0) hx hb dX8_next_44 (by decide +kernel) ?_
  refine pM_0_23 C Z (fl_of C mw_840) dX8_next_45 (fun H locs Z => ?_)
  refine lv_iload_n hx hb dX8_next_48 rfl (lv_at hl 0 rfl) ?_
  refine lv_if_ge (tgt := 60) hx hb dX8_next_49 (by decide) (fun hc49 => ?_) (fun hc49 => ?_)
  · rw [if_pos hc49] at hf
    refine lv_iload_n hx hb dX8_next_60 rfl (lv_at hl 0 rfl) ?_
    obtain ⟨r61, hr61, hf⟩ := Option.bind_eq_some_iff.mp hf
    refine call_si (As := [.int r39]) (rest := []) C Z (c_X8_isFigure l hr61) mf_X8_isFigure (ml_of C mw_953) rfl ⟨rfl, rfl, by decide, by decide⟩ rfl hl.1 (Nat.le_of_ble_eq_true rfl) dX8_next_61 (fun H locs Z => ?_)
    refine lv_if_eq (tgt := 173) hx hb dX8_next_64 (by decide) (fun hc64 => ?_) (fun hc64 => ?_)
    · rw [if_pos hc64] at hf
      refine lv_iload_n hx hb dX8_next_173 rfl (lv_at hl 0 rfl) ?_
      obtain ⟨r174, hr174, hf⟩ := Option.bind_eq_some_iff.mp hf
      refine call_si (As := [.int r39]) (rest := []) C Z (c_X8_isLetter l hr174) mf_X8_isLetter (ml_of C mw_956) rfl ⟨rfl, rfl, by decide, by decide⟩ rfl hl.1 (Nat.le_of_ble_eq_true rfl) dX8_next_174 (fun H locs Z => ?_)
      refine lv_if_eq (tgt := 237) hx hb dX8_next_177 (by decide) (fun hc177 => ?_) (fun hc177 => ?_)
      · rw [if_pos hc177] at hf
        refine lv_aload_n hx hb dX8_next_237 rfl (lv_at hl 1 rfl) ?_
        refine lv_iload_n hx hb dX8_next_238 rfl (lv_at hl 0 rfl) ?_
        refine lv_bipush (v := 59) hx hb dX8_next_239 (by decide +kernel) ?_
        refine lv_icmp_ne (tgt := 248) hx hb dX8_next_241 (by decide) (fun hc241 => ?_) (fun hc241 => ?_)
        · rw [if_neg hc241] at hf
          refine lv_iconst (v := 4) hx hb dX8_next_248 (by decide +kernel) ?_
          refine pM_0_22 C Z (fl_of C mw_839) dX8_next_249 (fun H locs Z => ?_)
          refine lv_aload_n hx hb dX8_next_252 rfl (lv_at hl 1 rfl) ?_
          refine lv_dup hx hb dX8_next_253 rfl ?_
          refine gM_0_20 C Z (fl_of C mw_837) dX8_next_254 (x := (u0.1 6)) rfl ?_
          refine lv_iconst (v := 1) hx hb dX8_next_257 (by decide +kernel) ?_
          refine lv_iadd hx hb dX8_next_258 ?_
          refine pM_0_20 C Z (fl_of C mw_837) dX8_next_259 (fun H locs Z => ?_)
          have hf := Option.some.inj hf
          subst hf
          exact ret_v C Z dX8_next_262
        · rw [if_pos hc241] at hf
          refine lv_iconst (v := 3) hx hb dX8_next_244 (by decide +kernel) ?_
          refine lv_goto (tgt := 249) hx hb dX8_next_245 (by decide) ?_
          refine pM_0_22 C Z (fl_of C mw_839) dX8_next_249 (fun H locs Z => ?_)
          refine lv_aload_n hx hb dX8_next_252 rfl (lv_at hl 1 rfl) ?_
          refine lv_dup hx hb dX8_next_253 rfl ?_
          refine gM_0_20 C Z (fl_of C mw_837) dX8_next_254 (x := (u0.1 6)) rfl ?_
          refine lv_iconst (v := 1) hx hb dX8_next_257 (by decide +kernel) ?_
          refine lv_iadd hx hb dX8_next_258 ?_
          refine pM_0_20 C Z (fl_of C mw_837) dX8_next_259 (fun H locs Z => ?_)
          have hf := Option.some.inj hf
          subst hf
          exact ret_v C Z dX8_next_262
      · rw [if_neg hc177] at hf
        refine b_X8_next_180 C (fun u180 H locs ls Z hl hf => ?_) FU _ _ _ _ Z (lv_sub hl [1, 0] rfl) hf
        refine lv_aload_n hx hb dX8_next_207 rfl (lv_at hl 0 rfl) ?_
        refine lv_iconst (v := 1) hx hb dX8_next_208 (by decide +kernel) ?_
        refine pM_0_22 C Z (fl_of C mw_839) dX8_next_209 (fun H locs Z => ?_)
        refine lv_aload_n hx hb dX8_next_212 rfl (lv_at hl 0 rfl) ?_
        refine lv_aload_n hx hb dX8_next_213 rfl (lv_at hl 0 rfl) ?_
        refine gM_0_20 C Z (fl_of C mw_837) dX8_next_214 (x := (u180.1 6)) rfl ?_
        refine lv_aload_n hx hb dX8_next_217 rfl (lv_at hl 0 rfl) ?_
        refine gM_0_21 C Z (fl_of C mw_838) dX8_next_218 (x := (u180.1 7)) rfl ?_
        refine lv_isub hx hb dX8_next_221 ?_
        refine lv_iconst (v := 1) hx hb dX8_next_222 (by decide +kernel) ?_
        refine lv_icmp_ne (tgt := 230) hx hb dX8_next_223 (by decide) (fun hc223 => ?_) (fun hc223 => ?_)
        · rw [if_neg hc223] at hf
          refine lv_iconst (v := 0) hx hb dX8_next_230 (by decide +kernel) ?_
          refine pM_0_23 C Z (fl_of C mw_840) dX8_next_231 (fun H locs Z => ?_)
          refine lv_goto (tgt := 262) hx hb dX8_next_234 (by decide) ?_
          have hf := Option.some.inj hf
          subst hf
          exact ret_v C Z dX8_next_262
        · rw [if_pos hc223] at hf
          refine lv_iload_n hx hb dX8_next_226 rfl (lv_at hl 1 rfl) ?_
          refine lv_goto (tgt := 231) hx hb dX8_next_227 (by decide) ?_
          refine pM_0_23 C Z (fl_of C mw_840) dX8_next_231 (fun H locs Z => ?_)
          refine lv_goto (tgt := 262) hx hb dX8_next_234 (by decide) ?_
          have hf := Option.some.inj hf
          subst hf
          exact ret_v C Z dX8_next_262
    · rw [if_neg hc64] at hf
      refine b_X8_next_67 C (fun u67 H locs ls Z hl hf => ?_) FU _ _ _ _ Z (lv_sub hl [1, 0] rfl) hf
      refine lv_aload_n hx hb dX8_next_133 rfl (lv_at hl 0 rfl) ?_
      refine lv_aload_n hx hb dX8_next_134 rfl (lv_at hl 0 rfl) ?_
      refine gM_0_23 C Z (fl_of C mw_840) dX8_next_135 (x := (u67.1 9)) rfl ?_
      refine lv_bipush (v := 99) hx hb dX8_next_138 (by decide +kernel) ?_
      refine lv_icmp_gt (tgt := 162) hx hb dX8_next_140 (by decide) (fun hc140 => ?_) (fun hc140 => ?_)
      · rw [if_pos hc140] at hf
        refine lv_iconst (v := 4) hx hb dX8_next_162 (by decide +kernel) ?_
        refine lv_goto (tgt := 167) hx hb dX8_next_163 (by decide) ?_
        refine pM_0_22 C Z (fl_of C mw_839) dX8_next_167 (fun H locs Z => ?_)
        refine lv_goto (tgt := 262) hx hb dX8_next_170 (by decide) ?_
        have hf := Option.some.inj hf
        subst hf
        exact ret_v C Z dX8_next_262
      · rw [if_neg hc140] at hf
        refine lv_iload_n hx hb dX8_next_143 rfl (lv_at hl 1 rfl) ?_
        refine lv_bipush (v := 48) hx hb dX8_next_144 (by decide +kernel) ?_
        refine lv_icmp_ne (tgt := 166) hx hb dX8_next_146 (by decide) (fun hc146 => ?_) (fun hc146 => ?_)
        · rw [if_neg hc146] at hf
          refine lv_iconst (v := 2) hx hb dX8_next_166 (by decide +kernel) ?_
          refine pM_0_22 C Z (fl_of C mw_839) dX8_next_167 (fun H locs Z => ?_)
          refine lv_goto (tgt := 262) hx hb dX8_next_170 (by decide) ?_
          have hf := Option.some.inj hf
          subst hf
          exact ret_v C Z dX8_next_262
        · rw [if_pos hc146] at hf
          refine lv_aload_n hx hb dX8_next_149 rfl (lv_at hl 0 rfl) ?_
          refine gM_0_20 C Z (fl_of C mw_837) dX8_next_150 (x := (u67.1 6)) rfl ?_
          refine lv_aload_n hx hb dX8_next_153 rfl (lv_at hl 0 rfl) ?_
          refine gM_0_21 C Z (fl_of C mw_838) dX8_next_154 (x := (u67.1 7)) rfl ?_
          refine lv_isub hx hb dX8_next_157 ?_
          refine lv_iconst (v := 1) hx hb dX8_next_158 (by decide +kernel) ?_
          refine lv_icmp_le (tgt := 166) hx hb dX8_next_159 (by decide) (fun hc159 => ?_) (fun hc159 => ?_)
          · rw [if_pos hc159] at hf
            refine lv_iconst (v := 2) hx hb dX8_next_166 (by decide +kernel) ?_
            refine pM_0_22 C Z (fl_of C mw_839) dX8_next_167 (fun H locs Z => ?_)
            refine lv_goto (tgt := 262) hx hb dX8_next_170 (by decide) ?_
            have hf := Option.some.inj hf
            subst hf
            exact ret_v C Z dX8_next_262
          · rw [if_neg hc159] at hf
            refine lv_iconst (v := 4) hx hb dX8_next_162 (by decide +kernel) ?_
            refine lv_goto (tgt := 167) hx hb dX8_next_163 (by decide) ?_
            refine pM_0_22 C Z (fl_of C mw_839) dX8_next_167 (fun H locs Z => ?_)
            refine lv_goto (tgt := 262) hx hb dX8_next_170 (by decide) ?_
            have hf := Option.some.inj hf
            subst hf
            exact ret_v C Z dX8_next_262
  · rw [if_neg hc49] at hf
    refine lv_aload_n hx hb dX8_next_52 rfl (lv_at hl 1 rfl) ?_
    refine lv_iconst (v := 0) hx hb dX8_next_53 (by decide +kernel) ?_
    refine pM_0_22 C Z (fl_of C mw_839) dX8_next_54 (fun H locs Z => ?_)
    refine lv_goto (tgt := 262) hx hb dX8_next_57 (by decide) ?_
    have hf := Option.some.inj hf
    subst hf
    exact ret_v C Z dX8_next_262
def f_X8_mayBegin (u : St) (x1 : Int32) : Option (Int32) :=
  if x1 = 99 then
    if 5 ≤ (u.1 12) then
      some 0
    else
      some 1
  else
  if x1 = 112 then
    if 4 ≤ (u.1 13) then
      some 0
    else
      some 1
  else
  if x1 = 114 then
    some 1
  else
  if x1 = 115 then
    if 4 ≤ (u.1 14) then
      some 0
    else
      some 1
  else
  some 0
set_option maxHeartbeats 4000000 in
set_option maxRecDepth 100000 in
theorem c_X8_mayBegin (l : Launch) {g : Gx} {u : St} {x1 : Int32} {res : Int32} (hf : f_X8_mayBegin u x1 = some res) : CI wM 22 l yX8_mayBegin (wsY yX8_mayBegin cX8_mayBegin 2 (some .boolean)) (rmX 0 0) g [.ref (g.2.2 0), .int x1] u res u := by
  refine CI_start (by decide +kernel) rfl (Nat.le_of_ble_eq_true rfl) (fun {p e s m args below meth c ls} C Z hl => ?_)
  have hl : lv_has ls 2 [(0, .ref (g.2.2 0)), (1, .int x1)] := hl
  have hx := C.1
  have hb := C.2.1
  unfold f_X8_mayBegin at hf
  refine lv_iload_n hx hb dX8_mayBegin_0 rfl (lv_at hl 1 rfl) ?_
  by_cases hs1_99 : x1 = 99
  · rw [if_pos hs1_99] at hf
    refine lv_lookup (tgt := 46) hx hb dX8_mayBegin_1 (by decide) (by rw [hs1_99]; first | done | rfl) (by decide) ?_
    refine lv_aload_n hx hb dX8_mayBegin_46 rfl (lv_at hl 0 rfl) ?_
    refine gM_0_27 C Z (fl_of C mw_844) dX8_mayBegin_47 (x := (u.1 12)) rfl ?_
    refine lv_iconst (v := 5) hx hb dX8_mayBegin_50 (by decide +kernel) ?_
    refine lv_icmp_ge (tgt := 58) hx hb dX8_mayBegin_51 (by decide) (fun hc51 => ?_) (fun hc51 => ?_)
    · rw [if_pos hc51] at hf
      refine lv_iconst (v := 0) hx hb dX8_mayBegin_58 (by decide +kernel) ?_
      have hf := Option.some.inj hf
      subst hf
      exact ret_z C Z rfl dX8_mayBegin_59
    · rw [if_neg hc51] at hf
      refine lv_iconst (v := 1) hx hb dX8_mayBegin_54 (by decide +kernel) ?_
      refine lv_goto (tgt := 59) hx hb dX8_mayBegin_55 (by decide) ?_
      have hf := Option.some.inj hf
      subst hf
      exact ret_z C Z rfl dX8_mayBegin_59
  rw [if_neg hs1_99] at hf
  by_cases hs1_112 : x1 = 112
  · rw [if_pos hs1_112] at hf
    refine lv_lookup (tgt := 60) hx hb dX8_mayBegin_1 (by decide) (by rw [hs1_112]; first | done | rfl) (by decide) ?_
    refine lv_aload_n hx hb dX8_mayBegin_60 rfl (lv_at hl 0 rfl) ?_
    refine gM_0_32 C Z (fl_of C mw_849) dX8_mayBegin_61 (x := (u.1 13)) rfl ?_
    refine lv_iconst (v := 4) hx hb dX8_mayBegin_64 (by decide +kernel) ?_
    refine lv_icmp_ge (tgt := 72) hx hb dX8_mayBegin_65 (by decide) (fun hc65 => ?_) (fun hc65 => ?_)
    · rw [if_pos hc65] at hf
      refine lv_iconst (v := 0) hx hb dX8_mayBegin_72 (by decide +kernel) ?_
      have hf := Option.some.inj hf
      subst hf
      exact ret_z C Z rfl dX8_mayBegin_73
    · rw [if_neg hc65] at hf
      refine lv_iconst (v := 1) hx hb dX8_mayBegin_68 (by decide +kernel) ?_
      refine lv_goto (tgt := 73) hx hb dX8_mayBegin_69 (by decide) ?_
      have hf := Option.some.inj hf
      subst hf
      exact ret_z C Z rfl dX8_mayBegin_73
  rw [if_neg hs1_112] at hf
  by_cases hs1_114 : x1 = 114
  · rw [if_pos hs1_114] at hf
    refine lv_lookup (tgt := 44) hx hb dX8_mayBegin_1 (by decide) (by rw [hs1_114]; first | done | rfl) (by decide) ?_
    refine lv_iconst (v := 1) hx hb dX8_mayBegin_44 (by decide +kernel) ?_
    have hf := Option.some.inj hf
    subst hf
    exact ret_z C Z rfl dX8_mayBegin_45
  rw [if_neg hs1_114] at hf
  by_cases hs1_115 : x1 = 115
  · rw [if_pos hs1_115] at hf
    refine lv_lookup (tgt := 74) hx hb dX8_mayBegin_1 (by decide) (by rw [hs1_115]; first | done | rfl) (by decide) ?_
    refine lv_aload_n hx hb dX8_mayBegin_74 rfl (lv_at hl 0 rfl) ?_
    refine gM_0_35 C Z (fl_of C mw_852) dX8_mayBegin_75 (x := (u.1 14)) rfl ?_
    refine lv_iconst (v := 4) hx hb dX8_mayBegin_78 (by decide +kernel) ?_
    refine lv_icmp_ge (tgt := 86) hx hb dX8_mayBegin_79 (by decide) (fun hc79 => ?_) (fun hc79 => ?_)
    · rw [if_pos hc79] at hf
      refine lv_iconst (v := 0) hx hb dX8_mayBegin_86 (by decide +kernel) ?_
      have hf := Option.some.inj hf
      subst hf
      exact ret_z C Z rfl dX8_mayBegin_87
    · rw [if_neg hc79] at hf
      refine lv_iconst (v := 1) hx hb dX8_mayBegin_82 (by decide +kernel) ?_
      refine lv_goto (tgt := 87) hx hb dX8_mayBegin_83 (by decide) ?_
      have hf := Option.some.inj hf
      subst hf
      exact ret_z C Z rfl dX8_mayBegin_87
  rw [if_neg hs1_115] at hf
  refine lv_lookup (tgt := 88) (off := 87) hx hb dX8_mayBegin_1 (by decide) (by show Op.lookupswitch.offset [(99, 45), (112, 59), (114, 43), (115, 73)] 87 _ = _; rw [lv_osw hs1_99 (by decide), lv_osw hs1_112 (by decide), lv_osw hs1_114 (by decide), lv_osw hs1_115 (by decide)]; rfl) (by decide) ?_
  refine lv_iconst (v := 0) hx hb dX8_mayBegin_88 (by decide +kernel) ?_
  have hf := Option.some.inj hf
  subst hf
  exact ret_z C Z rfl dX8_mayBegin_89
