def L_X7_copyRows_62_44_2 (k : Int32 → St → Option (St)) : Nat → Int32 → St → Option (St)
  | 0, _, _ => none
  | n + 1, x2, u =>
    if 5 ≤ x2 then
      k x2 u
    else
      if oob x2 5 then none else
      if oobs 0 (if 4 < 4 then 4 else 4) 4 then none else
      if oobs 0 (if 4 < 4 then 4 else 4) 4 then none else
      L_X7_copyRows_62_44_2 k n (x2 + 1) (sA u (31 + (Int32.toNatClampNeg x2)) (va_cpy (u.2.1 (44 + (Int32.toNatClampNeg x2))) (u.2.1 (31 + (Int32.toNatClampNeg x2))) 0 0 (Int32.toNatClampNeg (if 4 < 4 then 4 else 4))))
set_option maxHeartbeats 4000000 in
set_option maxRecDepth 100000 in
theorem b_X7_copyRows_62_44_2 {p : Program} {l : Launch} {e : Env} {s : State} {m : MethodId} {args : Array Value} {below : List Frame} {meth : Method} {c : Code} {g : Gx} {res : St} {k : Int32 → St → Option (St)} (C : Cx p s m meth c args cX7_copyRows RX7 3 (none) 82 g)
    (hk : ∀ (x2 : Int32) (u : St) (H : Heap) (locs : List Loc) (ls : Array Slot), Zx wC g (Aw 82 g s.heap.size) s H locs u → lv_has ls 3 [] → k x2 u = some res → W p l e (rmX 1 60) s m args below meth c H locs 0 0 (QV wC 82 g res below args s) (F0 m 42 ls [])) :
    ∀ (n : Nat) (x2 : Int32) (u : St) (H : Heap) (locs : List Loc) (ls : Array Slot), Zx wC g (Aw 82 g s.heap.size) s H locs u → lv_has ls 3 [(0, .ref (g.2.2 62)), (1, .ref (g.2.2 44)), (2, .int x2)] → L_X7_copyRows_62_44_2 k n x2 u = some res → W p l e (rmX 1 60) s m args below meth c H locs 0 0 (QV wC 82 g res below args s) (F0 m 2 ls []) := by
  have hx := C.1
  have hb := C.2.1
  intro n
  induction n with
  | zero =>
    intro x2 u H locs ls Z hl hf
    rw [L_X7_copyRows_62_44_2.eq_1] at hf
    cases hf
  | succ n ih =>
    intro x2 u H locs ls Z hl hf
    rw [L_X7_copyRows_62_44_2.eq_2] at hf
    refine lv_iload_n hx hb dX7_copyRows_2 rfl (lv_at hl 2 rfl) ?_
    refine lv_aload_n hx hb dX7_copyRows_3 rfl (lv_at hl 0 rfl) ?_
    refine r_len C Z (aC_62 g _) (t := 1) rfl (v := 5) rfl dX7_copyRows_4 ?_
    refine lv_icmp_ge (tgt := 42) hx hb dX7_copyRows_5 (by decide) (fun hc5 => ?_) (fun hc5 => ?_)
    · rw [if_pos hc5] at hf
      exact hk _ _ H locs ls Z (lv_sub hl [] rfl) hf
    · rw [if_neg hc5] at hf
      refine lv_iload_n hx hb dX7_copyRows_8 rfl (lv_at hl 2 rfl) ?_
      refine lv_aload_n hx hb dX7_copyRows_9 rfl (lv_at hl 1 rfl) ?_
      refine r_len C Z (aC_44 g _) (t := 1) rfl (v := 5) rfl dX7_copyRows_10 ?_
      refine lv_icmp_ge (tgt := 42) hx hb dX7_copyRows_11 (by decide) (fun hq => absurd hq hc5) (fun _ => ?_)
      refine lv_aload_n hx hb dX7_copyRows_14 rfl (lv_at hl 0 rfl) ?_
      refine lv_iload_n hx hb dX7_copyRows_15 rfl (lv_at hl 2 rfl) ?_
      by_cases ho16 : oob x2 5 = true
      · rw [if_pos ho16] at hf; cases hf
      rw [if_neg ho16] at hf
      refine r_aldr C Z (aC_62 g _) ho16 dX7_copyRows_16 (b := g.2.2 (63 + (Int32.toNatClampNeg x2))) rfl ?_
      refine lv_iconst (v := 0) hx hb dX7_copyRows_17 (by decide +kernel) ?_
      refine lv_aload_n hx hb dX7_copyRows_18 rfl (lv_at hl 1 rfl) ?_
      refine lv_iload_n hx hb dX7_copyRows_19 rfl (lv_at hl 2 rfl) ?_
      refine r_aldr C Z (aC_44 g _) ho16 dX7_copyRows_20 (b := g.2.2 (45 + (Int32.toNatClampNeg x2))) rfl ?_
      refine lv_iconst (v := 0) hx hb dX7_copyRows_21 (by decide +kernel) ?_
      refine lv_aload_n hx hb dX7_copyRows_22 rfl (lv_at hl 0 rfl) ?_
      refine lv_iload_n hx hb dX7_copyRows_23 rfl (lv_at hl 2 rfl) ?_
      refine r_aldr C Z (aC_62 g _) ho16 dX7_copyRows_24 (b := g.2.2 (63 + (Int32.toNatClampNeg x2))) rfl ?_
      refine r_len C Z (arC_62 g _ (oob_lt ho16) rfl) (t := 0) rfl (v := 4) rfl dX7_copyRows_25 ?_
      refine lv_aload_n hx hb dX7_copyRows_26 rfl (lv_at hl 1 rfl) ?_
      refine lv_iload_n hx hb dX7_copyRows_27 rfl (lv_at hl 2 rfl) ?_
      refine r_aldr C Z (aC_44 g _) ho16 dX7_copyRows_28 (b := g.2.2 (45 + (Int32.toNatClampNeg x2))) rfl ?_
      refine r_len C Z (arC_44 g _ (oob_lt ho16) rfl) (t := 0) rfl (v := 4) rfl dX7_copyRows_29 ?_
      refine r_min C mw_437 ⟨⟨mw_438, mw_109⟩, mw_439⟩ hl.1 (by decide) (Nat.le_of_ble_eq_true rfl) dX7_copyRows_30 ?_
      by_cases hq33a : oobs 0 (if 4 < 4 then 4 else 4) 4 = true
      · rw [if_pos hq33a] at hf; cases hf
      rw [if_neg hq33a] at hf
      by_cases hq33b : oobs 0 (if 4 < 4 then 4 else 4) 4 = true
      · rw [if_pos hq33b] at hf; cases hf
      rw [if_neg hq33b] at hf
      refine r_copy C wokC Z mw_440 ⟨⟨mw_417, mw_416⟩, mw_108⟩ hl.1 (by decide) (Nat.le_of_ble_eq_true rfl) (arC_62 g _ (oob_lt ho16) (f := (u.2.1 (44 + (Int32.toNatClampNeg x2)))) rfl) (arC_44 g _ (oob_lt ho16) (f := (u.2.1 (31 + (Int32.toNatClampNeg x2)))) rfl) hq33a hq33b (m1 := 0) (by decide) (m2 := 0) (by decide) rfl (srC_44 g _ (oob_lt ho16) _) dX7_copyRows_33 (fun H locs Z => ?_)
      refine lv_iinc (v := (x2 + 1)) (lv' := [(2, .int (x2 + 1)), (0, .ref (g.2.2 62)), (1, .ref (g.2.2 44))]) hx hb dX7_copyRows_36 hl (k := 2) rfl rfl (by decide) rfl (fun ls hl => ?_)
      refine lv_goto (tgt := 2) hx hb dX7_copyRows_39 (by decide) ?_
      exact ih _ _ _ _ _ Z (lv_sub hl [1, 2, 0] rfl) hf
def f_X7_copyRows_62_44 (u : St) : Option (St) :=
  L_X7_copyRows_62_44_2 (fun x2 u2 =>
    some u2) FU 0 u
set_option maxHeartbeats 4000000 in
set_option maxRecDepth 100000 in
theorem c_X7_copyRows_62_44 (l : Launch) {g : Gx} {u : St} {res : St} (hf : f_X7_copyRows_62_44 u = some res) : CV wC 82 l yX7_copyRows (wsY yX7_copyRows cX7_copyRows 3 (none)) (rmX 1 60) g [.ref (g.2.2 62), .ref (g.2.2 44)] u res := by
  refine CV_start (by decide +kernel) rfl (Nat.le_of_ble_eq_true rfl) (fun {p e s m args below meth c ls} C Z hl => ?_)
  have hl : lv_has ls 3 [(0, .ref (g.2.2 62)), (1, .ref (g.2.2 44))] := hl
  have hx := C.1
  have hb := C.2.1
  unfold f_X7_copyRows_62_44 at hf
  refine lv_iconst (v := 0) hx hb dX7_copyRows_0 (by decide +kernel) ?_
  refine lv_istore_n (lv' := [(2, .int 0), (0, .ref (g.2.2 62)), (1, .ref (g.2.2 44))]) hx hb dX7_copyRows_1 rfl hl (by decide) rfl (fun ls hl => ?_)
  refine b_X7_copyRows_62_44_2 C (fun x2 u2 H locs ls Z hl hf => ?_) FU _ _ _ _ _ Z (lv_sub hl [1, 2, 0] rfl) hf
  have hf := Option.some.inj hf
  subst hf
  exact ret_v C Z dX7_copyRows_42
def f_X3_becomeAs_42_60 (u : St) : Option (St) :=
  Option.bind (f_X7_copyRows_62_44 (sA (sI (sI (sI u 10 (u.1 15)) 11 (u.1 16)) 12 (u.1 17)) 30 (va_cpy (u.2.1 43) (u.2.1 30) 0 0 24))) fun r47 =>
  some (sA (sA (sA r47 36 (va_cpy (r47.2.1 49) (r47.2.1 36) 0 0 10)) 37 (va_cpy (r47.2.1 50) (r47.2.1 37) 0 0 10)) 38 (va_cpy (r47.2.1 51) (r47.2.1 38) 0 0 10))
set_option maxHeartbeats 4000000 in
set_option maxRecDepth 100000 in
theorem c_X3_becomeAs_42_60 (l : Launch) {g : Gx} {u : St} {res : St} (hf : f_X3_becomeAs_42_60 u = some res) : CV wC 82 l yX3_becomeAs (wsY yX3_becomeAs cX3_becomeAs 2 (none)) (rmX 2 82) g [.ref (g.2.2 42), .ref (g.2.2 60)] u res := by
  refine CV_start (by decide +kernel) rfl (Nat.le_of_ble_eq_true rfl) (fun {p e s m args below meth c ls} C Z hl => ?_)
  have hl : lv_has ls 2 [(0, .ref (g.2.2 42)), (1, .ref (g.2.2 60))] := hl
  have hx := C.1
  have hb := C.2.1
  unfold f_X3_becomeAs_42_60 at hf
  refine lv_aload_n hx hb dX3_becomeAs_0 rfl (lv_at hl 0 rfl) ?_
  refine lv_aload_n hx hb dX3_becomeAs_1 rfl (lv_at hl 1 rfl) ?_
  refine gC_60_0 C Z (fl_of C mw_218) dX3_becomeAs_2 (x := (u.1 15)) rfl ?_
  refine pC_42_0 C Z (fl_of C mw_218) dX3_becomeAs_5 (fun H locs Z => ?_)
  refine lv_aload_n hx hb dX3_becomeAs_8 rfl (lv_at hl 0 rfl) ?_
  refine lv_aload_n hx hb dX3_becomeAs_9 rfl (lv_at hl 1 rfl) ?_
  refine gC_60_1 C Z (fl_of C mw_222) dX3_becomeAs_10 (x := (u.1 16)) rfl ?_
  refine pC_42_1 C Z (fl_of C mw_222) dX3_becomeAs_13 (fun H locs Z => ?_)
  refine lv_aload_n hx hb dX3_becomeAs_16 rfl (lv_at hl 0 rfl) ?_
  refine lv_aload_n hx hb dX3_becomeAs_17 rfl (lv_at hl 1 rfl) ?_
  refine gC_60_7 C Z (fl_of C mw_234) dX3_becomeAs_18 (x := (u.1 17)) rfl ?_
  refine pC_42_7 C Z (fl_of C mw_234) dX3_becomeAs_21 (fun H locs Z => ?_)
  refine lv_aload_n hx hb dX3_becomeAs_24 rfl (lv_at hl 1 rfl) ?_
  refine gC_60_2 C Z (fl_of C mw_225) dX3_becomeAs_25 ?_
  refine lv_iconst (v := 0) hx hb dX3_becomeAs_28 (by decide +kernel) ?_
  refine lv_aload_n hx hb dX3_becomeAs_29 rfl (lv_at hl 0 rfl) ?_
  refine gC_42_2 C Z (fl_of C mw_225) dX3_becomeAs_30 ?_
  refine lv_iconst (v := 0) hx hb dX3_becomeAs_33 (by decide +kernel) ?_
  refine lv_bipush (v := 24) hx hb dX3_becomeAs_34 (by decide +kernel) ?_
  refine r_copy C wokC Z mw_445 ⟨⟨mw_417, mw_416⟩, mw_108⟩ hl.1 (by decide) (Nat.le_of_ble_eq_true rfl) (aC_61 g _ (f := (u.2.1 43)) rfl) (aC_43 g _ (f := (u.2.1 30)) rfl) (by decide) (by decide) (m1 := 0) (by decide) (m2 := 0) (by decide) (m3 := 24) (by decide) (sC_43 g _ _) dX3_becomeAs_36 (fun H locs Z => ?_)
  refine lv_aload_n hx hb dX3_becomeAs_39 rfl (lv_at hl 1 rfl) ?_
  refine gC_60_3 C Z (fl_of C mw_228) dX3_becomeAs_40 ?_
  refine lv_aload_n hx hb dX3_becomeAs_43 rfl (lv_at hl 0 rfl) ?_
  refine gC_42_3 C Z (fl_of C mw_228) dX3_becomeAs_44 ?_
  obtain ⟨r47, hr47, hf⟩ := Option.bind_eq_some_iff.mp hf
  refine call_sv (As := [.ref (g.2.2 62), .ref (g.2.2 44)]) (rest := []) C Z (c_X7_copyRows_62_44 l hr47) mf_X7_copyRows (ml_nest C nw_68) rfl ⟨rfl, rfl, by decide, by decide⟩ rfl hl.1 (Nat.le_of_ble_eq_true rfl) dX3_becomeAs_47 (fun H locs Z => ?_)
  refine lv_aload_n hx hb dX3_becomeAs_50 rfl (lv_at hl 1 rfl) ?_
  refine gC_60_4 C Z (fl_of C mw_231) dX3_becomeAs_51 ?_
  refine lv_iconst (v := 0) hx hb dX3_becomeAs_54 (by decide +kernel) ?_
  refine lv_aload_n hx hb dX3_becomeAs_55 rfl (lv_at hl 0 rfl) ?_
  refine gC_42_4 C Z (fl_of C mw_231) dX3_becomeAs_56 ?_
  refine lv_iconst (v := 0) hx hb dX3_becomeAs_59 (by decide +kernel) ?_
  refine lv_bipush (v := 10) hx hb dX3_becomeAs_60 (by decide +kernel) ?_
  refine r_copy C wokC Z mw_445 ⟨⟨mw_417, mw_416⟩, mw_108⟩ hl.1 (by decide) (Nat.le_of_ble_eq_true rfl) (aC_68 g _ (f := (r47.2.1 49)) rfl) (aC_50 g _ (f := (r47.2.1 36)) rfl) (by decide) (by decide) (m1 := 0) (by decide) (m2 := 0) (by decide) (m3 := 10) (by decide) (sC_50 g _ _) dX3_becomeAs_62 (fun H locs Z => ?_)
  refine lv_aload_n hx hb dX3_becomeAs_65 rfl (lv_at hl 1 rfl) ?_
  refine gC_60_5 C Z (fl_of C mw_232) dX3_becomeAs_66 ?_
  refine lv_iconst (v := 0) hx hb dX3_becomeAs_69 (by decide +kernel) ?_
  refine lv_aload_n hx hb dX3_becomeAs_70 rfl (lv_at hl 0 rfl) ?_
  refine gC_42_5 C Z (fl_of C mw_232) dX3_becomeAs_71 ?_
  refine lv_iconst (v := 0) hx hb dX3_becomeAs_74 (by decide +kernel) ?_
  refine lv_bipush (v := 10) hx hb dX3_becomeAs_75 (by decide +kernel) ?_
  refine r_copy C wokC Z mw_445 ⟨⟨mw_417, mw_416⟩, mw_108⟩ hl.1 (by decide) (Nat.le_of_ble_eq_true rfl) (aC_69 g _ (f := (r47.2.1 50)) rfl) (aC_51 g _ (f := (r47.2.1 37)) rfl) (by decide) (by decide) (m1 := 0) (by decide) (m2 := 0) (by decide) (m3 := 10) (by decide) (sC_51 g _ _) dX3_becomeAs_77 (fun H locs Z => ?_)
  refine lv_aload_n hx hb dX3_becomeAs_80 rfl (lv_at hl 1 rfl) ?_
  refine gC_60_6 C Z (fl_of C mw_233) dX3_becomeAs_81 ?_
  refine lv_iconst (v := 0) hx hb dX3_becomeAs_84 (by decide +kernel) ?_
  refine lv_aload_n hx hb dX3_becomeAs_85 rfl (lv_at hl 0 rfl) ?_
  refine gC_42_6 C Z (fl_of C mw_233) dX3_becomeAs_86 ?_
  refine lv_iconst (v := 0) hx hb dX3_becomeAs_89 (by decide +kernel) ?_
  refine lv_bipush (v := 10) hx hb dX3_becomeAs_90 (by decide +kernel) ?_
  refine r_copy C wokC Z mw_445 ⟨⟨mw_417, mw_416⟩, mw_108⟩ hl.1 (by decide) (Nat.le_of_ble_eq_true rfl) (aC_70 g _ (f := (r47.2.1 51)) rfl) (aC_52 g _ (f := (r47.2.1 38)) rfl) (by decide) (by decide) (m1 := 0) (by decide) (m2 := 0) (by decide) (m3 := 10) (by decide) (sC_52 g _ _) dX3_becomeAs_92 (fun H locs Z => ?_)
  have hf := Option.some.inj hf
  subst hf
  exact ret_v C Z dX3_becomeAs_95
def L_X7_copyRows_73_44_2 (k : Int32 → St → Option (St)) : Nat → Int32 → St → Option (St)
  | 0, _, _ => none
  | n + 1, x2, u =>
    if 5 ≤ x2 then
      k x2 u
    else
      if oob x2 5 then none else
      if oobs 0 (if 4 < 4 then 4 else 4) 4 then none else
      if oobs 0 (if 4 < 4 then 4 else 4) 4 then none else
      L_X7_copyRows_73_44_2 k n (x2 + 1) (sA u (31 + (Int32.toNatClampNeg x2)) (va_cpy (u.2.1 (53 + (Int32.toNatClampNeg x2))) (u.2.1 (31 + (Int32.toNatClampNeg x2))) 0 0 (Int32.toNatClampNeg (if 4 < 4 then 4 else 4))))
set_option maxHeartbeats 4000000 in
set_option maxRecDepth 100000 in
theorem b_X7_copyRows_73_44_2 {p : Program} {l : Launch} {e : Env} {s : State} {m : MethodId} {args : Array Value} {below : List Frame} {meth : Method} {c : Code} {g : Gx} {res : St} {k : Int32 → St → Option (St)} (C : Cx p s m meth c args cX7_copyRows RX7 3 (none) 82 g)
    (hk : ∀ (x2 : Int32) (u : St) (H : Heap) (locs : List Loc) (ls : Array Slot), Zx wC g (Aw 82 g s.heap.size) s H locs u → lv_has ls 3 [] → k x2 u = some res → W p l e (rmX 1 60) s m args below meth c H locs 0 0 (QV wC 82 g res below args s) (F0 m 42 ls [])) :
    ∀ (n : Nat) (x2 : Int32) (u : St) (H : Heap) (locs : List Loc) (ls : Array Slot), Zx wC g (Aw 82 g s.heap.size) s H locs u → lv_has ls 3 [(0, .ref (g.2.2 73)), (1, .ref (g.2.2 44)), (2, .int x2)] → L_X7_copyRows_73_44_2 k n x2 u = some res → W p l e (rmX 1 60) s m args below meth c H locs 0 0 (QV wC 82 g res below args s) (F0 m 2 ls []) := by
  have hx := C.1
  have hb := C.2.1
  intro n
  induction n with
  | zero =>
    intro x2 u H locs ls Z hl hf
    rw [L_X7_copyRows_73_44_2.eq_1] at hf
    cases hf
  | succ n ih =>
    intro x2 u H locs ls Z hl hf
    rw [L_X7_copyRows_73_44_2.eq_2] at hf
    refine lv_iload_n hx hb dX7_copyRows_2 rfl (lv_at hl 2 rfl) ?_
    refine lv_aload_n hx hb dX7_copyRows_3 rfl (lv_at hl 0 rfl) ?_
    refine r_len C Z (aC_73 g _) (t := 1) rfl (v := 5) rfl dX7_copyRows_4 ?_
    refine lv_icmp_ge (tgt := 42) hx hb dX7_copyRows_5 (by decide) (fun hc5 => ?_) (fun hc5 => ?_)
    · rw [if_pos hc5] at hf
      exact hk _ _ H locs ls Z (lv_sub hl [] rfl) hf
    · rw [if_neg hc5] at hf
      refine lv_iload_n hx hb dX7_copyRows_8 rfl (lv_at hl 2 rfl) ?_
      refine lv_aload_n hx hb dX7_copyRows_9 rfl (lv_at hl 1 rfl) ?_
      refine r_len C Z (aC_44 g _) (t := 1) rfl (v := 5) rfl dX7_copyRows_10 ?_
      refine lv_icmp_ge (tgt := 42) hx hb dX7_copyRows_11 (by decide) (fun hq => absurd hq hc5) (fun _ => ?_)
      refine lv_aload_n hx hb dX7_copyRows_14 rfl (lv_at hl 0 rfl) ?_
      refine lv_iload_n hx hb dX7_copyRows_15 rfl (lv_at hl 2 rfl) ?_
      by_cases ho16 : oob x2 5 = true
      · rw [if_pos ho16] at hf; cases hf
      rw [if_neg ho16] at hf
      refine r_aldr C Z (aC_73 g _) ho16 dX7_copyRows_16 (b := g.2.2 (74 + (Int32.toNatClampNeg x2))) rfl ?_
      refine lv_iconst (v := 0) hx hb dX7_copyRows_17 (by decide +kernel) ?_
      refine lv_aload_n hx hb dX7_copyRows_18 rfl (lv_at hl 1 rfl) ?_
      refine lv_iload_n hx hb dX7_copyRows_19 rfl (lv_at hl 2 rfl) ?_
      refine r_aldr C Z (aC_44 g _) ho16 dX7_copyRows_20 (b := g.2.2 (45 + (Int32.toNatClampNeg x2))) rfl ?_
      refine lv_iconst (v := 0) hx hb dX7_copyRows_21 (by decide +kernel) ?_
      refine lv_aload_n hx hb dX7_copyRows_22 rfl (lv_at hl 0 rfl) ?_
      refine lv_iload_n hx hb dX7_copyRows_23 rfl (lv_at hl 2 rfl) ?_
      refine r_aldr C Z (aC_73 g _) ho16 dX7_copyRows_24 (b := g.2.2 (74 + (Int32.toNatClampNeg x2))) rfl ?_
      refine r_len C Z (arC_73 g _ (oob_lt ho16) rfl) (t := 0) rfl (v := 4) rfl dX7_copyRows_25 ?_
      refine lv_aload_n hx hb dX7_copyRows_26 rfl (lv_at hl 1 rfl) ?_
      refine lv_iload_n hx hb dX7_copyRows_27 rfl (lv_at hl 2 rfl) ?_
      refine r_aldr C Z (aC_44 g _) ho16 dX7_copyRows_28 (b := g.2.2 (45 + (Int32.toNatClampNeg x2))) rfl ?_
      refine r_len C Z (arC_44 g _ (oob_lt ho16) rfl) (t := 0) rfl (v := 4) rfl dX7_copyRows_29 ?_
      refine r_min C mw_437 ⟨⟨mw_438, mw_109⟩, mw_439⟩ hl.1 (by decide) (Nat.le_of_ble_eq_true rfl) dX7_copyRows_30 ?_
      by_cases hq33a : oobs 0 (if 4 < 4 then 4 else 4) 4 = true
      · rw [if_pos hq33a] at hf; cases hf
      rw [if_neg hq33a] at hf
      by_cases hq33b : oobs 0 (if 4 < 4 then 4 else 4) 4 = true
      · rw [if_pos hq33b] at hf; cases hf
      rw [if_neg hq33b] at hf
      refine r_copy C wokC Z mw_440 ⟨⟨mw_417, mw_416⟩, mw_108⟩ hl.1 (by decide) (Nat.le_of_ble_eq_true rfl) (arC_73 g _ (oob_lt ho16) (f := (u.2.1 (53 + (Int32.toNatClampNeg x2)))) rfl) (arC_44 g _ (oob_lt ho16) (f := (u.2.1 (31 + (Int32.toNatClampNeg x2)))) rfl) hq33a hq33b (m1 := 0) (by decide) (m2 := 0) (by decide) rfl (srC_44 g _ (oob_lt ho16) _) dX7_copyRows_33 (fun H locs Z => ?_)
      refine lv_iinc (v := (x2 + 1)) (lv' := [(2, .int (x2 + 1)), (0, .ref (g.2.2 73)), (1, .ref (g.2.2 44))]) hx hb dX7_copyRows_36 hl (k := 2) rfl rfl (by decide) rfl (fun ls hl => ?_)
      refine lv_goto (tgt := 2) hx hb dX7_copyRows_39 (by decide) ?_
      exact ih _ _ _ _ _ Z (lv_sub hl [1, 2, 0] rfl) hf
def f_X7_copyRows_73_44 (u : St) : Option (St) :=
  L_X7_copyRows_73_44_2 (fun x2 u2 =>
    some u2) FU 0 u
set_option maxHeartbeats 4000000 in
set_option maxRecDepth 100000 in
theorem c_X7_copyRows_73_44 (l : Launch) {g : Gx} {u : St} {res : St} (hf : f_X7_copyRows_73_44 u = some res) : CV wC 82 l yX7_copyRows (wsY yX7_copyRows cX7_copyRows 3 (none)) (rmX 1 60) g [.ref (g.2.2 73), .ref (g.2.2 44)] u res := by
  refine CV_start (by decide +kernel) rfl (Nat.le_of_ble_eq_true rfl) (fun {p e s m args below meth c ls} C Z hl => ?_)
  have hl : lv_has ls 3 [(0, .ref (g.2.2 73)), (1, .ref (g.2.2 44))] := hl
  have hx := C.1
  have hb := C.2.1
  unfold f_X7_copyRows_73_44 at hf
  refine lv_iconst (v := 0) hx hb dX7_copyRows_0 (by decide +kernel) ?_
  refine lv_istore_n (lv' := [(2, .int 0), (0, .ref (g.2.2 73)), (1, .ref (g.2.2 44))]) hx hb dX7_copyRows_1 rfl hl (by decide) rfl (fun ls hl => ?_)
  refine b_X7_copyRows_73_44_2 C (fun x2 u2 H locs ls Z hl hf => ?_) FU _ _ _ _ _ Z (lv_sub hl [1, 2, 0] rfl) hf
  have hf := Option.some.inj hf
  subst hf
  exact ret_v C Z dX7_copyRows_42
def f_X3_becomeAs_42_71 (u : St) : Option (St) :=
  Option.bind (f_X7_copyRows_73_44 (sA (sI (sI (sI u 10 (u.1 18)) 11 (u.1 19)) 12 (u.1 20)) 30 (va_cpy (u.2.1 52) (u.2.1 30) 0 0 24))) fun r47 =>
  some (sA (sA (sA r47 36 (va_cpy (r47.2.1 58) (r47.2.1 36) 0 0 10)) 37 (va_cpy (r47.2.1 59) (r47.2.1 37) 0 0 10)) 38 (va_cpy (r47.2.1 60) (r47.2.1 38) 0 0 10))
set_option maxHeartbeats 4000000 in
set_option maxRecDepth 100000 in
theorem c_X3_becomeAs_42_71 (l : Launch) {g : Gx} {u : St} {res : St} (hf : f_X3_becomeAs_42_71 u = some res) : CV wC 82 l yX3_becomeAs (wsY yX3_becomeAs cX3_becomeAs 2 (none)) (rmX 2 82) g [.ref (g.2.2 42), .ref (g.2.2 71)] u res := by
  refine CV_start (by decide +kernel) rfl (Nat.le_of_ble_eq_true rfl) (fun {p e s m args below meth c ls} C Z hl => ?_)
  have hl : lv_has ls 2 [(0, .ref (g.2.2 42)), (1, .ref (g.2.2 71))] := hl
  have hx := C.1
  have hb := C.2.1
  unfold f_X3_becomeAs_42_71 at hf
  refine lv_aload_n hx hb dX3_becomeAs_0 rfl (lv_at hl 0 rfl) ?_
  refine lv_aload_n hx hb dX3_becomeAs_1 rfl (lv_at hl 1 rfl) ?_
  refine gC_71_0 C Z (fl_of C mw_218) dX3_becomeAs_2 (x := (u.1 18)) rfl ?_
  refine pC_42_0 C Z (fl_of C mw_218) dX3_becomeAs_5 (fun H locs Z => ?_)
  refine lv_aload_n hx hb dX3_becomeAs_8 rfl (lv_at hl 0 rfl) ?_
  refine lv_aload_n hx hb dX3_becomeAs_9 rfl (lv_at hl 1 rfl) ?_
  refine gC_71_1 C Z (fl_of C mw_222) dX3_becomeAs_10 (x := (u.1 19)) rfl ?_
  refine pC_42_1 C Z (fl_of C mw_222) dX3_becomeAs_13 (fun H locs Z => ?_)
  refine lv_aload_n hx hb dX3_becomeAs_16 rfl (lv_at hl 0 rfl) ?_
  refine lv_aload_n hx hb dX3_becomeAs_17 rfl (lv_at hl 1 rfl) ?_
  refine gC_71_7 C Z (fl_of C mw_234) dX3_becomeAs_18 (x := (u.1 20)) rfl ?_
  refine pC_42_7 C Z (fl_of C mw_234) dX3_becomeAs_21 (fun H locs Z => ?_)
  refine lv_aload_n hx hb dX3_becomeAs_24 rfl (lv_at hl 1 rfl) ?_
  refine gC_71_2 C Z (fl_of C mw_225) dX3_becomeAs_25 ?_
  refine lv_iconst (v := 0) hx hb dX3_becomeAs_28 (by decide +kernel) ?_
  refine lv_aload_n hx hb dX3_becomeAs_29 rfl (lv_at hl 0 rfl) ?_
  refine gC_42_2 C Z (fl_of C mw_225) dX3_becomeAs_30 ?_
  refine lv_iconst (v := 0) hx hb dX3_becomeAs_33 (by decide +kernel) ?_
  refine lv_bipush (v := 24) hx hb dX3_becomeAs_34 (by decide +kernel) ?_
  refine r_copy C wokC Z mw_445 ⟨⟨mw_417, mw_416⟩, mw_108⟩ hl.1 (by decide) (Nat.le_of_ble_eq_true rfl) (aC_72 g _ (f := (u.2.1 52)) rfl) (aC_43 g _ (f := (u.2.1 30)) rfl) (by decide) (by decide) (m1 := 0) (by decide) (m2 := 0) (by decide) (m3 := 24) (by decide) (sC_43 g _ _) dX3_becomeAs_36 (fun H locs Z => ?_)
  refine lv_aload_n hx hb dX3_becomeAs_39 rfl (lv_at hl 1 rfl) ?_
  refine gC_71_3 C Z (fl_of C mw_228) dX3_becomeAs_40 ?_
  refine lv_aload_n hx hb dX3_becomeAs_43 rfl (lv_at hl 0 rfl) ?_
  refine gC_42_3 C Z (fl_of C mw_228) dX3_becomeAs_44 ?_
  obtain ⟨r47, hr47, hf⟩ := Option.bind_eq_some_iff.mp hf
  refine call_sv (As := [.ref (g.2.2 73), .ref (g.2.2 44)]) (rest := []) C Z (c_X7_copyRows_73_44 l hr47) mf_X7_copyRows (ml_nest C nw_68) rfl ⟨rfl, rfl, by decide, by decide⟩ rfl hl.1 (Nat.le_of_ble_eq_true rfl) dX3_becomeAs_47 (fun H locs Z => ?_)
  refine lv_aload_n hx hb dX3_becomeAs_50 rfl (lv_at hl 1 rfl) ?_
  refine gC_71_4 C Z (fl_of C mw_231) dX3_becomeAs_51 ?_
  refine lv_iconst (v := 0) hx hb dX3_becomeAs_54 (by decide +kernel) ?_
  refine lv_aload_n hx hb dX3_becomeAs_55 rfl (lv_at hl 0 rfl) ?_
  refine gC_42_4 C Z (fl_of C mw_231) dX3_becomeAs_56 ?_
  refine lv_iconst (v := 0) hx hb dX3_becomeAs_59 (by decide +kernel) ?_
  refine lv_bipush (v := 10) hx hb dX3_becomeAs_60 (by decide +kernel) ?_
  refine r_copy C wokC Z mw_445 ⟨⟨mw_417, mw_416⟩, mw_108⟩ hl.1 (by decide) (Nat.le_of_ble_eq_true rfl) (aC_79 g _ (f := (r47.2.1 58)) rfl) (aC_50 g _ (f := (r47.2.1 36)) rfl) (by decide) (by decide) (m1 := 0) (by decide) (m2 := 0) (by decide) (m3 := 10) (by decide) (sC_50 g _ _) dX3_becomeAs_62 (fun H locs Z => ?_)
  refine lv_aload_n hx hb dX3_becomeAs_65 rfl (lv_at hl 1 rfl) ?_
  refine gC_71_5 C Z (fl_of C mw_232) dX3_becomeAs_66 ?_
  refine lv_iconst (v := 0) hx hb dX3_becomeAs_69 (by decide +kernel) ?_
  refine lv_aload_n hx hb dX3_becomeAs_70 rfl (lv_at hl 0 rfl) ?_
  refine gC_42_5 C Z (fl_of C mw_232) dX3_becomeAs_71 ?_
  refine lv_iconst (v := 0) hx hb dX3_becomeAs_74 (by decide +kernel) ?_
  refine lv_bipush (v := 10) hx hb dX3_becomeAs_75 (by decide +kernel) ?_
  refine r_copy C wokC Z mw_445 ⟨⟨mw_417, mw_416⟩, mw_108⟩ hl.1 (by decide) (Nat.le_of_ble_eq_true rfl) (aC_80 g _ (f := (r47.2.1 59)) rfl) (aC_51 g _ (f := (r47.2.1 37)) rfl) (by decide) (by decide) (m1 := 0) (by decide) (m2 := 0) (by decide) (m3 := 10) (by decide) (sC_51 g _ _) dX3_becomeAs_77 (fun H locs Z => ?_)
  refine lv_aload_n hx hb dX3_becomeAs_80 rfl (lv_at hl 1 rfl) ?_
  refine gC_71_6 C Z (fl_of C mw_233) dX3_becomeAs_81 ?_
  refine lv_iconst (v := 0) hx hb dX3_becomeAs_84 (by decide +kernel) ?_
  refine lv_aload_n hx hb dX3_becomeAs_85 rfl (lv_at hl 0 rfl) ?_
  refine gC_42_6 C Z (fl_of C mw_233) dX3_becomeAs_86 ?_
  refine lv_iconst (v := 0) hx hb dX3_becomeAs_89 (by decide +kernel) ?_
  refine lv_bipush (v := 10) hx hb dX3_becomeAs_90 (by decide +kernel) ?_
  refine r_copy C wokC Z mw_445 ⟨⟨mw_417, mw_416⟩, mw_108⟩ hl.1 (by decide) (Nat.le_of_ble_eq_true rfl) (aC_81 g _ (f := (r47.2.1 60)) rfl) (aC_52 g _ (f := (r47.2.1 38)) rfl) (by decide) (by decide) (m1 := 0) (by decide) (m2 := 0) (by decide) (m3 := 10) (by decide) (sC_52 g _ _) dX3_becomeAs_92 (fun H locs Z => ?_)
  have hf := Option.some.inj hf
  subst hf
  exact ret_v C Z dX3_becomeAs_95
def f_X7_back (u : St) (x1 : Int32) : Option (Int32 × St) :=
  Option.bind (f_X7_isWithin x1 0 (2 - 1)) fun r9 =>
  if r9 = 0 then
    some ((-1), u)
  else
    Option.bind (f_X7_isIn x1 (u.1 21)) fun r22 =>
    if r22 = 0 then
      some ((-2), u)
    else
      if x1 = 0 then
        Option.bind (f_X3_becomeAs_42_60 u) fun r44 =>
        some ((r44.1 10), r44)
      else if x1 = 1 then
        Option.bind (f_X3_becomeAs_42_71 u) fun r44 =>
        some ((r44.1 10), r44)
      else none
set_option maxHeartbeats 4000000 in
set_option maxRecDepth 100000 in
theorem c_X7_back (l : Launch) {g : Gx} {u : St} {x1 : Int32} {res : Int32 × St} (hf : f_X7_back u x1 = some res) : CI wC 82 l yX7_back (wsY yX7_back cX7_back 2 (some .int)) (rmX 3 103) g [.ref (g.2.2 0), .int x1] u res.1 res.2 := by
  refine CI_start (by decide +kernel) rfl (Nat.le_of_ble_eq_true rfl) (fun {p e s m args below meth c ls} C Z hl => ?_)
  have hl : lv_has ls 2 [(0, .ref (g.2.2 0)), (1, .int x1)] := hl
  have hx := C.1
  have hb := C.2.1
  unfold f_X7_back at hf
  refine lv_iload_n hx hb dX7_back_0 rfl (lv_at hl 1 rfl) ?_
  refine lv_iconst (v := 0) hx hb dX7_back_1 (by decide +kernel) ?_
  refine lv_aload_n hx hb dX7_back_2 rfl (lv_at hl 0 rfl) ?_
  refine gC_0_5 C Z (fl_of C mw_310) dX7_back_3 ?_
  refine r_len C Z (aC_59 g _) (t := 2) rfl (v := 2) rfl dX7_back_6 ?_
  refine lv_iconst (v := 1) hx hb dX7_back_7 (by decide +kernel) ?_
  refine lv_isub hx hb dX7_back_8 ?_
  obtain ⟨r9, hr9, hf⟩ := Option.bind_eq_some_iff.mp hf
  refine call_si (As := [.int x1, .int 0, .int (2 - 1)]) (rest := []) C Z (c_X7_isWithin l hr9) mf_X7_isWithin (ml_of C mw_331) rfl ⟨rfl, rfl, by decide, by decide⟩ rfl hl.1 (Nat.le_of_ble_eq_true rfl) dX7_back_9 (fun H locs Z => ?_)
  refine lv_if_ne (tgt := 17) hx hb dX7_back_12 (by decide) (fun hc12 => ?_) (fun hc12 => ?_)
  · rw [if_neg hc12] at hf
    refine lv_iload_n hx hb dX7_back_17 rfl (lv_at hl 1 rfl) ?_
    refine lv_aload_n hx hb dX7_back_18 rfl (lv_at hl 0 rfl) ?_
    refine gC_0_6 C Z (fl_of C mw_311) dX7_back_19 (x := (u.1 21)) rfl ?_
    obtain ⟨r22, hr22, hf⟩ := Option.bind_eq_some_iff.mp hf
    refine call_si (As := [.int x1, .int (u.1 21)]) (rest := []) C Z (c_X7_isIn l hr22) mf_X7_isIn (ml_of C mw_802) rfl ⟨rfl, rfl, by decide, by decide⟩ rfl hl.1 (Nat.le_of_ble_eq_true rfl) dX7_back_22 (fun H locs Z => ?_)
    refine lv_if_ne (tgt := 31) hx hb dX7_back_25 (by decide) (fun hc25 => ?_) (fun hc25 => ?_)
    · rw [if_neg hc25] at hf
      refine lv_aload_n hx hb dX7_back_31 rfl (lv_at hl 0 rfl) ?_
      refine gC_0_2 C Z (fl_of C mw_307) dX7_back_32 ?_
      refine gC_23_1 C Z (fl_nest C nw_100) dX7_back_35 ?_
      refine lv_aload_n hx hb dX7_back_38 rfl (lv_at hl 0 rfl) ?_
      refine gC_0_5 C Z (fl_of C mw_310) dX7_back_39 ?_
      refine lv_iload_n hx hb dX7_back_42 rfl (lv_at hl 1 rfl) ?_
      by_cases hi43 : x1 = 0
      · rw [if_pos hi43] at hf
        refine r_aldo C Z (aC_59 g _) (by rw [hi43]; decide) dX7_back_43 (b := g.2.2 60) (by rw [hi43]; rfl) ?_
        obtain ⟨r44, hr44, hf⟩ := Option.bind_eq_some_iff.mp hf
        refine call_vv (As := [.ref (g.2.2 60)]) (rest := []) C Z (c_X3_becomeAs_42_60 l hr44) mf_X3_becomeAs (ml_nest C nw_67) rfl (oC_42 g _) rfl ⟨rfl, rfl, by decide, by decide⟩ rfl hl.1 (Nat.le_of_ble_eq_true rfl) dX7_back_44 (fun H locs Z => ?_)
        refine lv_aload_n hx hb dX7_back_47 rfl (lv_at hl 0 rfl) ?_
        refine gC_0_2 C Z (fl_of C mw_307) dX7_back_48 ?_
        refine gC_23_1 C Z (fl_nest C nw_100) dX7_back_51 ?_
        refine gC_42_0 C Z (fl_nest C nw_87) dX7_back_54 (x := (r44.1 10)) rfl ?_
        have hf := Option.some.inj hf
        subst hf
        exact ret_i C Z dX7_back_57
      rw [if_neg hi43] at hf
      by_cases hi43 : x1 = 1
      · rw [if_pos hi43] at hf
        refine r_aldo C Z (aC_59 g _) (by rw [hi43]; decide) dX7_back_43 (b := g.2.2 71) (by rw [hi43]; rfl) ?_
        obtain ⟨r44, hr44, hf⟩ := Option.bind_eq_some_iff.mp hf
        refine call_vv (As := [.ref (g.2.2 71)]) (rest := []) C Z (c_X3_becomeAs_42_71 l hr44) mf_X3_becomeAs (ml_nest C nw_67) rfl (oC_42 g _) rfl ⟨rfl, rfl, by decide, by decide⟩ rfl hl.1 (Nat.le_of_ble_eq_true rfl) dX7_back_44 (fun H locs Z => ?_)
        refine lv_aload_n hx hb dX7_back_47 rfl (lv_at hl 0 rfl) ?_
        refine gC_0_2 C Z (fl_of C mw_307) dX7_back_48 ?_
        refine gC_23_1 C Z (fl_nest C nw_100) dX7_back_51 ?_
        refine gC_42_0 C Z (fl_nest C nw_87) dX7_back_54 (x := (r44.1 10)) rfl ?_
        have hf := Option.some.inj hf
        subst hf
        exact ret_i C Z dX7_back_57
      rw [if_neg hi43] at hf
      cases hf
    · rw [if_pos hc25] at hf
      refine lv_bipush (v := (-2)) hx hb dX7_back_28 (by decide +kernel) ?_
      have hf := Option.some.inj hf
      subst hf
      exact ret_i C Z dX7_back_30
  · rw [if_pos hc12] at hf
    refine lv_iconst (v := (-1)) hx hb dX7_back_15 (by decide +kernel) ?_
    have hf := Option.some.inj hf
    subst hf
    exact ret_i C Z dX7_back_16
def L_X8_back_25 (k : Int32 → St → Option (Int32 × St)) (x1 : Int32) : Nat → Int32 → St → Option (Int32 × St)
  | 0, _, _ => none
  | n + 1, x2, u =>
    if 507 ≤ x2 then
      k x2 u
    else
      if oob ((507 * x1) + x2) 1014 then none else
      if oob x2 507 then none else
      L_X8_back_25 k x1 n (x2 + 1) (sA u 7 (upd (u.2.1 7) (Int32.toNatClampNeg x2) ((u.2.1 8) (Int32.toNatClampNeg ((507 * x1) + x2)))))
set_option maxHeartbeats 4000000 in
set_option maxRecDepth 100000 in
theorem b_X8_back_25 {p : Program} {l : Launch} {e : Env} {s : State} {m : MethodId} {args : Array Value} {below : List Frame} {meth : Method} {c : Code} {g : Gx} {x1 : Int32} {res : Int32 × St} {k : Int32 → St → Option (Int32 × St)} (C : Cx p s m meth c args cX8_back RX8 3 (some .int) 22 g)
    (hk : ∀ (x2 : Int32) (u : St) (H : Heap) (locs : List Loc) (ls : Array Slot), Zx wM g (Aw 22 g s.heap.size) s H locs u → lv_has ls 3 [(0, .ref (g.2.2 0))] → k x2 u = some res → W p l e (rmX 1 22) s m args below meth c H locs 0 0 (QI wM 22 g res.1 res.2 below args s) (F0 m 56 ls [])) :
    ∀ (n : Nat) (x2 : Int32) (u : St) (H : Heap) (locs : List Loc) (ls : Array Slot), Zx wM g (Aw 22 g s.heap.size) s H locs u → lv_has ls 3 [(0, .ref (g.2.2 0)), (1, .int x1), (2, .int x2)] → L_X8_back_25 k x1 n x2 u = some res → W p l e (rmX 1 22) s m args below meth c H locs 0 0 (QI wM 22 g res.1 res.2 below args s) (F0 m 25 ls []) := by
  have hx := C.1
  have hb := C.2.1
  intro n
  induction n with
  | zero =>
    intro x2 u H locs ls Z hl hf
    rw [L_X8_back_25.eq_1] at hf
    cases hf
  | succ n ih =>
    intro x2 u H locs ls Z hl hf
    rw [L_X8_back_25.eq_2] at hf
    refine lv_iload_n hx hb dX8_back_25 rfl (lv_at hl 2 rfl) ?_
    refine lv_sipush (v := 507) hx hb dX8_back_26 (by decide +kernel) ?_
    refine lv_icmp_ge (tgt := 56) hx hb dX8_back_29 (by decide) (fun hc29 => ?_) (fun hc29 => ?_)
    · rw [if_pos hc29] at hf
      exact hk _ _ H locs ls Z (lv_sub hl [0] rfl) hf
    · rw [if_neg hc29] at hf
      refine lv_aload_n hx hb dX8_back_32 rfl (lv_at hl 0 rfl) ?_
      refine gM_0_10 C Z (fl_of C mw_827) dX8_back_33 ?_
      refine lv_iload_n hx hb dX8_back_36 rfl (lv_at hl 2 rfl) ?_
      refine lv_aload_n hx hb dX8_back_37 rfl (lv_at hl 0 rfl) ?_
      refine gM_0_11 C Z (fl_of C mw_828) dX8_back_38 ?_
      refine lv_sipush (v := 507) hx hb dX8_back_41 (by decide +kernel) ?_
      refine lv_iload_n hx hb dX8_back_44 rfl (lv_at hl 1 rfl) ?_
      refine lv_imul hx hb dX8_back_45 ?_
      refine lv_iload_n hx hb dX8_back_46 rfl (lv_at hl 2 rfl) ?_
      refine lv_iadd hx hb dX8_back_47 ?_
      by_cases ho48 : oob ((507 * x1) + x2) 1014 = true
      · rw [if_pos ho48] at hf; cases hf
      rw [if_neg ho48] at hf
      refine r_ald C Z (aM_9 g _ (f := (u.2.1 8)) rfl) ho48 rfl dX8_back_48 (x := ((u.2.1 8) (Int32.toNatClampNeg ((507 * x1) + x2)))) rfl ?_
      by_cases ho49 : oob x2 507 = true
      · rw [if_pos ho49] at hf; cases hf
      rw [if_neg ho49] at hf
      refine r_ast C wokM Z (aM_8 g _ (f := (u.2.1 7)) rfl) ho49 rfl (sM_8 g _ _) dX8_back_49 (fun H locs Z => ?_)
      refine lv_iinc (v := (x2 + 1)) (lv' := [(2, .int (x2 + 1)), (0, .ref (g.2.2 0)), (1, .int x1)]) hx hb dX8_back_50 hl (k := 2) rfl rfl (by decide) rfl (fun ls hl => ?_)
      refine lv_goto (tgt := 25) hx hb dX8_back_53 (by decide) ?_
      exact ih _ _ _ _ _ Z (lv_sub hl [1, 2, 0] rfl) hf
def f_X8_back (u : St) (x1 : Int32) : Option (Int32 × St) :=
  Option.bind (f_X8_in x1 0 1) fun r3 =>
  if r3 = 0 then
    some ((-1), u)
  else
    if oob x1 2 then none else
    if ((u.2.1 9) (Int32.toNatClampNeg x1)) = 0 then
      some ((-2), u)
    else
      L_X8_back_25 (fun x2 u25 =>
        some (((u25.2.1 7) 0), u25)) x1 FU 0 u
set_option maxHeartbeats 4000000 in
set_option maxRecDepth 100000 in
theorem c_X8_back (l : Launch) {g : Gx} {u : St} {x1 : Int32} {res : Int32 × St} (hf : f_X8_back u x1 = some res) : CI wM 22 l yX8_back (wsY yX8_back cX8_back 3 (some .int)) (rmX 1 22) g [.ref (g.2.2 0), .int x1] u res.1 res.2 := by
  refine CI_start (by decide +kernel) rfl (Nat.le_of_ble_eq_true rfl) (fun {p e s m args below meth c ls} C Z hl => ?_)
  have hl : lv_has ls 3 [(0, .ref (g.2.2 0)), (1, .int x1)] := hl
  have hx := C.1
  have hb := C.2.1
  unfold f_X8_back at hf
  refine lv_iload_n hx hb dX8_back_0 rfl (lv_at hl 1 rfl) ?_
  refine lv_iconst (v := 0) hx hb dX8_back_1 (by decide +kernel) ?_
  refine lv_iconst (v := 1) hx hb dX8_back_2 (by decide +kernel) ?_
  obtain ⟨r3, hr3, hf⟩ := Option.bind_eq_some_iff.mp hf
  refine call_si (As := [.int x1, .int 0, .int 1]) (rest := []) C Z (c_X8_in l hr3) mf_X8_in (ml_of C mw_934) rfl ⟨rfl, rfl, by decide, by decide⟩ rfl hl.1 (Nat.le_of_ble_eq_true rfl) dX8_back_3 (fun H locs Z => ?_)
  refine lv_if_ne (tgt := 11) hx hb dX8_back_6 (by decide) (fun hc6 => ?_) (fun hc6 => ?_)
  · rw [if_neg hc6] at hf
    refine lv_aload_n hx hb dX8_back_11 rfl (lv_at hl 0 rfl) ?_
    refine gM_0_12 C Z (fl_of C mw_829) dX8_back_12 ?_
    refine lv_iload_n hx hb dX8_back_15 rfl (lv_at hl 1 rfl) ?_
    by_cases ho16 : oob x1 2 = true
    · rw [if_pos ho16] at hf; cases hf
    rw [if_neg ho16] at hf
    refine r_zald C Z (aM_10 g _ (f := (u.2.1 9)) rfl) ho16 rfl dX8_back_16 (x := ((u.2.1 9) (Int32.toNatClampNeg x1))) rfl ?_
    refine lv_if_ne (tgt := 23) hx hb dX8_back_17 (by decide) (fun hc17 => ?_) (fun hc17 => ?_)
    · rw [if_neg hc17] at hf
      refine lv_iconst (v := 0) hx hb dX8_back_23 (by decide +kernel) ?_
      refine lv_istore_n (lv' := [(2, .int 0), (0, .ref (g.2.2 0)), (1, .int x1)]) hx hb dX8_back_24 rfl hl (by decide) rfl (fun ls hl => ?_)
      refine b_X8_back_25 C (fun x2 u25 H locs ls Z hl hf => ?_) FU _ _ _ _ _ Z (lv_sub hl [1, 2, 0] rfl) hf
      refine lv_aload_n hx hb dX8_back_56 rfl (lv_at hl 0 rfl) ?_
      refine gM_0_10 C Z (fl_of C mw_827) dX8_back_57 ?_
      refine lv_iconst (v := 0) hx hb dX8_back_60 (by decide +kernel) ?_
      refine r_ald C Z (aM_8 g _ (f := (u25.2.1 7)) rfl) (by decide) (k := 0) (by decide) dX8_back_61 (x := ((u25.2.1 7) 0)) rfl ?_
      have hf := Option.some.inj hf
      subst hf
      exact ret_i C Z dX8_back_62
    · rw [if_pos hc17] at hf
      refine lv_bipush (v := (-2)) hx hb dX8_back_20 (by decide +kernel) ?_
      have hf := Option.some.inj hf
      subst hf
      exact ret_i C Z dX8_back_22
  · rw [if_pos hc6] at hf
    refine lv_iconst (v := (-1)) hx hb dX8_back_9 (by decide +kernel) ?_
    have hf := Option.some.inj hf
    subst hf
    exact ret_i C Z dX8_back_10
