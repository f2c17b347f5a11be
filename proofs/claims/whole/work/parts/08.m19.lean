def L_X3_returnTo_21 (k : Int32 → St → Option (St)) (x2 x3 : Int32) : Nat → Int32 → St → Option (St)
  | 0, _, _ => none
  | n + 1, x4, u =>
    if 4 ≤ x4 then
      k x4 u
    else
      if oob x3 5 then none else
      if oob x4 4 then none else
      L_X3_returnTo_21 k x2 x3 n (x4 + 1) (sA u (31 + (Int32.toNatClampNeg x3)) (upd (u.2.1 (31 + (Int32.toNatClampNeg x3))) (Int32.toNatClampNeg x4) (((u.2.1 (31 + (Int32.toNatClampNeg x3))) (Int32.toNatClampNeg x4)) &&& x2)))
set_option maxHeartbeats 4000000 in
set_option maxRecDepth 100000 in
theorem b_X3_returnTo_21 {p : Program} {l : Launch} {e : Env} {s : State} {m : MethodId} {args : Array Value} {below : List Frame} {meth : Method} {c : Code} {g : Gx} {x2 x3 : Int32} {res : St} {k : Int32 → St → Option (St)} (C : Cx p s m meth c args cX3_returnTo RX3 5 (none) 82 g)
    (hk : ∀ (x4 : Int32) (u : St) (H : Heap) (locs : List Loc) (ls : Array Slot), Zx wC g (Aw 82 g s.heap.size) s H locs u → lv_has ls 5 [(0, .ref (g.2.2 42)), (2, .int x2), (3, .int x3)] → k x4 u = some res → W p l e (rmX 0 0) s m args below meth c H locs 0 0 (QV wC 82 g res below args s) (F0 m 46 ls [])) :
    ∀ (n : Nat) (x4 : Int32) (u : St) (H : Heap) (locs : List Loc) (ls : Array Slot), Zx wC g (Aw 82 g s.heap.size) s H locs u → lv_has ls 5 [(0, .ref (g.2.2 42)), (2, .int x2), (3, .int x3), (4, .int x4)] → L_X3_returnTo_21 k x2 x3 n x4 u = some res → W p l e (rmX 0 0) s m args below meth c H locs 0 0 (QV wC 82 g res below args s) (F0 m 21 ls []) := by
  have hx := C.1
  have hb := C.2.1
  intro n
  induction n with
  | zero =>
    intro x4 u H locs ls Z hl hf
    rw [L_X3_returnTo_21.eq_1] at hf
    cases hf
  | succ n ih =>
    intro x4 u H locs ls Z hl hf
    rw [L_X3_returnTo_21.eq_2] at hf
    refine lv_iload hx hb dX3_returnTo_21 (lv_at hl 3 rfl) ?_
    refine lv_iconst (v := 4) hx hb dX3_returnTo_23 (by decide +kernel) ?_
    refine lv_icmp_ge (tgt := 46) hx hb dX3_returnTo_24 (by decide) (fun hc24 => ?_) (fun hc24 => ?_)
    · rw [if_pos hc24] at hf
      exact hk _ _ H locs ls Z (lv_sub hl [0, 1, 2] rfl) hf
    · rw [if_neg hc24] at hf
      refine lv_aload_n hx hb dX3_returnTo_27 rfl (lv_at hl 0 rfl) ?_
      refine gC_42_3 C Z (fl_of C mw_228) dX3_returnTo_28 ?_
      refine lv_iload_n hx hb dX3_returnTo_31 rfl (lv_at hl 2 rfl) ?_
      by_cases ho32 : oob x3 5 = true
      · rw [if_pos ho32] at hf; cases hf
      rw [if_neg ho32] at hf
      refine r_aldr C Z (aC_44 g _) ho32 dX3_returnTo_32 (b := g.2.2 (45 + (Int32.toNatClampNeg x3))) rfl ?_
      refine lv_iload hx hb dX3_returnTo_33 (lv_at hl 3 rfl) ?_
      refine lv_dup2_11 hx hb dX3_returnTo_35 rfl rfl ?_
      by_cases ho36 : oob x4 4 = true
      · rw [if_pos ho36] at hf; cases hf
      rw [if_neg ho36] at hf
      refine r_ald C Z (arC_44 g _ (oob_lt ho32) (f := (u.2.1 (31 + (Int32.toNatClampNeg x3)))) rfl) ho36 rfl dX3_returnTo_36 (x := ((u.2.1 (31 + (Int32.toNatClampNeg x3))) (Int32.toNatClampNeg x4))) rfl ?_
      refine lv_iload_n hx hb dX3_returnTo_37 rfl (lv_at hl 1 rfl) ?_
      refine lv_iand hx hb dX3_returnTo_38 ?_
      refine r_ast C wokC Z (arC_44 g _ (oob_lt ho32) (f := (u.2.1 (31 + (Int32.toNatClampNeg x3)))) rfl) ho36 rfl (srC_44 g _ (oob_lt ho32) _) dX3_returnTo_39 (fun H locs Z => ?_)
      refine lv_iinc (v := (x4 + 1)) (lv' := [(4, .int (x4 + 1)), (0, .ref (g.2.2 42)), (2, .int x2), (3, .int x3)]) hx hb dX3_returnTo_40 hl (k := 3) rfl rfl (by decide) rfl (fun ls hl => ?_)
      refine lv_goto (tgt := 21) hx hb dX3_returnTo_43 (by decide) ?_
      exact ih _ _ _ _ _ Z (lv_sub hl [1, 2, 3, 0] rfl) hf
def L_X3_returnTo_13 (k : Int32 → St → Option (St)) (x2 : Int32) : Nat → Int32 → St → Option (St)
  | 0, _, _ => none
  | n + 1, x3, u =>
    if 5 ≤ x3 then
      k x3 u
    else
      L_X3_returnTo_21 (fun x4 u21 =>
        L_X3_returnTo_13 k x2 n (x3 + 1) u21) x2 x3 FU 0 u
set_option maxHeartbeats 4000000 in
set_option maxRecDepth 100000 in
theorem b_X3_returnTo_13 {p : Program} {l : Launch} {e : Env} {s : State} {m : MethodId} {args : Array Value} {below : List Frame} {meth : Method} {c : Code} {g : Gx} {x2 : Int32} {res : St} {k : Int32 → St → Option (St)} (C : Cx p s m meth c args cX3_returnTo RX3 5 (none) 82 g)
    (hk : ∀ (x3 : Int32) (u : St) (H : Heap) (locs : List Loc) (ls : Array Slot), Zx wC g (Aw 82 g s.heap.size) s H locs u → lv_has ls 5 [] → k x3 u = some res → W p l e (rmX 0 0) s m args below meth c H locs 0 0 (QV wC 82 g res below args s) (F0 m 52 ls [])) :
    ∀ (n : Nat) (x3 : Int32) (u : St) (H : Heap) (locs : List Loc) (ls : Array Slot), Zx wC g (Aw 82 g s.heap.size) s H locs u → lv_has ls 5 [(0, .ref (g.2.2 42)), (2, .int x2), (3, .int x3)] → L_X3_returnTo_13 k x2 n x3 u = some res → W p l e (rmX 0 0) s m args below meth c H locs 0 0 (QV wC 82 g res below args s) (F0 m 13 ls []) := by
  have hx := C.1
  have hb := C.2.1
  intro n
  induction n with
  | zero =>
    intro x3 u H locs ls Z hl hf
    rw [L_X3_returnTo_13.eq_1] at hf
    cases hf
  | succ n ih =>
    intro x3 u H locs ls Z hl hf
    rw [L_X3_returnTo_13.eq_2] at hf
    refine lv_iload_n hx hb dX3_returnTo_13 rfl (lv_at hl 2 rfl) ?_
    refine lv_iconst (v := 5) hx hb dX3_returnTo_14 (by decide +kernel) ?_
    refine lv_icmp_ge (tgt := 52) hx hb dX3_returnTo_15 (by decide) (fun hc15 => ?_) (fun hc15 => ?_)
    · rw [if_pos hc15] at hf
      exact hk _ _ H locs ls Z (lv_sub hl [] rfl) hf
    · rw [if_neg hc15] at hf
      refine lv_iconst (v := 0) hx hb dX3_returnTo_18 (by decide +kernel) ?_
      refine lv_istore (lv' := [(4, .int 0), (0, .ref (g.2.2 42)), (2, .int x2), (3, .int x3)]) hx hb dX3_returnTo_19 hl (by decide) rfl (fun ls hl => ?_)
      refine b_X3_returnTo_21 C (fun x4 u21 H locs ls Z hl hf => ?_) FU _ _ _ _ _ Z (lv_sub hl [1, 2, 3, 0] rfl) hf
      refine lv_iinc (v := (x3 + 1)) (lv' := [(3, .int (x3 + 1)), (0, .ref (g.2.2 42)), (2, .int x2)]) hx hb dX3_returnTo_46 hl (k := 2) rfl rfl (by decide) rfl (fun ls hl => ?_)
      refine lv_goto (tgt := 13) hx hb dX3_returnTo_49 (by decide) ?_
      exact ih _ _ _ _ _ Z (lv_sub hl [1, 2, 0] rfl) hf
def f_X3_returnTo (u : St) (x1 : Int32) : Option (St) :=
  L_X3_returnTo_13 (fun x3 u13 =>
    some u13) ((1 <<< (x1 &&& 31)) - 1) FU 0 (sI u 10 x1)
set_option maxHeartbeats 4000000 in
set_option maxRecDepth 100000 in
theorem c_X3_returnTo (l : Launch) {g : Gx} {u : St} {x1 : Int32} {res : St} (hf : f_X3_returnTo u x1 = some res) : CV wC 82 l yX3_returnTo (wsY yX3_returnTo cX3_returnTo 5 (none)) (rmX 0 0) g [.ref (g.2.2 42), .int x1] u res := by
  refine CV_start (by decide +kernel) rfl (Nat.le_of_ble_eq_true rfl) (fun {p e s m args below meth c ls} C Z hl => ?_)
  have hl : lv_has ls 5 [(0, .ref (g.2.2 42)), (1, .int x1)] := hl
  have hx := C.1
  have hb := C.2.1
  unfold f_X3_returnTo at hf
  refine lv_aload_n hx hb dX3_returnTo_0 rfl (lv_at hl 0 rfl) ?_
  refine lv_iload_n hx hb dX3_returnTo_1 rfl (lv_at hl 1 rfl) ?_
  refine pC_42_0 C Z (fl_of C mw_218) dX3_returnTo_2 (fun H locs Z => ?_)
  refine lv_iconst (v := 1) hx hb dX3_returnTo_5 (by decide +kernel) ?_
  refine lv_iload_n hx hb dX3_returnTo_6 rfl (lv_at hl 1 rfl) ?_
  refine lv_ishl hx hb dX3_returnTo_7 ?_
  refine lv_iconst (v := 1) hx hb dX3_returnTo_8 (by decide +kernel) ?_
  refine lv_isub hx hb dX3_returnTo_9 ?_
  refine lv_istore_n (lv' := [(2, .int ((1 <<< (x1 &&& 31)) - 1)), (0, .ref (g.2.2 42)), (1, .int x1)]) hx hb dX3_returnTo_10 rfl hl (by decide) rfl (fun ls hl => ?_)
  refine lv_iconst (v := 0) hx hb dX3_returnTo_11 (by decide +kernel) ?_
  refine lv_istore_n (lv' := [(3, .int 0), (2, .int ((1 <<< (x1 &&& 31)) - 1)), (0, .ref (g.2.2 42)), (1, .int x1)]) hx hb dX3_returnTo_12 rfl hl (by decide) rfl (fun ls hl => ?_)
  refine b_X3_returnTo_13 C (fun x3 u13 H locs ls Z hl hf => ?_) FU _ _ _ _ _ Z (lv_sub hl [2, 1, 0] rfl) hf
  have hf := Option.some.inj hf
  subst hf
  exact ret_v C Z dX3_returnTo_52
def f_X3_undoLatest (u : St) : Option (St) :=
  if 0 < (u.1 12) then
    if oob ((u.1 12) - 1) 10 then none else
    if ((u.2.1 36) (Int32.toNatClampNeg ((u.1 12) - 1))) = 0 then
      Option.bind (f_X3_returnTo (sI u 12 ((u.1 12) - 1)) ((u.2.1 37) (Int32.toNatClampNeg ((u.1 12) - 1)))) fun r66 =>
      some r66
    else
    if ((u.2.1 36) (Int32.toNatClampNeg ((u.1 12) - 1))) = 1 then
      if oob ((u.2.1 37) (Int32.toNatClampNeg ((u.1 12) - 1))) 24 then none else
      some (sA (sI u 12 ((u.1 12) - 1)) 30 (upd (u.2.1 30) (Int32.toNatClampNeg ((u.2.1 37) (Int32.toNatClampNeg ((u.1 12) - 1)))) ((u.2.1 38) (Int32.toNatClampNeg ((u.1 12) - 1)))))
    else
    some (sI (sI u 12 ((u.1 12) - 1)) 11 ((u.1 11) &&& ((1 <<< (((u.2.1 37) (Int32.toNatClampNeg ((u.1 12) - 1))) &&& 31)) ^^^ (-1))))
  else
    some u
set_option maxHeartbeats 4000000 in
set_option maxRecDepth 100000 in
theorem c_X3_undoLatest (l : Launch) {g : Gx} {u : St} {res : St} (hf : f_X3_undoLatest u = some res) : CV wC 82 l yX3_undoLatest (wsY yX3_undoLatest cX3_undoLatest 2 (none)) (rmX 1 24) g [.ref (g.2.2 42)] u res := by
  refine CV_start (by decide +kernel) rfl (Nat.le_of_ble_eq_true rfl) (fun {p e s m args below meth c ls} C Z hl => ?_)
  have hl : lv_has ls 2 [(0, .ref (g.2.2 42))] := hl
  have hx := C.1
  have hb := C.2.1
  unfold f_X3_undoLatest at hf
  refine lv_aload_n hx hb dX3_undoLatest_0 rfl (lv_at hl 0 rfl) ?_
  refine gC_42_7 C Z (fl_of C mw_234) dX3_undoLatest_1 (x := (u.1 12)) rfl ?_
  refine lv_if_gt (tgt := 8) hx hb dX3_undoLatest_4 (by decide) (fun hc4 => ?_) (fun hc4 => ?_)
  · rw [if_pos hc4] at hf
    refine lv_aload_n hx hb dX3_undoLatest_8 rfl (lv_at hl 0 rfl) ?_
    refine lv_dup hx hb dX3_undoLatest_9 rfl ?_
    refine gC_42_7 C Z (fl_of C mw_234) dX3_undoLatest_10 (x := (u.1 12)) rfl ?_
    refine lv_iconst (v := 1) hx hb dX3_undoLatest_13 (by decide +kernel) ?_
    refine lv_isub hx hb dX3_undoLatest_14 ?_
    refine pC_42_7 C Z (fl_of C mw_234) dX3_undoLatest_15 (fun H locs Z => ?_)
    refine lv_aload_n hx hb dX3_undoLatest_18 rfl (lv_at hl 0 rfl) ?_
    refine gC_42_5 C Z (fl_of C mw_232) dX3_undoLatest_19 ?_
    refine lv_aload_n hx hb dX3_undoLatest_22 rfl (lv_at hl 0 rfl) ?_
    refine gC_42_7 C Z (fl_of C mw_234) dX3_undoLatest_23 (x := ((u.1 12) - 1)) rfl ?_
    by_cases ho26 : oob ((u.1 12) - 1) 10 = true
    · rw [if_pos ho26] at hf; cases hf
    rw [if_neg ho26] at hf
    refine r_ald C Z (aC_51 g _ (f := (u.2.1 37)) rfl) ho26 rfl dX3_undoLatest_26 (x := ((u.2.1 37) (Int32.toNatClampNeg ((u.1 12) - 1)))) rfl ?_
    refine lv_istore_n (lv' := [(1, .int ((u.2.1 37) (Int32.toNatClampNeg ((u.1 12) - 1)))), (0, .ref (g.2.2 42))]) hx hb dX3_undoLatest_27 rfl hl (by decide) rfl (fun ls hl => ?_)
    refine lv_aload_n hx hb dX3_undoLatest_28 rfl (lv_at hl 1 rfl) ?_
    refine gC_42_4 C Z (fl_of C mw_231) dX3_undoLatest_29 ?_
    refine lv_aload_n hx hb dX3_undoLatest_32 rfl (lv_at hl 1 rfl) ?_
    refine gC_42_7 C Z (fl_of C mw_234) dX3_undoLatest_33 (x := ((u.1 12) - 1)) rfl ?_
    refine r_ald C Z (aC_50 g _ (f := (u.2.1 36)) rfl) ho26 rfl dX3_undoLatest_36 (x := ((u.2.1 36) (Int32.toNatClampNeg ((u.1 12) - 1)))) rfl ?_
    by_cases hs37_0 : ((u.2.1 36) (Int32.toNatClampNeg ((u.1 12) - 1))) = 0
    · rw [if_pos hs37_0] at hf
      refine lv_lookup (tgt := 64) hx hb dX3_undoLatest_37 (by decide) (by rw [hs37_0]; first | done | rfl) (by decide) ?_
      refine lv_aload_n hx hb dX3_undoLatest_64 rfl (lv_at hl 1 rfl) ?_
      refine lv_iload_n hx hb dX3_undoLatest_65 rfl (lv_at hl 0 rfl) ?_
      obtain ⟨r66, hr66, hf⟩ := Option.bind_eq_some_iff.mp hf
      refine call_vv (As := [.int ((u.2.1 37) (Int32.toNatClampNeg ((u.1 12) - 1)))]) (rest := []) C Z (c_X3_returnTo l hr66) mf_X3_returnTo (ml_of C mw_605) rfl (oC_42 g _) rfl ⟨rfl, rfl, by decide, by decide⟩ rfl hl.1 (Nat.le_of_ble_eq_true rfl) dX3_undoLatest_66 (fun H locs Z => ?_)
      refine lv_goto (tgt := 104) hx hb dX3_undoLatest_69 (by decide) ?_
      have hf := Option.some.inj hf
      subst hf
      exact ret_v C Z dX3_undoLatest_104
    rw [if_neg hs37_0] at hf
    by_cases hs37_1 : ((u.2.1 36) (Int32.toNatClampNeg ((u.1 12) - 1))) = 1
    · rw [if_pos hs37_1] at hf
      refine lv_lookup (tgt := 72) hx hb dX3_undoLatest_37 (by decide) (by rw [hs37_1]; first | done | rfl) (by decide) ?_
      refine lv_aload_n hx hb dX3_undoLatest_72 rfl (lv_at hl 1 rfl) ?_
      refine gC_42_2 C Z (fl_of C mw_225) dX3_undoLatest_73 ?_
      refine lv_iload_n hx hb dX3_undoLatest_76 rfl (lv_at hl 0 rfl) ?_
      refine lv_aload_n hx hb dX3_undoLatest_77 rfl (lv_at hl 1 rfl) ?_
      refine gC_42_6 C Z (fl_of C mw_233) dX3_undoLatest_78 ?_
      refine lv_aload_n hx hb dX3_undoLatest_81 rfl (lv_at hl 1 rfl) ?_
      refine gC_42_7 C Z (fl_of C mw_234) dX3_undoLatest_82 (x := ((u.1 12) - 1)) rfl ?_
      refine r_ald C Z (aC_52 g _ (f := (u.2.1 38)) rfl) ho26 rfl dX3_undoLatest_85 (x := ((u.2.1 38) (Int32.toNatClampNeg ((u.1 12) - 1)))) rfl ?_
      by_cases ho86 : oob ((u.2.1 37) (Int32.toNatClampNeg ((u.1 12) - 1))) 24 = true
      · rw [if_pos ho86] at hf; cases hf
      rw [if_neg ho86] at hf
      refine r_ast C wokC Z (aC_43 g _ (f := (u.2.1 30)) rfl) ho86 rfl (sC_43 g _ _) dX3_undoLatest_86 (fun H locs Z => ?_)
      refine lv_goto (tgt := 104) hx hb dX3_undoLatest_87 (by decide) ?_
      have hf := Option.some.inj hf
      subst hf
      exact ret_v C Z dX3_undoLatest_104
    rw [if_neg hs37_1] at hf
    refine lv_lookup (tgt := 90) (off := 53) hx hb dX3_undoLatest_37 (by decide) (by show Op.lookupswitch.offset [(0, 27), (1, 35)] 53 _ = _; rw [lv_osw hs37_0 (by decide), lv_osw hs37_1 (by decide)]; rfl) (by decide) ?_
    refine lv_aload_n hx hb dX3_undoLatest_90 rfl (lv_at hl 1 rfl) ?_
    refine lv_dup hx hb dX3_undoLatest_91 rfl ?_
    refine gC_42_1 C Z (fl_of C mw_222) dX3_undoLatest_92 (x := (u.1 11)) rfl ?_
    refine lv_iconst (v := 1) hx hb dX3_undoLatest_95 (by decide +kernel) ?_
    refine lv_iload_n hx hb dX3_undoLatest_96 rfl (lv_at hl 0 rfl) ?_
    refine lv_ishl hx hb dX3_undoLatest_97 ?_
    refine lv_iconst (v := (-1)) hx hb dX3_undoLatest_98 (by decide +kernel) ?_
    refine lv_ixor hx hb dX3_undoLatest_99 ?_
    refine lv_iand hx hb dX3_undoLatest_100 ?_
    refine pC_42_1 C Z (fl_of C mw_222) dX3_undoLatest_101 (fun H locs Z => ?_)
    have hf := Option.some.inj hf
    subst hf
    exact ret_v C Z dX3_undoLatest_104
  · rw [if_neg hc4] at hf
    have hf := Option.some.inj hf
    subst hf
    exact ret_v C Z dX3_undoLatest_7
def f_X7_undo (u : St) : Option (Int32 × St) :=
  if (u.1 12) = 0 then
    some ((-2), u)
  else
    Option.bind (f_X3_undoLatest u) fun r23 =>
    some ((r23.1 12), r23)
set_option maxHeartbeats 4000000 in
set_option maxRecDepth 100000 in
theorem c_X7_undo (l : Launch) {g : Gx} {u : St} {res : Int32 × St} (hf : f_X7_undo u = some res) : CI wC 82 l yX7_undo (wsY yX7_undo cX7_undo 1 (some .int)) (rmX 2 45) g [.ref (g.2.2 0)] u res.1 res.2 := by
  refine CI_start (by decide +kernel) rfl (Nat.le_of_ble_eq_true rfl) (fun {p e s m args below meth c ls} C Z hl => ?_)
  have hl : lv_has ls 1 [(0, .ref (g.2.2 0))] := hl
  have hx := C.1
  have hb := C.2.1
  unfold f_X7_undo at hf
  refine lv_aload_n hx hb dX7_undo_0 rfl (lv_at hl 0 rfl) ?_
  refine gC_0_2 C Z (fl_of C mw_307) dX7_undo_1 ?_
  refine gC_23_1 C Z (fl_nest C nw_100) dX7_undo_4 ?_
  refine gC_42_7 C Z (fl_nest C nw_96) dX7_undo_7 (x := (u.1 12)) rfl ?_
  refine lv_if_ne (tgt := 16) hx hb dX7_undo_10 (by decide) (fun hc10 => ?_) (fun hc10 => ?_)
  · rw [if_neg hc10] at hf
    refine lv_aload_n hx hb dX7_undo_16 rfl (lv_at hl 0 rfl) ?_
    refine gC_0_2 C Z (fl_of C mw_307) dX7_undo_17 ?_
    refine gC_23_1 C Z (fl_nest C nw_100) dX7_undo_20 ?_
    obtain ⟨r23, hr23, hf⟩ := Option.bind_eq_some_iff.mp hf
    refine call_vv (As := []) (rest := []) C Z (c_X3_undoLatest l hr23) mf_X3_undoLatest (ml_nest C nw_44) rfl (oC_42 g _) rfl ⟨rfl, rfl, by decide, by decide⟩ rfl hl.1 (Nat.le_of_ble_eq_true rfl) dX7_undo_23 (fun H locs Z => ?_)
    refine lv_aload_n hx hb dX7_undo_26 rfl (lv_at hl 0 rfl) ?_
    refine gC_0_2 C Z (fl_of C mw_307) dX7_undo_27 ?_
    refine gC_23_1 C Z (fl_nest C nw_100) dX7_undo_30 ?_
    refine gC_42_7 C Z (fl_nest C nw_96) dX7_undo_33 (x := (r23.1 12)) rfl ?_
    have hf := Option.some.inj hf
    subst hf
    exact ret_i C Z dX7_undo_36
  · rw [if_pos hc10] at hf
    refine lv_bipush (v := (-2)) hx hb dX7_undo_13 (by decide +kernel) ?_
    have hf := Option.some.inj hf
    subst hf
    exact ret_i C Z dX7_undo_15
def L_X8_undo_40 (k : Int32 → St → Option (Int32 × St)) (x1 : Int32) : Nat → Int32 → St → Option (Int32 × St)
  | 0, _, _ => none
  | n + 1, x2, u =>
    if 46 ≤ x2 then
      k x2 u
    else
      if oob (x1 + x2) 507 then none else
      if oob x2 507 then none else
      L_X8_undo_40 k x1 n (x2 + 1) (sA u 7 (upd (u.2.1 7) (Int32.toNatClampNeg x2) ((u.2.1 7) (Int32.toNatClampNeg (x1 + x2)))))
set_option maxHeartbeats 4000000 in
set_option maxRecDepth 100000 in
theorem b_X8_undo_40 {p : Program} {l : Launch} {e : Env} {s : State} {m : MethodId} {args : Array Value} {below : List Frame} {meth : Method} {c : Code} {g : Gx} {x1 : Int32} {res : Int32 × St} {k : Int32 → St → Option (Int32 × St)} (C : Cx p s m meth c args cX8_undo RX8 3 (some .int) 22 g)
    (hk : ∀ (x2 : Int32) (u : St) (H : Heap) (locs : List Loc) (ls : Array Slot), Zx wM g (Aw 22 g s.heap.size) s H locs u → lv_has ls 3 [(0, .ref (g.2.2 0))] → k x2 u = some res → W p l e (rmX 0 0) s m args below meth c H locs 0 0 (QI wM 22 g res.1 res.2 below args s) (F0 m 66 ls [])) :
    ∀ (n : Nat) (x2 : Int32) (u : St) (H : Heap) (locs : List Loc) (ls : Array Slot), Zx wM g (Aw 22 g s.heap.size) s H locs u → lv_has ls 3 [(0, .ref (g.2.2 0)), (1, .int x1), (2, .int x2)] → L_X8_undo_40 k x1 n x2 u = some res → W p l e (rmX 0 0) s m args below meth c H locs 0 0 (QI wM 22 g res.1 res.2 below args s) (F0 m 40 ls []) := by
  have hx := C.1
  have hb := C.2.1
  intro n
  induction n with
  | zero =>
    intro x2 u H locs ls Z hl hf
    rw [L_X8_undo_40.eq_1] at hf
    cases hf
  | succ n ih =>
    intro x2 u H locs ls Z hl hf
    rw [L_X8_undo_40.eq_2] at hf
    refine lv_iload_n hx hb dX8_undo_40 rfl (lv_at hl 2 rfl) ?_
    refine lv_bipush (v := 46) hx hb dX8_undo_41 (by decide +kernel) ?_
    refine lv_icmp_ge (tgt := 66) hx hb dX8_undo_43 (by decide) (fun hc43 => ?_) (fun hc43 => ?_)
    · rw [if_pos hc43] at hf
      exact hk _ _ H locs ls Z (lv_sub hl [0] rfl) hf
    · rw [if_neg hc43] at hf
      refine lv_aload_n hx hb dX8_undo_46 rfl (lv_at hl 0 rfl) ?_
      refine gM_0_10 C Z (fl_of C mw_827) dX8_undo_47 ?_
      refine lv_iload_n hx hb dX8_undo_50 rfl (lv_at hl 2 rfl) ?_
      refine lv_aload_n hx hb dX8_undo_51 rfl (lv_at hl 0 rfl) ?_
      refine gM_0_10 C Z (fl_of C mw_827) dX8_undo_52 ?_
      refine lv_iload_n hx hb dX8_undo_55 rfl (lv_at hl 1 rfl) ?_
      refine lv_iload_n hx hb dX8_undo_56 rfl (lv_at hl 2 rfl) ?_
      refine lv_iadd hx hb dX8_undo_57 ?_
      by_cases ho58 : oob (x1 + x2) 507 = true
      · rw [if_pos ho58] at hf; cases hf
      rw [if_neg ho58] at hf
      refine r_ald C Z (aM_8 g _ (f := (u.2.1 7)) rfl) ho58 rfl dX8_undo_58 (x := ((u.2.1 7) (Int32.toNatClampNeg (x1 + x2)))) rfl ?_
      by_cases ho59 : oob x2 507 = true
      · rw [if_pos ho59] at hf; cases hf
      rw [if_neg ho59] at hf
      refine r_ast C wokM Z (aM_8 g _ (f := (u.2.1 7)) rfl) ho59 rfl (sM_8 g _ _) dX8_undo_59 (fun H locs Z => ?_)
      refine lv_iinc (v := (x2 + 1)) (lv' := [(2, .int (x2 + 1)), (0, .ref (g.2.2 0)), (1, .int x1)]) hx hb dX8_undo_60 hl (k := 2) rfl rfl (by decide) rfl (fun ls hl => ?_)
      refine lv_goto (tgt := 40) hx hb dX8_undo_63 (by decide) ?_
      exact ih _ _ _ _ _ Z (lv_sub hl [1, 2, 0] rfl) hf
def f_X8_undo (u : St) : Option (Int32 × St) :=
  if ((u.2.1 7) 46) = 0 then
    some ((-2), u)
  else
    L_X8_undo_40 (fun x2 u40 =>
      some (((u40.2.1 7) 46), u40)) (47 + (46 * ((upd (u.2.1 7) 46 (((u.2.1 7) 46) - 1)) 46))) FU 0 (sA u 7 (upd (u.2.1 7) 46 (((u.2.1 7) 46) - 1)))
set_option maxHeartbeats 4000000 in
set_option maxRecDepth 100000 in
theorem c_X8_undo (l : Launch) {g : Gx} {u : St} {res : Int32 × St} (hf : f_X8_undo u = some res) : CI wM 22 l yX8_undo (wsY yX8_undo cX8_undo 3 (some .int)) (rmX 0 0) g [.ref (g.2.2 0)] u res.1 res.2 := by
  refine CI_start (by decide +kernel) rfl (Nat.le_of_ble_eq_true rfl) (fun {p e s m args below meth c ls} C Z hl => ?_)
  have hl : lv_has ls 3 [(0, .ref (g.2.2 0))] := hl
  have hx := C.1
  have hb := C.2.1
  unfold f_X8_undo at hf
  refine lv_aload_n hx hb dX8_undo_0 rfl (lv_at hl 0 rfl) ?_
  refine gM_0_10 C Z (fl_of C mw_827) dX8_undo_1 ?_
  refine lv_bipush (v := 46) hx hb dX8_undo_4 (by decide +kernel) ?_
  refine r_ald C Z (aM_8 g _ (f := (u.2.1 7)) rfl) (by decide) (k := 46) (by decide) dX8_undo_6 (x := ((u.2.1 7) 46)) rfl ?_
  refine lv_if_ne (tgt := 13) hx hb dX8_undo_7 (by decide) (fun hc7 => ?_) (fun hc7 => ?_)
  · rw [if_neg hc7] at hf
    refine lv_aload_n hx hb dX8_undo_13 rfl (lv_at hl 0 rfl) ?_
    refine gM_0_10 C Z (fl_of C mw_827) dX8_undo_14 ?_
    refine lv_bipush (v := 46) hx hb dX8_undo_17 (by decide +kernel) ?_
    refine lv_dup2_11 hx hb dX8_undo_19 rfl rfl ?_
    refine r_ald C Z (aM_8 g _ (f := (u.2.1 7)) rfl) (by decide) (k := 46) (by decide) dX8_undo_20 (x := ((u.2.1 7) 46)) rfl ?_
    refine lv_iconst (v := 1) hx hb dX8_undo_21 (by decide +kernel) ?_
    refine lv_isub hx hb dX8_undo_22 ?_
    refine r_ast C wokM Z (aM_8 g _ (f := (u.2.1 7)) rfl) (by decide) (k := 46) (by decide) (sM_8 g _ _) dX8_undo_23 (fun H locs Z => ?_)
    refine lv_bipush (v := 47) hx hb dX8_undo_24 (by decide +kernel) ?_
    refine lv_bipush (v := 46) hx hb dX8_undo_26 (by decide +kernel) ?_
    refine lv_aload_n hx hb dX8_undo_28 rfl (lv_at hl 0 rfl) ?_
    refine gM_0_10 C Z (fl_of C mw_827) dX8_undo_29 ?_
    refine lv_bipush (v := 46) hx hb dX8_undo_32 (by decide +kernel) ?_
    refine r_ald C Z (aM_8 g _ (f := (upd (u.2.1 7) 46 (((u.2.1 7) 46) - 1))) rfl) (by decide) (k := 46) (by decide) dX8_undo_34 (x := ((upd (u.2.1 7) 46 (((u.2.1 7) 46) - 1)) 46)) rfl ?_
    refine lv_imul hx hb dX8_undo_35 ?_
    refine lv_iadd hx hb dX8_undo_36 ?_
    refine lv_istore_n (lv' := [(1, .int (47 + (46 * ((upd (u.2.1 7) 46 (((u.2.1 7) 46) - 1)) 46)))), (0, .ref (g.2.2 0))]) hx hb dX8_undo_37 rfl hl (by decide) rfl (fun ls hl => ?_)
    refine lv_iconst (v := 0) hx hb dX8_undo_38 (by decide +kernel) ?_
    refine lv_istore_n (lv' := [(2, .int 0), (1, .int (47 + (46 * ((upd (u.2.1 7) 46 (((u.2.1 7) 46) - 1)) 46)))), (0, .ref (g.2.2 0))]) hx hb dX8_undo_39 rfl hl (by decide) rfl (fun ls hl => ?_)
    refine b_X8_undo_40 C (fun x2 u40 H locs ls Z hl hf => ?_) FU _ _ _ _ _ Z (lv_sub hl [2, 1, 0] rfl) hf
    refine lv_aload_n hx hb dX8_undo_66 rfl (lv_at hl 0 rfl) ?_
    refine gM_0_10 C Z (fl_of C mw_827) dX8_undo_67 ?_
    refine lv_bipush (v := 46) hx hb dX8_undo_70 (by decide +kernel) ?_
    refine r_ald C Z (aM_8 g _ (f := (u40.2.1 7)) rfl) (by decide) (k := 46) (by decide) dX8_undo_72 (x := ((u40.2.1 7) 46)) rfl ?_
    have hf := Option.some.inj hf
    subst hf
    exact ret_i C Z dX8_undo_73
  · rw [if_pos hc7] at hf
    refine lv_bipush (v := (-2)) hx hb dX8_undo_10 (by decide +kernel) ?_
    have hf := Option.some.inj hf
    subst hf
    exact ret_i C Z dX8_undo_12
def f_X1_allCocks (u : St) : Option (Int32) :=
  some ((1 <<< ((u.1 7) &&& 31)) - 1)
set_option maxHeartbeats 4000000 in
set_option maxRecDepth 100000 in
theorem c_X1_allCocks (l : Launch) {g : Gx} {u : St} {res : Int32} (hf : f_X1_allCocks u = some res) : CI wC 82 l yX1_allCocks (wsY yX1_allCocks cX1_allCocks 1 (some .int)) (rmX 0 0) g [.ref (g.2.2 24)] u res u := by
  refine CI_start (by decide +kernel) rfl (Nat.le_of_ble_eq_true rfl) (fun {p e s m args below meth c ls} C Z hl => ?_)
  have hl : lv_has ls 1 [(0, .ref (g.2.2 24))] := hl
  have hx := C.1
  have hb := C.2.1
  unfold f_X1_allCocks at hf
  refine lv_iconst (v := 1) hx hb dX1_allCocks_0 (by decide +kernel) ?_
  refine lv_aload_n hx hb dX1_allCocks_1 rfl (lv_at hl 0 rfl) ?_
  refine gC_24_4 C Z (fl_of C mw_169) dX1_allCocks_2 (x := (u.1 7)) rfl ?_
  refine lv_ishl hx hb dX1_allCocks_5 ?_
  refine lv_iconst (v := 1) hx hb dX1_allCocks_6 (by decide +kernel) ?_
  refine lv_isub hx hb dX1_allCocks_7 ?_
  have hf := Option.some.inj hf
  subst hf
  exact ret_i C Z dX1_allCocks_8
def L_X3_hoursToAsk_4 (k : Int32 → Int32 → Option (Int32)) (u : St) (x1 : Int32) : Nat → Int32 → Int32 → Option (Int32)
  | 0, _, _ => none
  | n + 1, x2, x3 =>
    if 5 ≤ x3 then
      k x2 x3
    else
      Option.bind (f_X7_isIn x3 x1) fun r11 =>
      if r11 = 0 then
        L_X3_hoursToAsk_4 k u x1 n x2 (x3 + 1)
      else
        Option.bind (f_X3_tellingOf u x3) fun r21 =>
        L_X3_hoursToAsk_4 k u x1 n (x2 + (1 + (r21 / 4))) (x3 + 1)
set_option maxHeartbeats 4000000 in
set_option maxRecDepth 100000 in
theorem b_X3_hoursToAsk_4 {p : Program} {l : Launch} {e : Env} {s : State} {m : MethodId} {args : Array Value} {below : List Frame} {meth : Method} {c : Code} {g : Gx} {u : St} {x1 : Int32} {res : Int32} {k : Int32 → Int32 → Option (Int32)} (C : Cx p s m meth c args cX3_hoursToAsk RX3 4 (some .int) 82 g)
    (hk : ∀ (x2 x3 : Int32) (H : Heap) (locs : List Loc) (ls : Array Slot), Zx wC g (Aw 82 g s.heap.size) s H locs u → lv_has ls 4 [(2, .int x2)] → k x2 x3 = some res → W p l e (rmX 2 43) s m args below meth c H locs 0 0 (QI wC 82 g res u below args s) (F0 m 35 ls [])) :
    ∀ (n : Nat) (x2 x3 : Int32) (H : Heap) (locs : List Loc) (ls : Array Slot), Zx wC g (Aw 82 g s.heap.size) s H locs u → lv_has ls 4 [(0, .ref (g.2.2 42)), (1, .int x1), (2, .int x2), (3, .int x3)] → L_X3_hoursToAsk_4 k u x1 n x2 x3 = some res → W p l e (rmX 2 43) s m args below meth c H locs 0 0 (QI wC 82 g res u below args s) (F0 m 4 ls []) := by
  have hx := C.1
  have hb := C.2.1
  intro n
  induction n with
  | zero =>
    intro x2 x3 H locs ls Z hl hf
    rw [L_X3_hoursToAsk_4.eq_1] at hf
    cases hf
  | succ n ih =>
    intro x2 x3 H locs ls Z hl hf
    rw [L_X3_hoursToAsk_4.eq_2] at hf
    refine lv_iload_n hx hb dX3_hoursToAsk_4 rfl (lv_at hl 3 rfl) ?_
    refine lv_iconst (v := 5) hx hb dX3_hoursToAsk_5 (by decide +kernel) ?_
    refine lv_icmp_ge (tgt := 35) hx hb dX3_hoursToAsk_6 (by decide) (fun hc6 => ?_) (fun hc6 => ?_)
    · rw [if_pos hc6] at hf
      exact hk _ _ H locs ls Z (lv_sub hl [2] rfl) hf
    · rw [if_neg hc6] at hf
      refine lv_iload_n hx hb dX3_hoursToAsk_9 rfl (lv_at hl 3 rfl) ?_
      refine lv_iload_n hx hb dX3_hoursToAsk_10 rfl (lv_at hl 1 rfl) ?_
      obtain ⟨r11, hr11, hf⟩ := Option.bind_eq_some_iff.mp hf
      refine call_si (As := [.int x3, .int x1]) (rest := []) C Z (c_X7_isIn l hr11) mf_X7_isIn (ml_nest C nw_28) rfl ⟨rfl, rfl, by decide, by decide⟩ rfl hl.1 (Nat.le_of_ble_eq_true rfl) dX3_hoursToAsk_11 (fun H locs Z => ?_)
      refine lv_if_eq (tgt := 29) hx hb dX3_hoursToAsk_14 (by decide) (fun hc14 => ?_) (fun hc14 => ?_)
      · rw [if_pos hc14] at hf
        refine lv_iinc (v := (x3 + 1)) (lv' := [(3, .int (x3 + 1)), (0, .ref (g.2.2 42)), (1, .int x1), (2, .int x2)]) hx hb dX3_hoursToAsk_29 hl (k := 3) rfl rfl (by decide) rfl (fun ls hl => ?_)
        refine lv_goto (tgt := 4) hx hb dX3_hoursToAsk_32 (by decide) ?_
        exact ih _ _ _ _ _ Z (lv_sub hl [1, 2, 3, 0] rfl) hf
      · rw [if_neg hc14] at hf
        refine lv_iload_n hx hb dX3_hoursToAsk_17 rfl (lv_at hl 2 rfl) ?_
        refine lv_iconst (v := 1) hx hb dX3_hoursToAsk_18 (by decide +kernel) ?_
        refine lv_aload_n hx hb dX3_hoursToAsk_19 rfl (lv_at hl 0 rfl) ?_
        refine lv_iload_n hx hb dX3_hoursToAsk_20 rfl (lv_at hl 3 rfl) ?_
        obtain ⟨r21, hr21, hf⟩ := Option.bind_eq_some_iff.mp hf
        refine call_vi (As := [.int x3]) (rest := [.int 1, .int x2]) C Z (c_X3_tellingOf l hr21) mf_X3_tellingOf (ml_of C mw_628) rfl (oC_42 g _) rfl ⟨rfl, rfl, by decide, by decide⟩ rfl hl.1 (Nat.le_of_ble_eq_true rfl) dX3_hoursToAsk_21 (fun H locs Z => ?_)
        refine lv_iconst (v := 4) hx hb dX3_hoursToAsk_24 (by decide +kernel) ?_
        refine lv_idiv hx hb dX3_hoursToAsk_25 (by decide) ?_
        refine lv_iadd hx hb dX3_hoursToAsk_26 ?_
        refine lv_iadd hx hb dX3_hoursToAsk_27 ?_
        refine lv_istore_n (lv' := [(2, .int (x2 + (1 + (r21 / 4)))), (0, .ref (g.2.2 42)), (1, .int x1), (3, .int x3)]) hx hb dX3_hoursToAsk_28 rfl hl (by decide) rfl (fun ls hl => ?_)
        refine lv_iinc (v := (x3 + 1)) (lv' := [(3, .int (x3 + 1)), (2, .int (x2 + (1 + (r21 / 4)))), (0, .ref (g.2.2 42)), (1, .int x1)]) hx hb dX3_hoursToAsk_29 hl (k := 3) rfl rfl (by decide) rfl (fun ls hl => ?_)
        refine lv_goto (tgt := 4) hx hb dX3_hoursToAsk_32 (by decide) ?_
        exact ih _ _ _ _ _ Z (lv_sub hl [2, 3, 1, 0] rfl) hf
def f_X3_hoursToAsk (u : St) (x1 : Int32) : Option (Int32) :=
  L_X3_hoursToAsk_4 (fun x2 x3 =>
    some x2) u x1 FU 0 0
set_option maxHeartbeats 4000000 in
set_option maxRecDepth 100000 in
theorem c_X3_hoursToAsk (l : Launch) {g : Gx} {u : St} {x1 : Int32} {res : Int32} (hf : f_X3_hoursToAsk u x1 = some res) : CI wC 82 l yX3_hoursToAsk (wsY yX3_hoursToAsk cX3_hoursToAsk 4 (some .int)) (rmX 2 43) g [.ref (g.2.2 42), .int x1] u res u := by
  refine CI_start (by decide +kernel) rfl (Nat.le_of_ble_eq_true rfl) (fun {p e s m args below meth c ls} C Z hl => ?_)
  have hl : lv_has ls 4 [(0, .ref (g.2.2 42)), (1, .int x1)] := hl
  have hx := C.1
  have hb := C.2.1
  unfold f_X3_hoursToAsk at hf
  refine lv_iconst (v := 0) hx hb dX3_hoursToAsk_0 (by decide +kernel) ?_
  refine lv_istore_n (lv' := [(2, .int 0), (0, .ref (g.2.2 42)), (1, .int x1)]) hx hb dX3_hoursToAsk_1 rfl hl (by decide) rfl (fun ls hl => ?_)
  refine lv_iconst (v := 0) hx hb dX3_hoursToAsk_2 (by decide +kernel) ?_
  refine lv_istore_n (lv' := [(3, .int 0), (2, .int 0), (0, .ref (g.2.2 42)), (1, .int x1)]) hx hb dX3_hoursToAsk_3 rfl hl (by decide) rfl (fun ls hl => ?_)
  refine b_X3_hoursToAsk_4 C (fun x2 x3 H locs ls Z hl hf => ?_) FU _ _ _ _ _ Z (lv_sub hl [2, 3, 1, 0] rfl) hf
  refine lv_iload_n hx hb dX3_hoursToAsk_35 rfl (lv_at hl 0 rfl) ?_
  have hf := Option.some.inj hf
  subst hf
  exact ret_i C Z dX3_hoursToAsk_36
