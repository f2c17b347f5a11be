def L_X8_hourGoes_19 (k : Int32 → St → Option (St)) (x1 x2 : Int32) : Nat → Int32 → St → Option (St)
  | 0, _, _ => none
  | n + 1, x3, u =>
    if (u.1 1) ≤ x3 then
      k x3 u
    else
      Option.bind (f_X8_walks u x3 x1) fun r30 =>
      if r30 = (-9) then
        if oob ((25 + (4 * x2)) + x3) 507 then none else
        L_X8_hourGoes_19 k x1 x2 n (x3 + 1) (sA u 7 (upd (u.2.1 7) (Int32.toNatClampNeg ((25 + (4 * x2)) + x3)) (((u.2.1 7) (Int32.toNatClampNeg ((25 + (4 * x2)) + x3))) ||| 0)))
      else
        Option.bind (f_X8_isAsked u x2) fun r44 =>
        if r44 = 0 then
          Option.bind (f_X8_sees u x2 r30 x1) fun r55 =>
          if r55 = 0 then
            if oob ((25 + (4 * x2)) + x3) 507 then none else
            L_X8_hourGoes_19 k x1 x2 n (x3 + 1) (sA u 7 (upd (u.2.1 7) (Int32.toNatClampNeg ((25 + (4 * x2)) + x3)) (((u.2.1 7) (Int32.toNatClampNeg ((25 + (4 * x2)) + x3))) ||| 0)))
          else
            Option.bind (f_X8_isSmoke u r30 x1) fun r65 =>
            if r65 = 0 then
              if oob ((25 + (4 * x2)) + x3) 507 then none else
              L_X8_hourGoes_19 k x1 x2 n (x3 + 1) (sA u 7 (upd (u.2.1 7) (Int32.toNatClampNeg ((25 + (4 * x2)) + x3)) (((u.2.1 7) (Int32.toNatClampNeg ((25 + (4 * x2)) + x3))) ||| (1 <<< (x1 &&& 31)))))
            else
              if oob ((25 + (4 * x2)) + x3) 507 then none else
              L_X8_hourGoes_19 k x1 x2 n (x3 + 1) (sA u 7 (upd (u.2.1 7) (Int32.toNatClampNeg ((25 + (4 * x2)) + x3)) (((u.2.1 7) (Int32.toNatClampNeg ((25 + (4 * x2)) + x3))) ||| 0)))
        else
          if oob ((25 + (4 * x2)) + x3) 507 then none else
          L_X8_hourGoes_19 k x1 x2 n (x3 + 1) (sA u 7 (upd (u.2.1 7) (Int32.toNatClampNeg ((25 + (4 * x2)) + x3)) (((u.2.1 7) (Int32.toNatClampNeg ((25 + (4 * x2)) + x3))) ||| 0)))
set_option maxHeartbeats 4000000 in
set_option maxRecDepth 100000 in
theorem b_X8_hourGoes_19 {p : Program} {l : Launch} {e : Env} {s : State} {m : MethodId} {args : Array Value} {below : List Frame} {meth : Method} {c : Code} {g : Gx} {x1 x2 : Int32} {res : St} {k : Int32 → St → Option (St)} (C : Cx p s m meth c args cX8_hourGoes RX8 6 (none) 22 g)
    (hk : ∀ (x3 : Int32) (u : St) (H : Heap) (locs : List Loc) (ls : Array Slot), Zx wM g (Aw 22 g s.heap.size) s H locs u → lv_has ls 6 [(0, .ref (g.2.2 0)), (1, .int x1), (2, .int x2)] → k x3 u = some res → W p l e (rmX 3 72) s m args below meth c H locs 0 0 (QV wM 22 g res below args s) (F0 m 112 ls [])) :
    ∀ (n : Nat) (x3 : Int32) (u : St) (H : Heap) (locs : List Loc) (ls : Array Slot), Zx wM g (Aw 22 g s.heap.size) s H locs u → lv_has ls 6 [(0, .ref (g.2.2 0)), (1, .int x1), (2, .int x2), (3, .int x3)] → L_X8_hourGoes_19 k x1 x2 n x3 u = some res → W p l e (rmX 3 72) s m args below meth c H locs 0 0 (QV wM 22 g res below args s) (F0 m 19 ls []) := by
  have hx := C.1
  have hb := C.2.1
  intro n
  induction n with
  | zero =>
    intro x3 u H locs ls Z hl hf
    rw [L_X8_hourGoes_19.eq_1] at hf
    cases hf
  | succ n ih =>
    intro x3 u H locs ls Z hl hf
    rw [L_X8_hourGoes_19.eq_2] at hf
    refine lv_iload_n hx hb dX8_hourGoes_19 rfl (lv_at hl 3 rfl) ?_
    refine lv_aload_n hx hb dX8_hourGoes_20 rfl (lv_at hl 0 rfl) ?_
    refine gM_0_5 C Z (fl_of C mw_822) dX8_hourGoes_21 (x := (u.1 1)) rfl ?_
    refine lv_icmp_ge (tgt := 112) hx hb dX8_hourGoes_24 (by decide) (fun hc24 => ?_) (fun hc24 => ?_)
    · rw [if_pos hc24] at hf
      exact hk _ _ H locs ls Z (lv_sub hl [0, 1, 2] rfl) hf
    · rw [if_neg hc24] at hf
      refine lv_aload_n hx hb dX8_hourGoes_27 rfl (lv_at hl 0 rfl) ?_
      refine lv_iload_n hx hb dX8_hourGoes_28 rfl (lv_at hl 3 rfl) ?_
      refine lv_iload_n hx hb dX8_hourGoes_29 rfl (lv_at hl 1 rfl) ?_
      obtain ⟨r30, hr30, hf⟩ := Option.bind_eq_some_iff.mp hf
      refine call_vi (As := [.int x3, .int x1]) (rest := []) C Z (c_X8_walks l hr30) mf_X8_walks (ml_of C mw_1044) rfl (oM_0 g _) rfl ⟨rfl, rfl, by decide, by decide⟩ rfl hl.1 (Nat.le_of_ble_eq_true rfl) dX8_hourGoes_30 (fun H locs Z => ?_)
      refine lv_istore (lv' := [(4, .int r30), (0, .ref (g.2.2 0)), (1, .int x1), (2, .int x2), (3, .int x3)]) hx hb dX8_hourGoes_33 hl (by decide) rfl (fun ls hl => ?_)
      refine lv_iload hx hb dX8_hourGoes_35 (lv_at hl 0 rfl) ?_
      refine lv_bipush (v := (-9)) hx hb dX8_hourGoes_37 (by decide +kernel) ?_
      refine lv_icmp_eq (tgt := 75) hx hb dX8_hourGoes_39 (by decide) (fun hc39 => ?_) (fun hc39 => ?_)
      · rw [if_pos hc39] at hf
        refine lv_iconst (v := 0) hx hb dX8_hourGoes_75 (by decide +kernel) ?_
        refine lv_istore (lv' := [(5, .int 0), (4, .int r30), (0, .ref (g.2.2 0)), (1, .int x1), (2, .int x2), (3, .int x3)]) hx hb dX8_hourGoes_76 hl (by decide) rfl (fun ls hl => ?_)
        refine lv_aload_n hx hb dX8_hourGoes_78 rfl (lv_at hl 2 rfl) ?_
        refine gM_0_10 C Z (fl_of C mw_827) dX8_hourGoes_79 ?_
        refine lv_bipush (v := 25) hx hb dX8_hourGoes_82 (by decide +kernel) ?_
        refine lv_iconst (v := 4) hx hb dX8_hourGoes_84 (by decide +kernel) ?_
        refine lv_iload_n hx hb dX8_hourGoes_85 rfl (lv_at hl 4 rfl) ?_
        refine lv_imul hx hb dX8_hourGoes_86 ?_
        refine lv_iadd hx hb dX8_hourGoes_87 ?_
        refine lv_iload_n hx hb dX8_hourGoes_88 rfl (lv_at hl 5 rfl) ?_
        refine lv_iadd hx hb dX8_hourGoes_89 ?_
        refine lv_dup2_11 hx hb dX8_hourGoes_90 rfl rfl ?_
        by_cases ho91 : oob ((25 + (4 * x2)) + x3) 507 = true
        · rw [if_pos ho91] at hf; cases hf
        rw [if_neg ho91] at hf
        refine r_ald C Z (aM_8 g _ (f := (u.2.1 7)) rfl) ho91 rfl dX8_hourGoes_91 (x := ((u.2.1 7) (Int32.toNatClampNeg ((25 + (4 * x2)) + x3)))) rfl ?_
        refine lv_iload hx hb dX8_hourGoes_92 (lv_at hl 0 rfl) ?_
        refine lv_if_eq (tgt := 103) hx hb dX8_hourGoes_94 (by decide) (fun _ => ?_) (fun hq => absurd (by decide) hq)
        refine lv_iconst (v := 0) hx hb dX8_hourGoes_103 (by decide +kernel) ?_
        refine lv_ior hx hb dX8_hourGoes_104 ?_
        refine r_ast C wokM Z (aM_8 g _ (f := (u.2.1 7)) rfl) ho91 rfl (sM_8 g _ _) dX8_hourGoes_105 (fun H locs Z => ?_)
        refine lv_iinc (v := (x3 + 1)) (lv' := [(3, .int (x3 + 1)), (5, .int 0), (4, .int r30), (0, .ref (g.2.2 0)), (1, .int x1), (2, .int x2)]) hx hb dX8_hourGoes_106 hl (k := 5) rfl rfl (by decide) rfl (fun ls hl => ?_)
        refine lv_goto (tgt := 19) hx hb dX8_hourGoes_109 (by decide) ?_
        exact ih _ _ _ _ _ Z (lv_sub hl [3, 4, 5, 0] rfl) hf
      · rw [if_neg hc39] at hf
        refine lv_aload_n hx hb dX8_hourGoes_42 rfl (lv_at hl 1 rfl) ?_
        refine lv_iload_n hx hb dX8_hourGoes_43 rfl (lv_at hl 3 rfl) ?_
        obtain ⟨r44, hr44, hf⟩ := Option.bind_eq_some_iff.mp hf
        refine call_vi (As := [.int x2]) (rest := []) C Z (c_X8_isAsked l hr44) mf_X8_isAsked (ml_of C mw_1017) rfl (oM_0 g _) rfl ⟨rfl, rfl, by decide, by decide⟩ rfl hl.1 (Nat.le_of_ble_eq_true rfl) dX8_hourGoes_44 (fun H locs Z => ?_)
        refine lv_if_ne (tgt := 75) hx hb dX8_hourGoes_47 (by decide) (fun hc47 => ?_) (fun hc47 => ?_)
        · rw [if_neg hc47] at hf
          refine lv_iconst (v := 0) hx hb dX8_hourGoes_75 (by decide +kernel) ?_
          refine lv_istore (lv' := [(5, .int 0), (4, .int r30), (0, .ref (g.2.2 0)), (1, .int x1), (2, .int x2), (3, .int x3)]) hx hb dX8_hourGoes_76 hl (by decide) rfl (fun ls hl => ?_)
          refine lv_aload_n hx hb dX8_hourGoes_78 rfl (lv_at hl 2 rfl) ?_
          refine gM_0_10 C Z (fl_of C mw_827) dX8_hourGoes_79 ?_
          refine lv_bipush (v := 25) hx hb dX8_hourGoes_82 (by decide +kernel) ?_
          refine lv_iconst (v := 4) hx hb dX8_hourGoes_84 (by decide +kernel) ?_
          refine lv_iload_n hx hb dX8_hourGoes_85 rfl (lv_at hl 4 rfl) ?_
          refine lv_imul hx hb dX8_hourGoes_86 ?_
          refine lv_iadd hx hb dX8_hourGoes_87 ?_
          refine lv_iload_n hx hb dX8_hourGoes_88 rfl (lv_at hl 5 rfl) ?_
          refine lv_iadd hx hb dX8_hourGoes_89 ?_
          refine lv_dup2_11 hx hb dX8_hourGoes_90 rfl rfl ?_
          by_cases ho91 : oob ((25 + (4 * x2)) + x3) 507 = true
          · rw [if_pos ho91] at hf; cases hf
          rw [if_neg ho91] at hf
          refine r_ald C Z (aM_8 g _ (f := (u.2.1 7)) rfl) ho91 rfl dX8_hourGoes_91 (x := ((u.2.1 7) (Int32.toNatClampNeg ((25 + (4 * x2)) + x3)))) rfl ?_
          refine lv_iload hx hb dX8_hourGoes_92 (lv_at hl 0 rfl) ?_
          refine lv_if_eq (tgt := 103) hx hb dX8_hourGoes_94 (by decide) (fun _ => ?_) (fun hq => absurd (by decide) hq)
          refine lv_iconst (v := 0) hx hb dX8_hourGoes_103 (by decide +kernel) ?_
          refine lv_ior hx hb dX8_hourGoes_104 ?_
          refine r_ast C wokM Z (aM_8 g _ (f := (u.2.1 7)) rfl) ho91 rfl (sM_8 g _ _) dX8_hourGoes_105 (fun H locs Z => ?_)
          refine lv_iinc (v := (x3 + 1)) (lv' := [(3, .int (x3 + 1)), (5, .int 0), (4, .int r30), (0, .ref (g.2.2 0)), (1, .int x1), (2, .int x2)]) hx hb dX8_hourGoes_106 hl (k := 5) rfl rfl (by decide) rfl (fun ls hl => ?_)
          refine lv_goto (tgt := 19) hx hb dX8_hourGoes_109 (by decide) ?_
          exact ih _ _ _ _ _ Z (lv_sub hl [3, 4, 5, 0] rfl) hf
        · rw [if_pos hc47] at hf
          refine lv_aload_n hx hb dX8_hourGoes_50 rfl (lv_at hl 1 rfl) ?_
          refine lv_iload_n hx hb dX8_hourGoes_51 rfl (lv_at hl 3 rfl) ?_
          refine lv_iload hx hb dX8_hourGoes_52 (lv_at hl 0 rfl) ?_
          refine lv_iload_n hx hb dX8_hourGoes_54 rfl (lv_at hl 2 rfl) ?_
          obtain ⟨r55, hr55, hf⟩ := Option.bind_eq_some_iff.mp hf
          refine call_vi (As := [.int x2, .int r30, .int x1]) (rest := []) C Z (c_X8_sees l hr55) mf_X8_sees (ml_of C mw_1068) rfl (oM_0 g _) rfl ⟨rfl, rfl, by decide, by decide⟩ rfl hl.1 (Nat.le_of_ble_eq_true rfl) dX8_hourGoes_55 (fun H locs Z => ?_)
          refine lv_if_eq (tgt := 75) hx hb dX8_hourGoes_58 (by decide) (fun hc58 => ?_) (fun hc58 => ?_)
          · rw [if_pos hc58] at hf
            refine lv_iconst (v := 0) hx hb dX8_hourGoes_75 (by decide +kernel) ?_
            refine lv_istore (lv' := [(5, .int 0), (4, .int r30), (0, .ref (g.2.2 0)), (1, .int x1), (2, .int x2), (3, .int x3)]) hx hb dX8_hourGoes_76 hl (by decide) rfl (fun ls hl => ?_)
            refine lv_aload_n hx hb dX8_hourGoes_78 rfl (lv_at hl 2 rfl) ?_
            refine gM_0_10 C Z (fl_of C mw_827) dX8_hourGoes_79 ?_
            refine lv_bipush (v := 25) hx hb dX8_hourGoes_82 (by decide +kernel) ?_
            refine lv_iconst (v := 4) hx hb dX8_hourGoes_84 (by decide +kernel) ?_
            refine lv_iload_n hx hb dX8_hourGoes_85 rfl (lv_at hl 4 rfl) ?_
            refine lv_imul hx hb dX8_hourGoes_86 ?_
            refine lv_iadd hx hb dX8_hourGoes_87 ?_
            refine lv_iload_n hx hb dX8_hourGoes_88 rfl (lv_at hl 5 rfl) ?_
            refine lv_iadd hx hb dX8_hourGoes_89 ?_
            refine lv_dup2_11 hx hb dX8_hourGoes_90 rfl rfl ?_
            by_cases ho91 : oob ((25 + (4 * x2)) + x3) 507 = true
            · rw [if_pos ho91] at hf; cases hf
            rw [if_neg ho91] at hf
            refine r_ald C Z (aM_8 g _ (f := (u.2.1 7)) rfl) ho91 rfl dX8_hourGoes_91 (x := ((u.2.1 7) (Int32.toNatClampNeg ((25 + (4 * x2)) + x3)))) rfl ?_
            refine lv_iload hx hb dX8_hourGoes_92 (lv_at hl 0 rfl) ?_
            refine lv_if_eq (tgt := 103) hx hb dX8_hourGoes_94 (by decide) (fun _ => ?_) (fun hq => absurd (by decide) hq)
            refine lv_iconst (v := 0) hx hb dX8_hourGoes_103 (by decide +kernel) ?_
            refine lv_ior hx hb dX8_hourGoes_104 ?_
            refine r_ast C wokM Z (aM_8 g _ (f := (u.2.1 7)) rfl) ho91 rfl (sM_8 g _ _) dX8_hourGoes_105 (fun H locs Z => ?_)
            refine lv_iinc (v := (x3 + 1)) (lv' := [(3, .int (x3 + 1)), (5, .int 0), (4, .int r30), (0, .ref (g.2.2 0)), (1, .int x1), (2, .int x2)]) hx hb dX8_hourGoes_106 hl (k := 5) rfl rfl (by decide) rfl (fun ls hl => ?_)
            refine lv_goto (tgt := 19) hx hb dX8_hourGoes_109 (by decide) ?_
            exact ih _ _ _ _ _ Z (lv_sub hl [3, 4, 5, 0] rfl) hf
          · rw [if_neg hc58] at hf
            refine lv_aload_n hx hb dX8_hourGoes_61 rfl (lv_at hl 1 rfl) ?_
            refine lv_iload hx hb dX8_hourGoes_62 (lv_at hl 0 rfl) ?_
            refine lv_iload_n hx hb dX8_hourGoes_64 rfl (lv_at hl 2 rfl) ?_
            obtain ⟨r65, hr65, hf⟩ := Option.bind_eq_some_iff.mp hf
            refine call_vi (As := [.int r30, .int x1]) (rest := []) C Z (c_X8_isSmoke l hr65) mf_X8_isSmoke (ml_of C mw_1076) rfl (oM_0 g _) rfl ⟨rfl, rfl, by decide, by decide⟩ rfl hl.1 (Nat.le_of_ble_eq_true rfl) dX8_hourGoes_65 (fun H locs Z => ?_)
            refine lv_if_ne (tgt := 75) hx hb dX8_hourGoes_68 (by decide) (fun hc68 => ?_) (fun hc68 => ?_)
            · rw [if_neg hc68] at hf
              refine lv_iconst (v := 0) hx hb dX8_hourGoes_75 (by decide +kernel) ?_
              refine lv_istore (lv' := [(5, .int 0), (4, .int r30), (0, .ref (g.2.2 0)), (1, .int x1), (2, .int x2), (3, .int x3)]) hx hb dX8_hourGoes_76 hl (by decide) rfl (fun ls hl => ?_)
              refine lv_aload_n hx hb dX8_hourGoes_78 rfl (lv_at hl 2 rfl) ?_
              refine gM_0_10 C Z (fl_of C mw_827) dX8_hourGoes_79 ?_
              refine lv_bipush (v := 25) hx hb dX8_hourGoes_82 (by decide +kernel) ?_
              refine lv_iconst (v := 4) hx hb dX8_hourGoes_84 (by decide +kernel) ?_
              refine lv_iload_n hx hb dX8_hourGoes_85 rfl (lv_at hl 4 rfl) ?_
              refine lv_imul hx hb dX8_hourGoes_86 ?_
              refine lv_iadd hx hb dX8_hourGoes_87 ?_
              refine lv_iload_n hx hb dX8_hourGoes_88 rfl (lv_at hl 5 rfl) ?_
              refine lv_iadd hx hb dX8_hourGoes_89 ?_
              refine lv_dup2_11 hx hb dX8_hourGoes_90 rfl rfl ?_
              by_cases ho91 : oob ((25 + (4 * x2)) + x3) 507 = true
              · rw [if_pos ho91] at hf; cases hf
              rw [if_neg ho91] at hf
              refine r_ald C Z (aM_8 g _ (f := (u.2.1 7)) rfl) ho91 rfl dX8_hourGoes_91 (x := ((u.2.1 7) (Int32.toNatClampNeg ((25 + (4 * x2)) + x3)))) rfl ?_
              refine lv_iload hx hb dX8_hourGoes_92 (lv_at hl 0 rfl) ?_
              refine lv_if_eq (tgt := 103) hx hb dX8_hourGoes_94 (by decide) (fun _ => ?_) (fun hq => absurd (by decide) hq)
              refine lv_iconst (v := 0) hx hb dX8_hourGoes_103 (by decide +kernel) ?_
              refine lv_ior hx hb dX8_hourGoes_104 ?_
              refine r_ast C wokM Z (aM_8 g _ (f := (u.2.1 7)) rfl) ho91 rfl (sM_8 g _ _) dX8_hourGoes_105 (fun H locs Z => ?_)
              refine lv_iinc (v := (x3 + 1)) (lv' := [(3, .int (x3 + 1)), (5, .int 0), (4, .int r30), (0, .ref (g.2.2 0)), (1, .int x1), (2, .int x2)]) hx hb dX8_hourGoes_106 hl (k := 5) rfl rfl (by decide) rfl (fun ls hl => ?_)
              refine lv_goto (tgt := 19) hx hb dX8_hourGoes_109 (by decide) ?_
              exact ih _ _ _ _ _ Z (lv_sub hl [3, 4, 5, 0] rfl) hf
            · rw [if_pos hc68] at hf
              refine lv_iconst (v := 1) hx hb dX8_hourGoes_71 (by decide +kernel) ?_
              refine lv_goto (tgt := 76) hx hb dX8_hourGoes_72 (by decide) ?_
              refine lv_istore (lv' := [(5, .int 1), (4, .int r30), (0, .ref (g.2.2 0)), (1, .int x1), (2, .int x2), (3, .int x3)]) hx hb dX8_hourGoes_76 hl (by decide) rfl (fun ls hl => ?_)
              refine lv_aload_n hx hb dX8_hourGoes_78 rfl (lv_at hl 2 rfl) ?_
              refine gM_0_10 C Z (fl_of C mw_827) dX8_hourGoes_79 ?_
              refine lv_bipush (v := 25) hx hb dX8_hourGoes_82 (by decide +kernel) ?_
              refine lv_iconst (v := 4) hx hb dX8_hourGoes_84 (by decide +kernel) ?_
              refine lv_iload_n hx hb dX8_hourGoes_85 rfl (lv_at hl 4 rfl) ?_
              refine lv_imul hx hb dX8_hourGoes_86 ?_
              refine lv_iadd hx hb dX8_hourGoes_87 ?_
              refine lv_iload_n hx hb dX8_hourGoes_88 rfl (lv_at hl 5 rfl) ?_
              refine lv_iadd hx hb dX8_hourGoes_89 ?_
              refine lv_dup2_11 hx hb dX8_hourGoes_90 rfl rfl ?_
              by_cases ho91 : oob ((25 + (4 * x2)) + x3) 507 = true
              · rw [if_pos ho91] at hf; cases hf
              rw [if_neg ho91] at hf
              refine r_ald C Z (aM_8 g _ (f := (u.2.1 7)) rfl) ho91 rfl dX8_hourGoes_91 (x := ((u.2.1 7) (Int32.toNatClampNeg ((25 + (4 * x2)) + x3)))) rfl ?_
              refine lv_iload hx hb dX8_hourGoes_92 (lv_at hl 0 rfl) ?_
              refine lv_if_eq (tgt := 103) hx hb dX8_hourGoes_94 (by decide) (fun hq => absurd hq (by decide)) (fun _ => ?_)
              refine lv_iconst (v := 1) hx hb dX8_hourGoes_97 (by decide +kernel) ?_
              refine lv_iload_n hx hb dX8_hourGoes_98 rfl (lv_at hl 3 rfl) ?_
              refine lv_ishl hx hb dX8_hourGoes_99 ?_
              refine lv_goto (tgt := 104) hx hb dX8_hourGoes_100 (by decide) ?_
              refine lv_ior hx hb dX8_hourGoes_104 ?_
              refine r_ast C wokM Z (aM_8 g _ (f := (u.2.1 7)) rfl) ho91 rfl (sM_8 g _ _) dX8_hourGoes_105 (fun H locs Z => ?_)
              refine lv_iinc (v := (x3 + 1)) (lv' := [(3, .int (x3 + 1)), (5, .int 1), (4, .int r30), (0, .ref (g.2.2 0)), (1, .int x1), (2, .int x2)]) hx hb dX8_hourGoes_106 hl (k := 5) rfl rfl (by decide) rfl (fun ls hl => ?_)
              refine lv_goto (tgt := 19) hx hb dX8_hourGoes_109 (by decide) ?_
              exact ih _ _ _ _ _ Z (lv_sub hl [3, 4, 5, 0] rfl) hf
def L_X8_hourGoes_9 (k : Int32 → St → Option (St)) (x1 : Int32) : Nat → Int32 → St → Option (St)
  | 0, _, _ => none
  | n + 1, x2, u =>
    if (u.1 0) ≤ x2 then
      k x2 u
    else
      L_X8_hourGoes_19 (fun x3 u19 =>
        L_X8_hourGoes_9 k x1 n (x2 + 1) u19) x1 x2 FU 0 u
set_option maxHeartbeats 4000000 in
set_option maxRecDepth 100000 in
theorem b_X8_hourGoes_9 {p : Program} {l : Launch} {e : Env} {s : State} {m : MethodId} {args : Array Value} {below : List Frame} {meth : Method} {c : Code} {g : Gx} {x1 : Int32} {res : St} {k : Int32 → St → Option (St)} (C : Cx p s m meth c args cX8_hourGoes RX8 6 (none) 22 g)
    (hk : ∀ (x2 : Int32) (u : St) (H : Heap) (locs : List Loc) (ls : Array Slot), Zx wM g (Aw 22 g s.heap.size) s H locs u → lv_has ls 6 [(0, .ref (g.2.2 0))] → k x2 u = some res → W p l e (rmX 3 72) s m args below meth c H locs 0 0 (QV wM 22 g res below args s) (F0 m 118 ls [])) :
    ∀ (n : Nat) (x2 : Int32) (u : St) (H : Heap) (locs : List Loc) (ls : Array Slot), Zx wM g (Aw 22 g s.heap.size) s H locs u → lv_has ls 6 [(0, .ref (g.2.2 0)), (1, .int x1), (2, .int x2)] → L_X8_hourGoes_9 k x1 n x2 u = some res → W p l e (rmX 3 72) s m args below meth c H locs 0 0 (QV wM 22 g res below args s) (F0 m 9 ls []) := by
  have hx := C.1
  have hb := C.2.1
  intro n
  induction n with
  | zero =>
    intro x2 u H locs ls Z hl hf
    rw [L_X8_hourGoes_9.eq_1] at hf
    cases hf
  | succ n ih =>
    intro x2 u H locs ls Z hl hf
    rw [L_X8_hourGoes_9.eq_2] at hf
    refine lv_iload_n hx hb dX8_hourGoes_9 rfl (lv_at hl 2 rfl) ?_
    refine lv_aload_n hx hb dX8_hourGoes_10 rfl (lv_at hl 0 rfl) ?_
    refine gM_0_0 C Z (fl_of C mw_817) dX8_hourGoes_11 (x := (u.1 0)) rfl ?_
    refine lv_icmp_ge (tgt := 118) hx hb dX8_hourGoes_14 (by decide) (fun hc14 => ?_) (fun hc14 => ?_)
    · rw [if_pos hc14] at hf
      exact hk _ _ H locs ls Z (lv_sub hl [0] rfl) hf
    · rw [if_neg hc14] at hf
      refine lv_iconst (v := 0) hx hb dX8_hourGoes_17 (by decide +kernel) ?_
      refine lv_istore_n (lv' := [(3, .int 0), (0, .ref (g.2.2 0)), (1, .int x1), (2, .int x2)]) hx hb dX8_hourGoes_18 rfl hl (by decide) rfl (fun ls hl => ?_)
      refine b_X8_hourGoes_19 C (fun x3 u19 H locs ls Z hl hf => ?_) FU _ _ _ _ _ Z (lv_sub hl [1, 2, 3, 0] rfl) hf
      refine lv_iinc (v := (x2 + 1)) (lv' := [(2, .int (x2 + 1)), (0, .ref (g.2.2 0)), (1, .int x1)]) hx hb dX8_hourGoes_112 hl (k := 2) rfl rfl (by decide) rfl (fun ls hl => ?_)
      refine lv_goto (tgt := 9) hx hb dX8_hourGoes_115 (by decide) ?_
      exact ih _ _ _ _ _ Z (lv_sub hl [1, 2, 0] rfl) hf
def f_X8_hourGoes (u : St) : Option (St) :=
  L_X8_hourGoes_9 (fun x2 u9 =>
    some (sA u9 7 (upd (u9.2.1 7) 0 (((u9.2.1 7) 0) + 1)))) ((u.2.1 7) 0) FU 0 u
set_option maxHeartbeats 4000000 in
set_option maxRecDepth 100000 in
theorem c_X8_hourGoes (l : Launch) {g : Gx} {u : St} {res : St} (hf : f_X8_hourGoes u = some res) : CV wM 22 l yX8_hourGoes (wsY yX8_hourGoes cX8_hourGoes 6 (none)) (rmX 3 72) g [.ref (g.2.2 0)] u res := by
  refine CV_start (by decide +kernel) rfl (Nat.le_of_ble_eq_true rfl) (fun {p e s m args below meth c ls} C Z hl => ?_)
  have hl : lv_has ls 6 [(0, .ref (g.2.2 0))] := hl
  have hx := C.1
  have hb := C.2.1
  unfold f_X8_hourGoes at hf
  refine lv_aload_n hx hb dX8_hourGoes_0 rfl (lv_at hl 0 rfl) ?_
  refine gM_0_10 C Z (fl_of C mw_827) dX8_hourGoes_1 ?_
  refine lv_iconst (v := 0) hx hb dX8_hourGoes_4 (by decide +kernel) ?_
  refine r_ald C Z (aM_8 g _ (f := (u.2.1 7)) rfl) (by decide) (k := 0) (by decide) dX8_hourGoes_5 (x := ((u.2.1 7) 0)) rfl ?_
  refine lv_istore_n (lv' := [(1, .int ((u.2.1 7) 0)), (0, .ref (g.2.2 0))]) hx hb dX8_hourGoes_6 rfl hl (by decide) rfl (fun ls hl => ?_)
  refine lv_iconst (v := 0) hx hb dX8_hourGoes_7 (by decide +kernel) ?_
  refine lv_istore_n (lv' := [(2, .int 0), (1, .int ((u.2.1 7) 0)), (0, .ref (g.2.2 0))]) hx hb dX8_hourGoes_8 rfl hl (by decide) rfl (fun ls hl => ?_)
  refine b_X8_hourGoes_9 C (fun x2 u9 H locs ls Z hl hf => ?_) FU _ _ _ _ _ Z (lv_sub hl [2, 1, 0] rfl) hf
  refine lv_aload_n hx hb dX8_hourGoes_118 rfl (lv_at hl 0 rfl) ?_
  refine gM_0_10 C Z (fl_of C mw_827) dX8_hourGoes_119 ?_
  refine lv_iconst (v := 0) hx hb dX8_hourGoes_122 (by decide +kernel) ?_
  refine lv_dup2_11 hx hb dX8_hourGoes_123 rfl rfl ?_
  refine r_ald C Z (aM_8 g _ (f := (u9.2.1 7)) rfl) (by decide) (k := 0) (by decide) dX8_hourGoes_124 (x := ((u9.2.1 7) 0)) rfl ?_
  refine lv_iconst (v := 1) hx hb dX8_hourGoes_125 (by decide +kernel) ?_
  refine lv_iadd hx hb dX8_hourGoes_126 ?_
  refine r_ast C wokM Z (aM_8 g _ (f := (u9.2.1 7)) rfl) (by decide) (k := 0) (by decide) (sM_8 g _ _) dX8_hourGoes_127 (fun H locs Z => ?_)
  have hf := Option.some.inj hf
  subst hf
  exact ret_v C Z dX8_hourGoes_128
def L_X8_hours_32 (k : Int32 → St → Option (Int32 × St)) (x1 : Int32) : Nat → Int32 → St → Option (Int32 × St)
  | 0, _, _ => none
  | n + 1, x2, u =>
    if x1 ≤ x2 then
      k x2 u
    else
      if 30 ≤ ((u.2.1 7) 0) then
        k x2 u
      else
        Option.bind (f_X8_hourGoes u) fun r49 =>
        L_X8_hours_32 k x1 n (x2 + 1) r49
set_option maxHeartbeats 4000000 in
set_option maxRecDepth 100000 in
theorem b_X8_hours_32 {p : Program} {l : Launch} {e : Env} {s : State} {m : MethodId} {args : Array Value} {below : List Frame} {meth : Method} {c : Code} {g : Gx} {x1 : Int32} {res : Int32 × St} {k : Int32 → St → Option (Int32 × St)} (C : Cx p s m meth c args cX8_hours RX8 3 (some .int) 22 g)
    (hk : ∀ (x2 : Int32) (u : St) (H : Heap) (locs : List Loc) (ls : Array Slot), Zx wM g (Aw 22 g s.heap.size) s H locs u → lv_has ls 3 [(0, .ref (g.2.2 0))] → k x2 u = some res → W p l e (rmX 4 97) s m args below meth c H locs 0 0 (QI wM 22 g res.1 res.2 below args s) (F0 m 58 ls [])) :
    ∀ (n : Nat) (x2 : Int32) (u : St) (H : Heap) (locs : List Loc) (ls : Array Slot), Zx wM g (Aw 22 g s.heap.size) s H locs u → lv_has ls 3 [(0, .ref (g.2.2 0)), (1, .int x1), (2, .int x2)] → L_X8_hours_32 k x1 n x2 u = some res → W p l e (rmX 4 97) s m args below meth c H locs 0 0 (QI wM 22 g res.1 res.2 below args s) (F0 m 32 ls []) := by
  have hx := C.1
  have hb := C.2.1
  intro n
  induction n with
  | zero =>
    intro x2 u H locs ls Z hl hf
    rw [L_X8_hours_32.eq_1] at hf
    cases hf
  | succ n ih =>
    intro x2 u H locs ls Z hl hf
    rw [L_X8_hours_32.eq_2] at hf
    refine lv_iload_n hx hb dX8_hours_32 rfl (lv_at hl 2 rfl) ?_
    refine lv_iload_n hx hb dX8_hours_33 rfl (lv_at hl 1 rfl) ?_
    refine lv_icmp_ge (tgt := 58) hx hb dX8_hours_34 (by decide) (fun hc34 => ?_) (fun hc34 => ?_)
    · rw [if_pos hc34] at hf
      exact hk _ _ H locs ls Z (lv_sub hl [0] rfl) hf
    · rw [if_neg hc34] at hf
      refine lv_aload_n hx hb dX8_hours_37 rfl (lv_at hl 0 rfl) ?_
      refine gM_0_10 C Z (fl_of C mw_827) dX8_hours_38 ?_
      refine lv_iconst (v := 0) hx hb dX8_hours_41 (by decide +kernel) ?_
      refine r_ald C Z (aM_8 g _ (f := (u.2.1 7)) rfl) (by decide) (k := 0) (by decide) dX8_hours_42 (x := ((u.2.1 7) 0)) rfl ?_
      refine lv_bipush (v := 30) hx hb dX8_hours_43 (by decide +kernel) ?_
      refine lv_icmp_ge (tgt := 58) hx hb dX8_hours_45 (by decide) (fun hc45 => ?_) (fun hc45 => ?_)
      · rw [if_pos hc45] at hf
        exact hk _ _ H locs ls Z (lv_sub hl [0] rfl) hf
      · rw [if_neg hc45] at hf
        refine lv_aload_n hx hb dX8_hours_48 rfl (lv_at hl 0 rfl) ?_
        obtain ⟨r49, hr49, hf⟩ := Option.bind_eq_some_iff.mp hf
        refine call_vv (As := []) (rest := []) C Z (c_X8_hourGoes l hr49) mf_X8_hourGoes (ml_of C mw_1064) rfl (oM_0 g _) rfl ⟨rfl, rfl, by decide, by decide⟩ rfl hl.1 (Nat.le_of_ble_eq_true rfl) dX8_hours_49 (fun H locs Z => ?_)
        refine lv_iinc (v := (x2 + 1)) (lv' := [(2, .int (x2 + 1)), (0, .ref (g.2.2 0)), (1, .int x1)]) hx hb dX8_hours_52 hl (k := 2) rfl rfl (by decide) rfl (fun ls hl => ?_)
        refine lv_goto (tgt := 32) hx hb dX8_hours_55 (by decide) ?_
        exact ih _ _ _ _ _ Z (lv_sub hl [1, 2, 0] rfl) hf
def f_X8_hours (u : St) (x1 : Int32) : Option (Int32 × St) :=
  Option.bind (f_X8_in x1 1 9) fun r4 =>
  if r4 = 0 then
    some ((-1), u)
  else
    if ((u.2.1 7) 0) = 30 then
      some ((-2), u)
    else
      Option.bind (f_X8_remembers u) fun r27 =>
      L_X8_hours_32 (fun x2 u32 =>
        some (((u32.2.1 7) 0), u32)) x1 FU 0 r27
set_option maxHeartbeats 4000000 in
set_option maxRecDepth 100000 in
theorem c_X8_hours (l : Launch) {g : Gx} {u : St} {x1 : Int32} {res : Int32 × St} (hf : f_X8_hours u x1 = some res) : CI wM 22 l yX8_hours (wsY yX8_hours cX8_hours 3 (some .int)) (rmX 4 97) g [.ref (g.2.2 0), .int x1] u res.1 res.2 := by
  refine CI_start (by decide +kernel) rfl (Nat.le_of_ble_eq_true rfl) (fun {p e s m args below meth c ls} C Z hl => ?_)
  have hl : lv_has ls 3 [(0, .ref (g.2.2 0)), (1, .int x1)] := hl
  have hx := C.1
  have hb := C.2.1
  unfold f_X8_hours at hf
  refine lv_iload_n hx hb dX8_hours_0 rfl (lv_at hl 1 rfl) ?_
  refine lv_iconst (v := 1) hx hb dX8_hours_1 (by decide +kernel) ?_
  refine lv_bipush (v := 9) hx hb dX8_hours_2 (by decide +kernel) ?_
  obtain ⟨r4, hr4, hf⟩ := Option.bind_eq_some_iff.mp hf
  refine call_si (As := [.int x1, .int 1, .int 9]) (rest := []) C Z (c_X8_in l hr4) mf_X8_in (ml_of C mw_934) rfl ⟨rfl, rfl, by decide, by decide⟩ rfl hl.1 (Nat.le_of_ble_eq_true rfl) dX8_hours_4 (fun H locs Z => ?_)
  refine lv_if_ne (tgt := 12) hx hb dX8_hours_7 (by decide) (fun hc7 => ?_) (fun hc7 => ?_)
  · rw [if_neg hc7] at hf
    refine lv_aload_n hx hb dX8_hours_12 rfl (lv_at hl 0 rfl) ?_
    refine gM_0_10 C Z (fl_of C mw_827) dX8_hours_13 ?_
    refine lv_iconst (v := 0) hx hb dX8_hours_16 (by decide +kernel) ?_
    refine r_ald C Z (aM_8 g _ (f := (u.2.1 7)) rfl) (by decide) (k := 0) (by decide) dX8_hours_17 (x := ((u.2.1 7) 0)) rfl ?_
    refine lv_bipush (v := 30) hx hb dX8_hours_18 (by decide +kernel) ?_
    refine lv_icmp_ne (tgt := 26) hx hb dX8_hours_20 (by decide) (fun hc20 => ?_) (fun hc20 => ?_)
    · rw [if_neg hc20] at hf
      refine lv_aload_n hx hb dX8_hours_26 rfl (lv_at hl 0 rfl) ?_
      obtain ⟨r27, hr27, hf⟩ := Option.bind_eq_some_iff.mp hf
      refine call_vv (As := []) (rest := []) C Z (c_X8_remembers l hr27) mf_X8_remembers (ml_of C mw_1060) rfl (oM_0 g _) rfl ⟨rfl, rfl, by decide, by decide⟩ rfl hl.1 (Nat.le_of_ble_eq_true rfl) dX8_hours_27 (fun H locs Z => ?_)
      refine lv_iconst (v := 0) hx hb dX8_hours_30 (by decide +kernel) ?_
      refine lv_istore_n (lv' := [(2, .int 0), (0, .ref (g.2.2 0)), (1, .int x1)]) hx hb dX8_hours_31 rfl hl (by decide) rfl (fun ls hl => ?_)
      refine b_X8_hours_32 C (fun x2 u32 H locs ls Z hl hf => ?_) FU _ _ _ _ _ Z (lv_sub hl [1, 2, 0] rfl) hf
      refine lv_aload_n hx hb dX8_hours_58 rfl (lv_at hl 0 rfl) ?_
      refine gM_0_10 C Z (fl_of C mw_827) dX8_hours_59 ?_
      refine lv_iconst (v := 0) hx hb dX8_hours_62 (by decide +kernel) ?_
      refine r_ald C Z (aM_8 g _ (f := (u32.2.1 7)) rfl) (by decide) (k := 0) (by decide) dX8_hours_63 (x := ((u32.2.1 7) 0)) rfl ?_
      have hf := Option.some.inj hf
      subst hf
      exact ret_i C Z dX8_hours_64
    · rw [if_pos hc20] at hf
      refine lv_bipush (v := (-2)) hx hb dX8_hours_23 (by decide +kernel) ?_
      have hf := Option.some.inj hf
      subst hf
      exact ret_i C Z dX8_hours_25
  · rw [if_pos hc7] at hf
    refine lv_iconst (v := (-1)) hx hb dX8_hours_10 (by decide +kernel) ?_
    have hf := Option.some.inj hf
    subst hf
    exact ret_i C Z dX8_hours_11
def f_X3_build (u : St) (x1 x2 : Int32) : Option (St) :=
  if oob x1 24 then none else
  Option.bind (f_X3_remember u 1 x1 ((u.2.1 30) (Int32.toNatClampNeg x1))) fun r9 =>
  if oob x1 24 then none else
  some (sA r9 30 (upd (r9.2.1 30) (Int32.toNatClampNeg x1) x2))
set_option maxHeartbeats 4000000 in
set_option maxRecDepth 100000 in
theorem c_X3_build (l : Launch) {g : Gx} {u : St} {x1 x2 : Int32} {res : St} (hf : f_X3_build u x1 x2 = some res) : CV wC 82 l yX3_build (wsY yX3_build cX3_build 3 (none)) (rmX 3 103) g [.ref (g.2.2 42), .int x1, .int x2] u res := by
  refine CV_start (by decide +kernel) rfl (Nat.le_of_ble_eq_true rfl) (fun {p e s m args below meth c ls} C Z hl => ?_)
  have hl : lv_has ls 3 [(0, .ref (g.2.2 42)), (1, .int x1), (2, .int x2)] := hl
  have hx := C.1
  have hb := C.2.1
  unfold f_X3_build at hf
  refine lv_aload_n hx hb dX3_build_0 rfl (lv_at hl 0 rfl) ?_
  refine lv_iconst (v := 1) hx hb dX3_build_1 (by decide +kernel) ?_
  refine lv_iload_n hx hb dX3_build_2 rfl (lv_at hl 1 rfl) ?_
  refine lv_aload_n hx hb dX3_build_3 rfl (lv_at hl 0 rfl) ?_
  refine gC_42_2 C Z (fl_of C mw_225) dX3_build_4 ?_
  refine lv_iload_n hx hb dX3_build_7 rfl (lv_at hl 1 rfl) ?_
  by_cases ho8 : oob x1 24 = true
  · rw [if_pos ho8] at hf; cases hf
  rw [if_neg ho8] at hf
  refine r_ald C Z (aC_43 g _ (f := (u.2.1 30)) rfl) ho8 rfl dX3_build_8 (x := ((u.2.1 30) (Int32.toNatClampNeg x1))) rfl ?_
  obtain ⟨r9, hr9, hf⟩ := Option.bind_eq_some_iff.mp hf
  refine call_vv (As := [.int 1, .int x1, .int ((u.2.1 30) (Int32.toNatClampNeg x1))]) (rest := []) C Z (c_X3_remember l hr9) mf_X3_remember (ml_of C mw_535) rfl (oC_42 g _) rfl ⟨rfl, rfl, by decide, by decide⟩ rfl hl.1 (Nat.le_of_ble_eq_true rfl) dX3_build_9 (fun H locs Z => ?_)
  refine lv_aload_n hx hb dX3_build_12 rfl (lv_at hl 0 rfl) ?_
  refine gC_42_2 C Z (fl_of C mw_225) dX3_build_13 ?_
  refine lv_iload_n hx hb dX3_build_16 rfl (lv_at hl 1 rfl) ?_
  refine lv_iload_n hx hb dX3_build_17 rfl (lv_at hl 2 rfl) ?_
  by_cases ho18 : oob x1 24 = true
  · rw [if_pos ho18] at hf; cases hf
  rw [if_neg ho18] at hf
  refine r_ast C wokC Z (aC_43 g _ (f := (r9.2.1 30)) rfl) ho18 rfl (sC_43 g _ _) dX3_build_18 (fun H locs Z => ?_)
  have hf := Option.some.inj hf
  subst hf
  exact ret_v C Z dX3_build_19
