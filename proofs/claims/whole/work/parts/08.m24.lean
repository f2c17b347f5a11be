def L_X8_odds_75 (k : Int32 → Int32 → Int32 → Option (Int32)) (u : St) (x1 x2 x4 x5 : Int32) : Nat → Int32 → Int32 → Int32 → Option (Int32)
  | 0, _, _, _ => none
  | n + 1, x7, x8, x9 =>
    if x4 < x9 then
      k x7 x8 x9
    else
      Option.bind (f_X8_sees u x1 x2 x9) fun r87 =>
      if r87 = 0 then
        L_X8_odds_75 k u x1 x2 x4 x5 n (x7 * 1) (x8 * 1) (x9 + 1)
      else
        L_X8_odds_75 k u x1 x2 x4 x5 n (x7 * 10) (x8 * x5) (x9 + 1)
set_option maxHeartbeats 4000000 in
set_option maxRecDepth 100000 in
theorem b_X8_odds_75 {p : Program} {l : Launch} {e : Env} {s : State} {m : MethodId} {args : Array Value} {below : List Frame} {meth : Method} {c : Code} {g : Gx} {u : St} {x1 x2 x4 x5 x6 : Int32} {res : Int32} {k : Int32 → Int32 → Int32 → Option (Int32)} (C : Cx p s m meth c args cX8_odds RX8 11 (some .int) 22 g)
    (hk : ∀ (x7 x8 x9 : Int32) (H : Heap) (locs : List Loc) (ls : Array Slot), Zx wM g (Aw 22 g s.heap.size) s H locs u → lv_has ls 11 [(6, .int x6), (7, .int x7), (8, .int x8)] → k x7 x8 x9 = some res → W p l e (rmX 3 72) s m args below meth c H locs 0 0 (QI wM 22 g res u below args s) (F0 m 130 ls [])) :
    ∀ (n : Nat) (x7 x8 x9 : Int32) (H : Heap) (locs : List Loc) (ls : Array Slot), Zx wM g (Aw 22 g s.heap.size) s H locs u → lv_has ls 11 [(0, .ref (g.2.2 0)), (1, .int x1), (2, .int x2), (4, .int x4), (5, .int x5), (6, .int x6), (7, .int x7), (8, .int x8), (9, .int x9)] → L_X8_odds_75 k u x1 x2 x4 x5 n x7 x8 x9 = some res → W p l e (rmX 3 72) s m args below meth c H locs 0 0 (QI wM 22 g res u below args s) (F0 m 75 ls []) := by
  have hx := C.1
  have hb := C.2.1
  intro n
  induction n with
  | zero =>
    intro x7 x8 x9 H locs ls Z hl hf
    rw [L_X8_odds_75.eq_1] at hf
    cases hf
  | succ n ih =>
    intro x7 x8 x9 H locs ls Z hl hf
    rw [L_X8_odds_75.eq_2] at hf
    refine lv_iload hx hb dX8_odds_75 (lv_at hl 8 rfl) ?_
    refine lv_iload hx hb dX8_odds_77 (lv_at hl 3 rfl) ?_
    refine lv_icmp_gt (tgt := 130) hx hb dX8_odds_79 (by decide) (fun hc79 => ?_) (fun hc79 => ?_)
    · rw [if_pos hc79] at hf
      exact hk _ _ _ H locs ls Z (lv_sub hl [5, 6, 7] rfl) hf
    · rw [if_neg hc79] at hf
      refine lv_aload_n hx hb dX8_odds_82 rfl (lv_at hl 0 rfl) ?_
      refine lv_iload_n hx hb dX8_odds_83 rfl (lv_at hl 1 rfl) ?_
      refine lv_iload_n hx hb dX8_odds_84 rfl (lv_at hl 2 rfl) ?_
      refine lv_iload hx hb dX8_odds_85 (lv_at hl 8 rfl) ?_
      obtain ⟨r87, hr87, hf⟩ := Option.bind_eq_some_iff.mp hf
      refine call_vi (As := [.int x1, .int x2, .int x9]) (rest := []) C Z (c_X8_sees l hr87) mf_X8_sees (ml_of C mw_1068) rfl (oM_0 g _) rfl ⟨rfl, rfl, by decide, by decide⟩ rfl hl.1 (Nat.le_of_ble_eq_true rfl) dX8_odds_87 (fun H locs Z => ?_)
      refine lv_istore (lv' := [(10, .int r87), (0, .ref (g.2.2 0)), (1, .int x1), (2, .int x2), (4, .int x4), (5, .int x5), (6, .int x6), (7, .int x7), (8, .int x8), (9, .int x9)]) hx hb dX8_odds_90 hl (by decide) rfl (fun ls hl => ?_)
      refine lv_iload hx hb dX8_odds_92 (lv_at hl 7 rfl) ?_
      refine lv_iload hx hb dX8_odds_94 (lv_at hl 0 rfl) ?_
      refine lv_if_eq (tgt := 104) hx hb dX8_odds_96 (by decide) (fun hc96 => ?_) (fun hc96 => ?_)
      · rw [if_pos hc96] at hf
        refine lv_iconst (v := 1) hx hb dX8_odds_104 (by decide +kernel) ?_
        refine lv_imul hx hb dX8_odds_105 ?_
        refine lv_istore (lv' := [(7, .int (x7 * 1)), (10, .int r87), (0, .ref (g.2.2 0)), (1, .int x1), (2, .int x2), (4, .int x4), (5, .int x5), (6, .int x6), (8, .int x8), (9, .int x9)]) hx hb dX8_odds_106 hl (by decide) rfl (fun ls hl => ?_)
        refine lv_iload hx hb dX8_odds_108 (lv_at hl 8 rfl) ?_
        refine lv_iload hx hb dX8_odds_110 (lv_at hl 1 rfl) ?_
        refine lv_if_eq (tgt := 120) hx hb dX8_odds_112 (by decide) (fun _ => ?_) (fun hq => absurd hc96 hq)
        refine lv_iconst (v := 1) hx hb dX8_odds_120 (by decide +kernel) ?_
        refine lv_imul hx hb dX8_odds_121 ?_
        refine lv_istore (lv' := [(8, .int (x8 * 1)), (7, .int (x7 * 1)), (10, .int r87), (0, .ref (g.2.2 0)), (1, .int x1), (2, .int x2), (4, .int x4), (5, .int x5), (6, .int x6), (9, .int x9)]) hx hb dX8_odds_122 hl (by decide) rfl (fun ls hl => ?_)
        refine lv_iinc (v := (x9 + 1)) (lv' := [(9, .int (x9 + 1)), (8, .int (x8 * 1)), (7, .int (x7 * 1)), (10, .int r87), (0, .ref (g.2.2 0)), (1, .int x1), (2, .int x2), (4, .int x4), (5, .int x5), (6, .int x6)]) hx hb dX8_odds_124 hl (k := 9) rfl rfl (by decide) rfl (fun ls hl => ?_)
        refine lv_goto (tgt := 75) hx hb dX8_odds_127 (by decide) ?_
        exact ih _ _ _ _ _ _ Z (lv_sub hl [4, 5, 6, 7, 8, 9, 2, 1, 0] rfl) hf
      · rw [if_neg hc96] at hf
        refine lv_bipush (v := 10) hx hb dX8_odds_99 (by decide +kernel) ?_
        refine lv_goto (tgt := 105) hx hb dX8_odds_101 (by decide) ?_
        refine lv_imul hx hb dX8_odds_105 ?_
        refine lv_istore (lv' := [(7, .int (x7 * 10)), (10, .int r87), (0, .ref (g.2.2 0)), (1, .int x1), (2, .int x2), (4, .int x4), (5, .int x5), (6, .int x6), (8, .int x8), (9, .int x9)]) hx hb dX8_odds_106 hl (by decide) rfl (fun ls hl => ?_)
        refine lv_iload hx hb dX8_odds_108 (lv_at hl 8 rfl) ?_
        refine lv_iload hx hb dX8_odds_110 (lv_at hl 1 rfl) ?_
        refine lv_if_eq (tgt := 120) hx hb dX8_odds_112 (by decide) (fun hq => absurd hq hc96) (fun _ => ?_)
        refine lv_iload hx hb dX8_odds_115 (lv_at hl 6 rfl) ?_
        refine lv_goto (tgt := 121) hx hb dX8_odds_117 (by decide) ?_
        refine lv_imul hx hb dX8_odds_121 ?_
        refine lv_istore (lv' := [(8, .int (x8 * x5)), (7, .int (x7 * 10)), (10, .int r87), (0, .ref (g.2.2 0)), (1, .int x1), (2, .int x2), (4, .int x4), (5, .int x5), (6, .int x6), (9, .int x9)]) hx hb dX8_odds_122 hl (by decide) rfl (fun ls hl => ?_)
        refine lv_iinc (v := (x9 + 1)) (lv' := [(9, .int (x9 + 1)), (8, .int (x8 * x5)), (7, .int (x7 * 10)), (10, .int r87), (0, .ref (g.2.2 0)), (1, .int x1), (2, .int x2), (4, .int x4), (5, .int x5), (6, .int x6)]) hx hb dX8_odds_124 hl (k := 9) rfl rfl (by decide) rfl (fun ls hl => ?_)
        refine lv_goto (tgt := 75) hx hb dX8_odds_127 (by decide) ?_
        exact ih _ _ _ _ _ _ Z (lv_sub hl [4, 5, 6, 7, 8, 9, 2, 1, 0] rfl) hf
def f_X8_odds (u : St) (x1 x2 x3 x4 x5 x6 : Int32) : Option (Int32) :=
  Option.bind (f_X8_isCock u x1) fun r2 =>
  if r2 = 0 then
    some (-1)
  else
    Option.bind (f_X8_isCell x2) fun r9 =>
    if r9 = 0 then
      some (-1)
    else
      Option.bind (f_X8_isHour x3) fun r16 =>
      if r16 = 0 then
        some (-1)
      else
        Option.bind (f_X8_isHour x4) fun r24 =>
        if r24 = 0 then
          some (-1)
        else
          Option.bind (f_X8_in (x4 - x3) 0 7) fun r37 =>
          if r37 = 0 then
            some (-1)
          else
            Option.bind (f_X8_in x5 0 10) fun r48 =>
            if r48 = 0 then
              some (-1)
            else
              Option.bind (f_X8_in x6 0 1) fun r58 =>
              if r58 = 0 then
                some (-1)
              else
                L_X8_odds_75 (fun x7 x8 x9 =>
                  Option.bind (f_X8_lowest (x7 - x8) x7 x6) fun r139 =>
                  some r139) u x1 x2 x4 x5 FU 1 1 x3
set_option maxHeartbeats 4000000 in
set_option maxRecDepth 100000 in
theorem c_X8_odds (l : Launch) {g : Gx} {u : St} {x1 x2 x3 x4 x5 x6 : Int32} {res : Int32} (hf : f_X8_odds u x1 x2 x3 x4 x5 x6 = some res) : CI wM 22 l yX8_odds (wsY yX8_odds cX8_odds 11 (some .int)) (rmX 3 72) g [.ref (g.2.2 0), .int x1, .int x2, .int x3, .int x4, .int x5, .int x6] u res u := by
  refine CI_start (by decide +kernel) rfl (Nat.le_of_ble_eq_true rfl) (fun {p e s m args below meth c ls} C Z hl => ?_)
  have hl : lv_has ls 11 [(0, .ref (g.2.2 0)), (1, .int x1), (2, .int x2), (3, .int x3), (4, .int x4), (5, .int x5), (6, .int x6)] := hl
  have hx := C.1
  have hb := C.2.1
  unfold f_X8_odds at hf
  refine lv_aload_n hx hb dX8_odds_0 rfl (lv_at hl 0 rfl) ?_
  refine lv_iload_n hx hb dX8_odds_1 rfl (lv_at hl 1 rfl) ?_
  obtain ⟨r2, hr2, hf⟩ := Option.bind_eq_some_iff.mp hf
  refine call_vi (As := [.int x1]) (rest := []) C Z (c_X8_isCock l hr2) mf_X8_isCock (ml_of C mw_1006) rfl (oM_0 g _) rfl ⟨rfl, rfl, by decide, by decide⟩ rfl hl.1 (Nat.le_of_ble_eq_true rfl) dX8_odds_2 (fun H locs Z => ?_)
  refine lv_if_eq (tgt := 64) hx hb dX8_odds_5 (by decide) (fun hc5 => ?_) (fun hc5 => ?_)
  · rw [if_pos hc5] at hf
    refine lv_iconst (v := (-1)) hx hb dX8_odds_64 (by decide +kernel) ?_
    have hf := Option.some.inj hf
    subst hf
    exact ret_i C Z dX8_odds_65
  · rw [if_neg hc5] at hf
    refine lv_iload_n hx hb dX8_odds_8 rfl (lv_at hl 2 rfl) ?_
    obtain ⟨r9, hr9, hf⟩ := Option.bind_eq_some_iff.mp hf
    refine call_si (As := [.int x2]) (rest := []) C Z (c_X8_isCell l hr9) mf_X8_isCell (ml_of C mw_999) rfl ⟨rfl, rfl, by decide, by decide⟩ rfl hl.1 (Nat.le_of_ble_eq_true rfl) dX8_odds_9 (fun H locs Z => ?_)
    refine lv_if_eq (tgt := 64) hx hb dX8_odds_12 (by decide) (fun hc12 => ?_) (fun hc12 => ?_)
    · rw [if_pos hc12] at hf
      refine lv_iconst (v := (-1)) hx hb dX8_odds_64 (by decide +kernel) ?_
      have hf := Option.some.inj hf
      subst hf
      exact ret_i C Z dX8_odds_65
    · rw [if_neg hc12] at hf
      refine lv_iload_n hx hb dX8_odds_15 rfl (lv_at hl 3 rfl) ?_
      obtain ⟨r16, hr16, hf⟩ := Option.bind_eq_some_iff.mp hf
      refine call_si (As := [.int x3]) (rest := []) C Z (c_X8_isHour l hr16) mf_X8_isHour (ml_of C mw_1115) rfl ⟨rfl, rfl, by decide, by decide⟩ rfl hl.1 (Nat.le_of_ble_eq_true rfl) dX8_odds_16 (fun H locs Z => ?_)
      refine lv_if_eq (tgt := 64) hx hb dX8_odds_19 (by decide) (fun hc19 => ?_) (fun hc19 => ?_)
      · rw [if_pos hc19] at hf
        refine lv_iconst (v := (-1)) hx hb dX8_odds_64 (by decide +kernel) ?_
        have hf := Option.some.inj hf
        subst hf
        exact ret_i C Z dX8_odds_65
      · rw [if_neg hc19] at hf
        refine lv_iload hx hb dX8_odds_22 (lv_at hl 4 rfl) ?_
        obtain ⟨r24, hr24, hf⟩ := Option.bind_eq_some_iff.mp hf
        refine call_si (As := [.int x4]) (rest := []) C Z (c_X8_isHour l hr24) mf_X8_isHour (ml_of C mw_1115) rfl ⟨rfl, rfl, by decide, by decide⟩ rfl hl.1 (Nat.le_of_ble_eq_true rfl) dX8_odds_24 (fun H locs Z => ?_)
        refine lv_if_eq (tgt := 64) hx hb dX8_odds_27 (by decide) (fun hc27 => ?_) (fun hc27 => ?_)
        · rw [if_pos hc27] at hf
          refine lv_iconst (v := (-1)) hx hb dX8_odds_64 (by decide +kernel) ?_
          have hf := Option.some.inj hf
          subst hf
          exact ret_i C Z dX8_odds_65
        · rw [if_neg hc27] at hf
          refine lv_iload hx hb dX8_odds_30 (lv_at hl 4 rfl) ?_
          refine lv_iload_n hx hb dX8_odds_32 rfl (lv_at hl 3 rfl) ?_
          refine lv_isub hx hb dX8_odds_33 ?_
          refine lv_iconst (v := 0) hx hb dX8_odds_34 (by decide +kernel) ?_
          refine lv_bipush (v := 7) hx hb dX8_odds_35 (by decide +kernel) ?_
          obtain ⟨r37, hr37, hf⟩ := Option.bind_eq_some_iff.mp hf
          refine call_si (As := [.int (x4 - x3), .int 0, .int 7]) (rest := []) C Z (c_X8_in l hr37) mf_X8_in (ml_of C mw_934) rfl ⟨rfl, rfl, by decide, by decide⟩ rfl hl.1 (Nat.le_of_ble_eq_true rfl) dX8_odds_37 (fun H locs Z => ?_)
          refine lv_if_eq (tgt := 64) hx hb dX8_odds_40 (by decide) (fun hc40 => ?_) (fun hc40 => ?_)
          · rw [if_pos hc40] at hf
            refine lv_iconst (v := (-1)) hx hb dX8_odds_64 (by decide +kernel) ?_
            have hf := Option.some.inj hf
            subst hf
            exact ret_i C Z dX8_odds_65
          · rw [if_neg hc40] at hf
            refine lv_iload hx hb dX8_odds_43 (lv_at hl 5 rfl) ?_
            refine lv_iconst (v := 0) hx hb dX8_odds_45 (by decide +kernel) ?_
            refine lv_bipush (v := 10) hx hb dX8_odds_46 (by decide +kernel) ?_
            obtain ⟨r48, hr48, hf⟩ := Option.bind_eq_some_iff.mp hf
            refine call_si (As := [.int x5, .int 0, .int 10]) (rest := []) C Z (c_X8_in l hr48) mf_X8_in (ml_of C mw_934) rfl ⟨rfl, rfl, by decide, by decide⟩ rfl hl.1 (Nat.le_of_ble_eq_true rfl) dX8_odds_48 (fun H locs Z => ?_)
            refine lv_if_eq (tgt := 64) hx hb dX8_odds_51 (by decide) (fun hc51 => ?_) (fun hc51 => ?_)
            · rw [if_pos hc51] at hf
              refine lv_iconst (v := (-1)) hx hb dX8_odds_64 (by decide +kernel) ?_
              have hf := Option.some.inj hf
              subst hf
              exact ret_i C Z dX8_odds_65
            · rw [if_neg hc51] at hf
              refine lv_iload hx hb dX8_odds_54 (lv_at hl 6 rfl) ?_
              refine lv_iconst (v := 0) hx hb dX8_odds_56 (by decide +kernel) ?_
              refine lv_iconst (v := 1) hx hb dX8_odds_57 (by decide +kernel) ?_
              obtain ⟨r58, hr58, hf⟩ := Option.bind_eq_some_iff.mp hf
              refine call_si (As := [.int x6, .int 0, .int 1]) (rest := []) C Z (c_X8_in l hr58) mf_X8_in (ml_of C mw_934) rfl ⟨rfl, rfl, by decide, by decide⟩ rfl hl.1 (Nat.le_of_ble_eq_true rfl) dX8_odds_58 (fun H locs Z => ?_)
              refine lv_if_ne (tgt := 66) hx hb dX8_odds_61 (by decide) (fun hc61 => ?_) (fun hc61 => ?_)
              · rw [if_neg hc61] at hf
                refine lv_iconst (v := 1) hx hb dX8_odds_66 (by decide +kernel) ?_
                refine lv_istore (lv' := [(7, .int 1), (0, .ref (g.2.2 0)), (1, .int x1), (2, .int x2), (3, .int x3), (4, .int x4), (5, .int x5), (6, .int x6)]) hx hb dX8_odds_67 hl (by decide) rfl (fun ls hl => ?_)
                refine lv_iconst (v := 1) hx hb dX8_odds_69 (by decide +kernel) ?_
                refine lv_istore (lv' := [(8, .int 1), (7, .int 1), (0, .ref (g.2.2 0)), (1, .int x1), (2, .int x2), (3, .int x3), (4, .int x4), (5, .int x5), (6, .int x6)]) hx hb dX8_odds_70 hl (by decide) rfl (fun ls hl => ?_)
                refine lv_iload_n hx hb dX8_odds_72 rfl (lv_at hl 5 rfl) ?_
                refine lv_istore (lv' := [(9, .int x3), (8, .int 1), (7, .int 1), (0, .ref (g.2.2 0)), (1, .int x1), (2, .int x2), (3, .int x3), (4, .int x4), (5, .int x5), (6, .int x6)]) hx hb dX8_odds_73 hl (by decide) rfl (fun ls hl => ?_)
                refine b_X8_odds_75 C (fun x7 x8 x9 H locs ls Z hl hf => ?_) FU _ _ _ _ _ _ Z (lv_sub hl [3, 4, 5, 7, 8, 9, 2, 1, 0] rfl) hf
                refine lv_iload hx hb dX8_odds_130 (lv_at hl 1 rfl) ?_
                refine lv_iload hx hb dX8_odds_132 (lv_at hl 2 rfl) ?_
                refine lv_isub hx hb dX8_odds_134 ?_
                refine lv_iload hx hb dX8_odds_135 (lv_at hl 1 rfl) ?_
                refine lv_iload hx hb dX8_odds_137 (lv_at hl 0 rfl) ?_
                obtain ⟨r139, hr139, hf⟩ := Option.bind_eq_some_iff.mp hf
                refine call_si (As := [.int (x7 - x8), .int x7, .int x6]) (rest := []) C Z (c_X8_lowest l hr139) mf_X8_lowest (ml_of C mw_1139) rfl ⟨rfl, rfl, by decide, by decide⟩ rfl hl.1 (Nat.le_of_ble_eq_true rfl) dX8_odds_139 (fun H locs Z => ?_)
                have hf := Option.some.inj hf
                subst hf
                exact ret_i C Z dX8_odds_142
              · rw [if_pos hc61] at hf
                refine lv_iconst (v := (-1)) hx hb dX8_odds_64 (by decide +kernel) ?_
                have hf := Option.some.inj hf
                subst hf
                exact ret_i C Z dX8_odds_65
def f_X0_addFaced (u : St) (x1 x2 : Int32) : Option (Int32 × St) :=
  if (u.1 13) < 6 then
    if oob (u.1 13) 6 then none else
    some (1, (sI (sA (sA u 39 (upd (u.2.1 39) (Int32.toNatClampNeg (u.1 13)) x1)) 40 (upd (u.2.1 40) (Int32.toNatClampNeg (u.1 13)) x2)) 13 ((u.1 13) + 1)))
  else
    some (0, u)
set_option maxHeartbeats 4000000 in
set_option maxRecDepth 100000 in
theorem c_X0_addFaced (l : Launch) {g : Gx} {u : St} {x1 x2 : Int32} {res : Int32 × St} (hf : f_X0_addFaced u x1 x2 = some res) : CI wC 82 l yX0_addFaced (wsY yX0_addFaced cX0_addFaced 3 (some .boolean)) (rmX 0 0) g [.ref (g.2.2 53), .int x1, .int x2] u res.1 res.2 := by
  refine CI_start (by decide +kernel) rfl (Nat.le_of_ble_eq_true rfl) (fun {p e s m args below meth c ls} C Z hl => ?_)
  have hl : lv_has ls 3 [(0, .ref (g.2.2 53)), (1, .int x1), (2, .int x2)] := hl
  have hx := C.1
  have hb := C.2.1
  unfold f_X0_addFaced at hf
  refine lv_aload_n hx hb dX0_addFaced_0 rfl (lv_at hl 0 rfl) ?_
  refine gC_53_2 C Z (fl_of C mw_272) dX0_addFaced_1 (x := (u.1 13)) rfl ?_
  refine lv_bipush (v := 6) hx hb dX0_addFaced_4 (by decide +kernel) ?_
  refine lv_icmp_lt (tgt := 11) hx hb dX0_addFaced_6 (by decide) (fun hc6 => ?_) (fun hc6 => ?_)
  · rw [if_pos hc6] at hf
    refine lv_aload_n hx hb dX0_addFaced_11 rfl (lv_at hl 0 rfl) ?_
    refine gC_53_0 C Z (fl_of C mw_270) dX0_addFaced_12 ?_
    refine lv_aload_n hx hb dX0_addFaced_15 rfl (lv_at hl 0 rfl) ?_
    refine gC_53_2 C Z (fl_of C mw_272) dX0_addFaced_16 (x := (u.1 13)) rfl ?_
    refine lv_iload_n hx hb dX0_addFaced_19 rfl (lv_at hl 1 rfl) ?_
    by_cases ho20 : oob (u.1 13) 6 = true
    · rw [if_pos ho20] at hf; cases hf
    rw [if_neg ho20] at hf
    refine r_ast C wokC Z (aC_54 g _ (f := (u.2.1 39)) rfl) ho20 rfl (sC_54 g _ _) dX0_addFaced_20 (fun H locs Z => ?_)
    refine lv_aload_n hx hb dX0_addFaced_21 rfl (lv_at hl 0 rfl) ?_
    refine gC_53_1 C Z (fl_of C mw_271) dX0_addFaced_22 ?_
    refine lv_aload_n hx hb dX0_addFaced_25 rfl (lv_at hl 0 rfl) ?_
    refine gC_53_2 C Z (fl_of C mw_272) dX0_addFaced_26 (x := (u.1 13)) rfl ?_
    refine lv_iload_n hx hb dX0_addFaced_29 rfl (lv_at hl 2 rfl) ?_
    refine r_ast C wokC Z (aC_55 g _ (f := (u.2.1 40)) rfl) ho20 rfl (sC_55 g _ _) dX0_addFaced_30 (fun H locs Z => ?_)
    refine lv_aload_n hx hb dX0_addFaced_31 rfl (lv_at hl 0 rfl) ?_
    refine lv_dup hx hb dX0_addFaced_32 rfl ?_
    refine gC_53_2 C Z (fl_of C mw_272) dX0_addFaced_33 (x := (u.1 13)) rfl ?_
    refine lv_iconst (v := 1) hx hb dX0_addFaced_36 (by decide +kernel) ?_
    refine lv_iadd hx hb dX0_addFaced_37 ?_
    refine pC_53_2 C Z (fl_of C mw_272) dX0_addFaced_38 (fun H locs Z => ?_)
    refine lv_iconst (v := 1) hx hb dX0_addFaced_41 (by decide +kernel) ?_
    have hf := Option.some.inj hf
    subst hf
    exact ret_z C Z rfl dX0_addFaced_42
  · rw [if_neg hc6] at hf
    refine lv_iconst (v := 0) hx hb dX0_addFaced_9 (by decide +kernel) ?_
    have hf := Option.some.inj hf
    subst hf
    exact ret_z C Z rfl dX0_addFaced_10
def f_X7_faced (u : St) (x1 x2 : Int32) : Option (Int32 × St) :=
  Option.bind (f_X7_isHour x1) fun r1 =>
  if r1 = 0 then
    some ((-1), u)
  else
    Option.bind (f_X7_isWithin x2 0 1) fun r10 =>
    if r10 = 0 then
      some ((-1), u)
    else
      Option.bind (f_X0_addFaced u x1 x2) fun r24 =>
      if r24.1 = 0 then
        some ((-3), r24.2)
      else
        some ((r24.2.1 13), r24.2)
set_option maxHeartbeats 4000000 in
set_option maxRecDepth 100000 in
theorem c_X7_faced (l : Launch) {g : Gx} {u : St} {x1 x2 : Int32} {res : Int32 × St} (hf : f_X7_faced u x1 x2 = some res) : CI wC 82 l yX7_faced (wsY yX7_faced cX7_faced 3 (some .int)) (rmX 2 42) g [.ref (g.2.2 0), .int x1, .int x2] u res.1 res.2 := by
  refine CI_start (by decide +kernel) rfl (Nat.le_of_ble_eq_true rfl) (fun {p e s m args below meth c ls} C Z hl => ?_)
  have hl : lv_has ls 3 [(0, .ref (g.2.2 0)), (1, .int x1), (2, .int x2)] := hl
  have hx := C.1
  have hb := C.2.1
  unfold f_X7_faced at hf
  refine lv_iload_n hx hb dX7_faced_0 rfl (lv_at hl 1 rfl) ?_
  obtain ⟨r1, hr1, hf⟩ := Option.bind_eq_some_iff.mp hf
  refine call_si (As := [.int x1]) (rest := []) C Z (c_X7_isHour l hr1) mf_X7_isHour (ml_of C mw_639) rfl ⟨rfl, rfl, by decide, by decide⟩ rfl hl.1 (Nat.le_of_ble_eq_true rfl) dX7_faced_1 (fun H locs Z => ?_)
  refine lv_if_eq (tgt := 16) hx hb dX7_faced_4 (by decide) (fun hc4 => ?_) (fun hc4 => ?_)
  · rw [if_pos hc4] at hf
    refine lv_iconst (v := (-1)) hx hb dX7_faced_16 (by decide +kernel) ?_
    have hf := Option.some.inj hf
    subst hf
    exact ret_i C Z dX7_faced_17
  · rw [if_neg hc4] at hf
    refine lv_iload_n hx hb dX7_faced_7 rfl (lv_at hl 2 rfl) ?_
    refine lv_iconst (v := 0) hx hb dX7_faced_8 (by decide +kernel) ?_
    refine lv_iconst (v := 1) hx hb dX7_faced_9 (by decide +kernel) ?_
    obtain ⟨r10, hr10, hf⟩ := Option.bind_eq_some_iff.mp hf
    refine call_si (As := [.int x2, .int 0, .int 1]) (rest := []) C Z (c_X7_isWithin l hr10) mf_X7_isWithin (ml_of C mw_331) rfl ⟨rfl, rfl, by decide, by decide⟩ rfl hl.1 (Nat.le_of_ble_eq_true rfl) dX7_faced_10 (fun H locs Z => ?_)
    refine lv_if_ne (tgt := 18) hx hb dX7_faced_13 (by decide) (fun hc13 => ?_) (fun hc13 => ?_)
    · rw [if_neg hc13] at hf
      refine lv_aload_n hx hb dX7_faced_18 rfl (lv_at hl 0 rfl) ?_
      refine gC_0_3 C Z (fl_of C mw_308) dX7_faced_19 ?_
      refine lv_iload_n hx hb dX7_faced_22 rfl (lv_at hl 1 rfl) ?_
      refine lv_iload_n hx hb dX7_faced_23 rfl (lv_at hl 2 rfl) ?_
      obtain ⟨r24, hr24, hf⟩ := Option.bind_eq_some_iff.mp hf
      refine call_vi (As := [.int x1, .int x2]) (rest := []) C Z (c_X0_addFaced l hr24) mf_X0_addFaced (ml_nest C nw_54) rfl (oC_53 g _) rfl ⟨rfl, rfl, by decide, by decide⟩ rfl hl.1 (Nat.le_of_ble_eq_true rfl) dX7_faced_24 (fun H locs Z => ?_)
      refine lv_if_eq (tgt := 40) hx hb dX7_faced_27 (by decide) (fun hc27 => ?_) (fun hc27 => ?_)
      · rw [if_pos hc27] at hf
        refine lv_bipush (v := (-3)) hx hb dX7_faced_40 (by decide +kernel) ?_
        have hf := Option.some.inj hf
        subst hf
        exact ret_i C Z dX7_faced_42
      · rw [if_neg hc27] at hf
        refine lv_aload_n hx hb dX7_faced_30 rfl (lv_at hl 0 rfl) ?_
        refine gC_0_3 C Z (fl_of C mw_308) dX7_faced_31 ?_
        refine gC_53_2 C Z (fl_nest C nw_101) dX7_faced_34 (x := (r24.2.1 13)) rfl ?_
        refine lv_goto (tgt := 42) hx hb dX7_faced_37 (by decide) ?_
        have hf := Option.some.inj hf
        subst hf
        exact ret_i C Z dX7_faced_42
    · rw [if_pos hc13] at hf
      refine lv_iconst (v := (-1)) hx hb dX7_faced_16 (by decide +kernel) ?_
      have hf := Option.some.inj hf
      subst hf
      exact ret_i C Z dX7_faced_17
def f_X8_faced (u : St) (x1 x2 : Int32) : Option (Int32 × St) :=
  Option.bind (f_X8_isHour x1) fun r1 =>
  if r1 = 0 then
    some ((-1), u)
  else
    Option.bind (f_X8_in x2 0 1) fun r10 =>
    if r10 = 0 then
      some ((-1), u)
    else
      if (u.1 3) = 6 then
        some ((-3), u)
      else
        if oob (2 * (u.1 3)) 12 then none else
        if oob ((2 * (u.1 3)) + 1) 12 then none else
        some (((u.1 3) + 1), (sI (sA (sA u 10 (upd (u.2.1 10) (Int32.toNatClampNeg (2 * (u.1 3))) x1)) 10 (upd (upd (u.2.1 10) (Int32.toNatClampNeg (2 * (u.1 3))) x1) (Int32.toNatClampNeg ((2 * (u.1 3)) + 1)) x2)) 3 ((u.1 3) + 1)))
set_option maxHeartbeats 4000000 in
set_option maxRecDepth 100000 in
theorem c_X8_faced (l : Launch) {g : Gx} {u : St} {x1 x2 : Int32} {res : Int32 × St} (hf : f_X8_faced u x1 x2 = some res) : CI wM 22 l yX8_faced (wsY yX8_faced cX8_faced 3 (some .int)) (rmX 2 42) g [.ref (g.2.2 0), .int x1, .int x2] u res.1 res.2 := by
  refine CI_start (by decide +kernel) rfl (Nat.le_of_ble_eq_true rfl) (fun {p e s m args below meth c ls} C Z hl => ?_)
  have hl : lv_has ls 3 [(0, .ref (g.2.2 0)), (1, .int x1), (2, .int x2)] := hl
  have hx := C.1
  have hb := C.2.1
  unfold f_X8_faced at hf
  refine lv_iload_n hx hb dX8_faced_0 rfl (lv_at hl 1 rfl) ?_
  obtain ⟨r1, hr1, hf⟩ := Option.bind_eq_some_iff.mp hf
  refine call_si (As := [.int x1]) (rest := []) C Z (c_X8_isHour l hr1) mf_X8_isHour (ml_of C mw_1115) rfl ⟨rfl, rfl, by decide, by decide⟩ rfl hl.1 (Nat.le_of_ble_eq_true rfl) dX8_faced_1 (fun H locs Z => ?_)
  refine lv_if_eq (tgt := 16) hx hb dX8_faced_4 (by decide) (fun hc4 => ?_) (fun hc4 => ?_)
  · rw [if_pos hc4] at hf
    refine lv_iconst (v := (-1)) hx hb dX8_faced_16 (by decide +kernel) ?_
    have hf := Option.some.inj hf
    subst hf
    exact ret_i C Z dX8_faced_17
  · rw [if_neg hc4] at hf
    refine lv_iload_n hx hb dX8_faced_7 rfl (lv_at hl 2 rfl) ?_
    refine lv_iconst (v := 0) hx hb dX8_faced_8 (by decide +kernel) ?_
    refine lv_iconst (v := 1) hx hb dX8_faced_9 (by decide +kernel) ?_
    obtain ⟨r10, hr10, hf⟩ := Option.bind_eq_some_iff.mp hf
    refine call_si (As := [.int x2, .int 0, .int 1]) (rest := []) C Z (c_X8_in l hr10) mf_X8_in (ml_of C mw_934) rfl ⟨rfl, rfl, by decide, by decide⟩ rfl hl.1 (Nat.le_of_ble_eq_true rfl) dX8_faced_10 (fun H locs Z => ?_)
    refine lv_if_ne (tgt := 18) hx hb dX8_faced_13 (by decide) (fun hc13 => ?_) (fun hc13 => ?_)
    · rw [if_neg hc13] at hf
      refine lv_aload_n hx hb dX8_faced_18 rfl (lv_at hl 0 rfl) ?_
      refine gM_0_13 C Z (fl_of C mw_830) dX8_faced_19 (x := (u.1 3)) rfl ?_
      refine lv_bipush (v := 6) hx hb dX8_faced_22 (by decide +kernel) ?_
      refine lv_icmp_ne (tgt := 30) hx hb dX8_faced_24 (by decide) (fun hc24 => ?_) (fun hc24 => ?_)
      · rw [if_neg hc24] at hf
        refine lv_aload_n hx hb dX8_faced_30 rfl (lv_at hl 0 rfl) ?_
        refine gM_0_14 C Z (fl_of C mw_831) dX8_faced_31 ?_
        refine lv_iconst (v := 2) hx hb dX8_faced_34 (by decide +kernel) ?_
        refine lv_aload_n hx hb dX8_faced_35 rfl (lv_at hl 0 rfl) ?_
        refine gM_0_13 C Z (fl_of C mw_830) dX8_faced_36 (x := (u.1 3)) rfl ?_
        refine lv_imul hx hb dX8_faced_39 ?_
        refine lv_iload_n hx hb dX8_faced_40 rfl (lv_at hl 1 rfl) ?_
        by_cases ho41 : oob (2 * (u.1 3)) 12 = true
        · rw [if_pos ho41] at hf; cases hf
        rw [if_neg ho41] at hf
        refine r_ast C wokM Z (aM_11 g _ (f := (u.2.1 10)) rfl) ho41 rfl (sM_11 g _ _) dX8_faced_41 (fun H locs Z => ?_)
        refine lv_aload_n hx hb dX8_faced_42 rfl (lv_at hl 0 rfl) ?_
        refine gM_0_14 C Z (fl_of C mw_831) dX8_faced_43 ?_
        refine lv_iconst (v := 2) hx hb dX8_faced_46 (by decide +kernel) ?_
        refine lv_aload_n hx hb dX8_faced_47 rfl (lv_at hl 0 rfl) ?_
        refine gM_0_13 C Z (fl_of C mw_830) dX8_faced_48 (x := (u.1 3)) rfl ?_
        refine lv_imul hx hb dX8_faced_51 ?_
        refine lv_iconst (v := 1) hx hb dX8_faced_52 (by decide +kernel) ?_
        refine lv_iadd hx hb dX8_faced_53 ?_
        refine lv_iload_n hx hb dX8_faced_54 rfl (lv_at hl 2 rfl) ?_
        by_cases ho55 : oob ((2 * (u.1 3)) + 1) 12 = true
        · rw [if_pos ho55] at hf; cases hf
        rw [if_neg ho55] at hf
        refine r_ast C wokM Z (aM_11 g _ (f := (upd (u.2.1 10) (Int32.toNatClampNeg (2 * (u.1 3))) x1)) rfl) ho55 rfl (sM_11 g _ _) dX8_faced_55 (fun H locs Z => ?_)
        refine lv_aload_n hx hb dX8_faced_56 rfl (lv_at hl 0 rfl) ?_
        refine lv_dup hx hb dX8_faced_57 rfl ?_
        refine gM_0_13 C Z (fl_of C mw_830) dX8_faced_58 (x := (u.1 3)) rfl ?_
        refine lv_iconst (v := 1) hx hb dX8_faced_61 (by decide +kernel) ?_
        refine lv_iadd hx hb dX8_faced_62 ?_
        refine pM_0_13 C Z (fl_of C mw_830) dX8_faced_63 (fun H locs Z => ?_)
        refine lv_aload_n hx hb dX8_faced_66 rfl (lv_at hl 0 rfl) ?_
        refine gM_0_13 C Z (fl_of C mw_830) dX8_faced_67 (x := ((u.1 3) + 1)) rfl ?_
        have hf := Option.some.inj hf
        subst hf
        exact ret_i C Z dX8_faced_70
      · rw [if_pos hc24] at hf
        refine lv_bipush (v := (-3)) hx hb dX8_faced_27 (by decide +kernel) ?_
        have hf := Option.some.inj hf
        subst hf
        exact ret_i C Z dX8_faced_29
    · rw [if_pos hc13] at hf
      refine lv_iconst (v := (-1)) hx hb dX8_faced_16 (by decide +kernel) ?_
      have hf := Option.some.inj hf
      subst hf
      exact ret_i C Z dX8_faced_17
