def f_X7_count (u : St) (x1 : Int32) : Option (Int32) :=
  if x1 = 0 then
    some (u.1 7)
  else
  if x1 = 1 then
    some (u.1 8)
  else
  if x1 = 2 then
    some (u.1 9)
  else
  if x1 = 3 then
    some (u.1 13)
  else
  if x1 = 4 then
    some (u.1 14)
  else
  if x1 = 5 then
    some (u.1 12)
  else
  if x1 = 6 then
    some (u.1 0)
  else
  some (-1)
set_option maxHeartbeats 4000000 in
set_option maxRecDepth 100000 in
theorem c_X7_count (l : Launch) {g : Gx} {u : St} {x1 : Int32} {res : Int32} (hf : f_X7_count u x1 = some res) : CI wC 82 l yX7_count (wsY yX7_count cX7_count 2 (some .int)) (rmX 0 0) g [.ref (g.2.2 0), .int x1] u res u := by
  refine CI_start (by decide +kernel) rfl (Nat.le_of_ble_eq_true rfl) (fun {p e s m args below meth c ls} C Z hl => ?_)
  have hl : lv_has ls 2 [(0, .ref (g.2.2 0)), (1, .int x1)] := hl
  have hx := C.1
  have hb := C.2.1
  unfold f_X7_count at hf
  refine lv_iload_n hx hb dX7_count_0 rfl (lv_at hl 1 rfl) ?_
  by_cases hs1_0 : x1 = 0
  · rw [if_pos hs1_0] at hf
    refine lv_tableIn (tgt := 44) hx hb dX7_count_1 (by rw [hs1_0]; decide) (by rw [hs1_0]; decide) (by rw [hs1_0]; first | done | rfl) (by decide) ?_
    refine lv_aload_n hx hb dX7_count_44 rfl (lv_at hl 0 rfl) ?_
    refine gC_0_2 C Z (fl_of C mw_307) dX7_count_45 ?_
    refine gC_23_0 C Z (fl_nest C nw_98) dX7_count_48 ?_
    refine gC_24_4 C Z (fl_nest C nw_80) dX7_count_51 (x := (u.1 7)) rfl ?_
    have hf := Option.some.inj hf
    subst hf
    exact ret_i C Z dX7_count_54
  rw [if_neg hs1_0] at hf
  by_cases hs1_1 : x1 = 1
  · rw [if_pos hs1_1] at hf
    refine lv_tableIn (tgt := 55) hx hb dX7_count_1 (by rw [hs1_1]; decide) (by rw [hs1_1]; decide) (by rw [hs1_1]; first | done | rfl) (by decide) ?_
    refine lv_aload_n hx hb dX7_count_55 rfl (lv_at hl 0 rfl) ?_
    refine gC_0_2 C Z (fl_of C mw_307) dX7_count_56 ?_
    refine gC_23_0 C Z (fl_nest C nw_98) dX7_count_59 ?_
    refine gC_24_5 C Z (fl_nest C nw_83) dX7_count_62 (x := (u.1 8)) rfl ?_
    have hf := Option.some.inj hf
    subst hf
    exact ret_i C Z dX7_count_65
  rw [if_neg hs1_1] at hf
  by_cases hs1_2 : x1 = 2
  · rw [if_pos hs1_2] at hf
    refine lv_tableIn (tgt := 66) hx hb dX7_count_1 (by rw [hs1_2]; decide) (by rw [hs1_2]; decide) (by rw [hs1_2]; first | done | rfl) (by decide) ?_
    refine lv_aload_n hx hb dX7_count_66 rfl (lv_at hl 0 rfl) ?_
    refine gC_0_2 C Z (fl_of C mw_307) dX7_count_67 ?_
    refine gC_23_0 C Z (fl_nest C nw_98) dX7_count_70 ?_
    refine gC_24_6 C Z (fl_nest C nw_85) dX7_count_73 (x := (u.1 9)) rfl ?_
    have hf := Option.some.inj hf
    subst hf
    exact ret_i C Z dX7_count_76
  rw [if_neg hs1_2] at hf
  by_cases hs1_3 : x1 = 3
  · rw [if_pos hs1_3] at hf
    refine lv_tableIn (tgt := 77) hx hb dX7_count_1 (by rw [hs1_3]; decide) (by rw [hs1_3]; decide) (by rw [hs1_3]; first | done | rfl) (by decide) ?_
    refine lv_aload_n hx hb dX7_count_77 rfl (lv_at hl 0 rfl) ?_
    refine gC_0_3 C Z (fl_of C mw_308) dX7_count_78 ?_
    refine gC_53_2 C Z (fl_nest C nw_101) dX7_count_81 (x := (u.1 13)) rfl ?_
    have hf := Option.some.inj hf
    subst hf
    exact ret_i C Z dX7_count_84
  rw [if_neg hs1_3] at hf
  by_cases hs1_4 : x1 = 4
  · rw [if_pos hs1_4] at hf
    refine lv_tableIn (tgt := 85) hx hb dX7_count_1 (by rw [hs1_4]; decide) (by rw [hs1_4]; decide) (by rw [hs1_4]; first | done | rfl) (by decide) ?_
    refine lv_aload_n hx hb dX7_count_85 rfl (lv_at hl 0 rfl) ?_
    refine gC_0_3 C Z (fl_of C mw_308) dX7_count_86 ?_
    refine gC_53_5 C Z (fl_nest C nw_102) dX7_count_89 (x := (u.1 14)) rfl ?_
    have hf := Option.some.inj hf
    subst hf
    exact ret_i C Z dX7_count_92
  rw [if_neg hs1_4] at hf
  by_cases hs1_5 : x1 = 5
  · rw [if_pos hs1_5] at hf
    refine lv_tableIn (tgt := 93) hx hb dX7_count_1 (by rw [hs1_5]; decide) (by rw [hs1_5]; decide) (by rw [hs1_5]; first | done | rfl) (by decide) ?_
    refine lv_aload_n hx hb dX7_count_93 rfl (lv_at hl 0 rfl) ?_
    refine gC_0_2 C Z (fl_of C mw_307) dX7_count_94 ?_
    refine gC_23_1 C Z (fl_nest C nw_100) dX7_count_97 ?_
    refine gC_42_7 C Z (fl_nest C nw_96) dX7_count_100 (x := (u.1 12)) rfl ?_
    have hf := Option.some.inj hf
    subst hf
    exact ret_i C Z dX7_count_103
  rw [if_neg hs1_5] at hf
  by_cases hs1_6 : x1 = 6
  · rw [if_pos hs1_6] at hf
    refine lv_tableIn (tgt := 104) hx hb dX7_count_1 (by rw [hs1_6]; decide) (by rw [hs1_6]; decide) (by rw [hs1_6]; first | done | rfl) (by decide) ?_
    refine lv_aload_n hx hb dX7_count_104 rfl (lv_at hl 0 rfl) ?_
    refine gC_0_0 C Z (fl_of C mw_305) dX7_count_105 ?_
    refine gC_1_1 C Z (fl_nest C nw_69) dX7_count_108 (x := (u.1 0)) rfl ?_
    have hf := Option.some.inj hf
    subst hf
    exact ret_i C Z dX7_count_111
  rw [if_neg hs1_6] at hf
  have e1_0 := lv_neT (a := 0) hs1_0 (by decide)
  have e1_1 := lv_neT (a := 1) hs1_1 (by decide)
  have e1_2 := lv_neT (a := 2) hs1_2 (by decide)
  have e1_3 := lv_neT (a := 3) hs1_3 (by decide)
  have e1_4 := lv_neT (a := 4) hs1_4 (by decide)
  have e1_5 := lv_neT (a := 5) hs1_5 (by decide)
  have e1_6 := lv_neT (a := 6) hs1_6 (by decide)
  refine lv_tableOut (tgt := 112) hx hb dX7_count_1 (by omega) (by decide) ?_
  refine lv_iconst (v := (-1)) hx hb dX7_count_112 (by decide +kernel) ?_
  have hf := Option.some.inj hf
  subst hf
  exact ret_i C Z dX7_count_113
def f_X8_count (u : St) (x1 : Int32) : Option (Int32) :=
  if x1 = 0 then
    some (u.1 0)
  else
  if x1 = 1 then
    some (u.1 1)
  else
  if x1 = 2 then
    some (u.1 2)
  else
  if x1 = 3 then
    some (u.1 3)
  else
  if x1 = 4 then
    some (u.1 4)
  else
  if x1 = 5 then
    some ((u.2.1 7) 46)
  else
  if x1 = 6 then
    some (u.1 5)
  else
  some (-1)
set_option maxHeartbeats 4000000 in
set_option maxRecDepth 100000 in
theorem c_X8_count (l : Launch) {g : Gx} {u : St} {x1 : Int32} {res : Int32} (hf : f_X8_count u x1 = some res) : CI wM 22 l yX8_count (wsY yX8_count cX8_count 2 (some .int)) (rmX 0 0) g [.ref (g.2.2 0), .int x1] u res u := by
  refine CI_start (by decide +kernel) rfl (Nat.le_of_ble_eq_true rfl) (fun {p e s m args below meth c ls} C Z hl => ?_)
  have hl : lv_has ls 2 [(0, .ref (g.2.2 0)), (1, .int x1)] := hl
  have hx := C.1
  have hb := C.2.1
  unfold f_X8_count at hf
  refine lv_iload_n hx hb dX8_count_0 rfl (lv_at hl 1 rfl) ?_
  by_cases hs1_0 : x1 = 0
  · rw [if_pos hs1_0] at hf
    refine lv_tableIn (tgt := 44) hx hb dX8_count_1 (by rw [hs1_0]; decide) (by rw [hs1_0]; decide) (by rw [hs1_0]; first | done | rfl) (by decide) ?_
    refine lv_aload_n hx hb dX8_count_44 rfl (lv_at hl 0 rfl) ?_
    refine gM_0_0 C Z (fl_of C mw_817) dX8_count_45 (x := (u.1 0)) rfl ?_
    have hf := Option.some.inj hf
    subst hf
    exact ret_i C Z dX8_count_48
  rw [if_neg hs1_0] at hf
  by_cases hs1_1 : x1 = 1
  · rw [if_pos hs1_1] at hf
    refine lv_tableIn (tgt := 49) hx hb dX8_count_1 (by rw [hs1_1]; decide) (by rw [hs1_1]; decide) (by rw [hs1_1]; first | done | rfl) (by decide) ?_
    refine lv_aload_n hx hb dX8_count_49 rfl (lv_at hl 0 rfl) ?_
    refine gM_0_5 C Z (fl_of C mw_822) dX8_count_50 (x := (u.1 1)) rfl ?_
    have hf := Option.some.inj hf
    subst hf
    exact ret_i C Z dX8_count_53
  rw [if_neg hs1_1] at hf
  by_cases hs1_2 : x1 = 2
  · rw [if_pos hs1_2] at hf
    refine lv_tableIn (tgt := 54) hx hb dX8_count_1 (by rw [hs1_2]; decide) (by rw [hs1_2]; decide) (by rw [hs1_2]; first | done | rfl) (by decide) ?_
    refine lv_aload_n hx hb dX8_count_54 rfl (lv_at hl 0 rfl) ?_
    refine gM_0_8 C Z (fl_of C mw_825) dX8_count_55 (x := (u.1 2)) rfl ?_
    have hf := Option.some.inj hf
    subst hf
    exact ret_i C Z dX8_count_58
  rw [if_neg hs1_2] at hf
  by_cases hs1_3 : x1 = 3
  · rw [if_pos hs1_3] at hf
    refine lv_tableIn (tgt := 59) hx hb dX8_count_1 (by rw [hs1_3]; decide) (by rw [hs1_3]; decide) (by rw [hs1_3]; first | done | rfl) (by decide) ?_
    refine lv_aload_n hx hb dX8_count_59 rfl (lv_at hl 0 rfl) ?_
    refine gM_0_13 C Z (fl_of C mw_830) dX8_count_60 (x := (u.1 3)) rfl ?_
    have hf := Option.some.inj hf
    subst hf
    exact ret_i C Z dX8_count_63
  rw [if_neg hs1_3] at hf
  by_cases hs1_4 : x1 = 4
  · rw [if_pos hs1_4] at hf
    refine lv_tableIn (tgt := 64) hx hb dX8_count_1 (by rw [hs1_4]; decide) (by rw [hs1_4]; decide) (by rw [hs1_4]; first | done | rfl) (by decide) ?_
    refine lv_aload_n hx hb dX8_count_64 rfl (lv_at hl 0 rfl) ?_
    refine gM_0_15 C Z (fl_of C mw_832) dX8_count_65 (x := (u.1 4)) rfl ?_
    have hf := Option.some.inj hf
    subst hf
    exact ret_i C Z dX8_count_68
  rw [if_neg hs1_4] at hf
  by_cases hs1_5 : x1 = 5
  · rw [if_pos hs1_5] at hf
    refine lv_tableIn (tgt := 69) hx hb dX8_count_1 (by rw [hs1_5]; decide) (by rw [hs1_5]; decide) (by rw [hs1_5]; first | done | rfl) (by decide) ?_
    refine lv_aload_n hx hb dX8_count_69 rfl (lv_at hl 0 rfl) ?_
    refine gM_0_10 C Z (fl_of C mw_827) dX8_count_70 ?_
    refine lv_bipush (v := 46) hx hb dX8_count_73 (by decide +kernel) ?_
    refine r_ald C Z (aM_8 g _ (f := (u.2.1 7)) rfl) (by decide) (k := 46) (by decide) dX8_count_75 (x := ((u.2.1 7) 46)) rfl ?_
    have hf := Option.some.inj hf
    subst hf
    exact ret_i C Z dX8_count_76
  rw [if_neg hs1_5] at hf
  by_cases hs1_6 : x1 = 6
  · rw [if_pos hs1_6] at hf
    refine lv_tableIn (tgt := 77) hx hb dX8_count_1 (by rw [hs1_6]; decide) (by rw [hs1_6]; decide) (by rw [hs1_6]; first | done | rfl) (by decide) ?_
    refine lv_aload_n hx hb dX8_count_77 rfl (lv_at hl 0 rfl) ?_
    refine gM_0_19 C Z (fl_of C mw_836) dX8_count_78 (x := (u.1 5)) rfl ?_
    have hf := Option.some.inj hf
    subst hf
    exact ret_i C Z dX8_count_81
  rw [if_neg hs1_6] at hf
  have e1_0 := lv_neT (a := 0) hs1_0 (by decide)
  have e1_1 := lv_neT (a := 1) hs1_1 (by decide)
  have e1_2 := lv_neT (a := 2) hs1_2 (by decide)
  have e1_3 := lv_neT (a := 3) hs1_3 (by decide)
  have e1_4 := lv_neT (a := 4) hs1_4 (by decide)
  have e1_5 := lv_neT (a := 5) hs1_5 (by decide)
  have e1_6 := lv_neT (a := 6) hs1_6 (by decide)
  refine lv_tableOut (tgt := 82) hx hb dX8_count_1 (by omega) (by decide) ?_
  refine lv_iconst (v := (-1)) hx hb dX8_count_82 (by decide +kernel) ?_
  have hf := Option.some.inj hf
  subst hf
  exact ret_i C Z dX8_count_83
def f_X7_trace (u : St) : Option (Int64) :=
  some u.2.2
set_option maxHeartbeats 4000000 in
set_option maxRecDepth 100000 in
theorem c_X7_trace (l : Launch) {g : Gx} {u : St} {res : Int64} (hf : f_X7_trace u = some res) : CJ wC 82 l yX7_trace (wsY yX7_trace cX7_trace 1 (some .long)) (rmX 0 0) g [.ref (g.2.2 0)] u res u := by
  refine CJ_start (by decide +kernel) rfl (Nat.le_of_ble_eq_true rfl) (fun {p e s m args below meth c ls} C Z hl => ?_)
  have hl : lv_has ls 1 [(0, .ref (g.2.2 0))] := hl
  have hx := C.1
  have hb := C.2.1
  unfold f_X7_trace at hf
  refine lv_aload_n hx hb dX7_trace_0 rfl (lv_at hl 0 rfl) ?_
  refine gC_0_4 C Z (fl_of C mw_309) dX7_trace_1 ?_
  refine gC_58_0 C Z (fl_nest C nw_103) dX7_trace_4 (x := u.2.2) rfl ?_
  have hf := Option.some.inj hf
  subst hf
  exact ret_j C Z dX7_trace_7
def f_X8_trace (u : St) : Option (Int64) :=
  some u.2.2
set_option maxHeartbeats 4000000 in
set_option maxRecDepth 100000 in
theorem c_X8_trace (l : Launch) {g : Gx} {u : St} {res : Int64} (hf : f_X8_trace u = some res) : CJ wM 22 l yX8_trace (wsY yX8_trace cX8_trace 1 (some .long)) (rmX 0 0) g [.ref (g.2.2 0)] u res u := by
  refine CJ_start (by decide +kernel) rfl (Nat.le_of_ble_eq_true rfl) (fun {p e s m args below meth c ls} C Z hl => ?_)
  have hl : lv_has ls 1 [(0, .ref (g.2.2 0))] := hl
  have hx := C.1
  have hb := C.2.1
  unfold f_X8_trace at hf
  refine lv_aload_n hx hb dX8_trace_0 rfl (lv_at hl 0 rfl) ?_
  refine gM_0_17 C Z (fl_of C mw_834) dX8_trace_1 (x := u.2.2) rfl ?_
  have hf := Option.some.inj hf
  subst hf
  exact ret_j C Z dX8_trace_4
