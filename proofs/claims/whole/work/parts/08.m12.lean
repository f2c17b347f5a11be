def f_X7_isOne (u : St) (x1 : Int32) : Option (Int32) :=
  Option.bind (f_X7_isWithin x1 0 ((u.1 8) - 1)) fun r14 =>
  if nb r14 then some r14 else none
set_option maxHeartbeats 4000000 in
set_option maxRecDepth 100000 in
theorem c_X7_isOne (l : Launch) {g : Gx} {u : St} {x1 : Int32} {res : Int32} (hf : f_X7_isOne u x1 = some res) : CI wC 82 l yX7_isOne (wsY yX7_isOne cX7_isOne 2 (some .boolean)) (rmX 1 22) g [.ref (g.2.2 0), .int x1] u res u := by
  refine CI_start (by decide +kernel) rfl (Nat.le_of_ble_eq_true rfl) (fun {p e s m args below meth c ls} C Z hl => ?_)
  have hl : lv_has ls 2 [(0, .ref (g.2.2 0)), (1, .int x1)] := hl
  have hx := C.1
  have hb := C.2.1
  unfold f_X7_isOne at hf
  refine lv_iload_n hx hb dX7_isOne_0 rfl (lv_at hl 1 rfl) ?_
  refine lv_iconst (v := 0) hx hb dX7_isOne_1 (by decide +kernel) ?_
  refine lv_aload_n hx hb dX7_isOne_2 rfl (lv_at hl 0 rfl) ?_
  refine gC_0_2 C Z (fl_of C mw_307) dX7_isOne_3 ?_
  refine gC_23_0 C Z (fl_nest C nw_98) dX7_isOne_6 ?_
  refine gC_24_5 C Z (fl_nest C nw_83) dX7_isOne_9 (x := (u.1 8)) rfl ?_
  refine lv_iconst (v := 1) hx hb dX7_isOne_12 (by decide +kernel) ?_
  refine lv_isub hx hb dX7_isOne_13 ?_
  obtain ⟨r14, hr14, hf⟩ := Option.bind_eq_some_iff.mp hf
  refine call_si (As := [.int x1, .int 0, .int ((u.1 8) - 1)]) (rest := []) C Z (c_X7_isWithin l hr14) mf_X7_isWithin (ml_of C mw_331) rfl ⟨rfl, rfl, by decide, by decide⟩ rfl hl.1 (Nat.le_of_ble_eq_true rfl) dX7_isOne_14 (fun H locs Z => ?_)
  by_cases hn17 : nb r14 = true
  · rw [if_pos hn17] at hf
    have hf := Option.some.inj hf
    subst hf
    exact ret_z C Z hn17 dX7_isOne_17
  · rw [if_neg hn17] at hf
    cases hf
def f_X7_placeBy (x0 x1 x2 : Int32) : Option (Int32) :=
  some (x0 + (x2 * x1))
set_option maxHeartbeats 4000000 in
set_option maxRecDepth 100000 in
theorem c_X7_placeBy (l : Launch) {g : Gx} {u : St} {x0 x1 x2 : Int32} {res : Int32} (hf : f_X7_placeBy x0 x1 x2 = some res) : CI wC 82 l yX7_placeBy (wsY yX7_placeBy cX7_placeBy 3 (some .int)) (rmX 0 0) g [.int x0, .int x1, .int x2] u res u := by
  refine CI_start (by decide +kernel) rfl (Nat.le_of_ble_eq_true rfl) (fun {p e s m args below meth c ls} C Z hl => ?_)
  have hl : lv_has ls 3 [(0, .int x0), (1, .int x1), (2, .int x2)] := hl
  have hx := C.1
  have hb := C.2.1
  unfold f_X7_placeBy at hf
  refine lv_iload_n hx hb dX7_placeBy_0 rfl (lv_at hl 0 rfl) ?_
  refine lv_iload_n hx hb dX7_placeBy_1 rfl (lv_at hl 2 rfl) ?_
  refine lv_iload_n hx hb dX7_placeBy_2 rfl (lv_at hl 1 rfl) ?_
  refine lv_imul hx hb dX7_placeBy_3 ?_
  refine lv_iadd hx hb dX7_placeBy_4 ?_
  have hf := Option.some.inj hf
  subst hf
  exact ret_i C Z dX7_placeBy_5
def f_X1_cellOf (u : St) (x1 x2 : Int32) : Option (Int32) :=
  if oob x1 4 then none else
  Option.bind (f_X7_placeBy ((u.2.1 (22 + (Int32.toNatClampNeg x1))) 0) ((u.2.1 (22 + (Int32.toNatClampNeg x1))) 1) x2) fun r17 =>
  Option.bind (f_X7_isCell r17) fun r22 =>
  if r22 = 0 then
    some (-9)
  else
    some r17
set_option maxHeartbeats 4000000 in
set_option maxRecDepth 100000 in
theorem c_X1_cellOf (l : Launch) {g : Gx} {u : St} {x1 x2 : Int32} {res : Int32} (hf : f_X1_cellOf u x1 x2 = some res) : CI wC 82 l yX1_cellOf (wsY yX1_cellOf cX1_cellOf 4 (some .int)) (rmX 2 42) g [.ref (g.2.2 24), .int x1, .int x2] u res u := by
  refine CI_start (by decide +kernel) rfl (Nat.le_of_ble_eq_true rfl) (fun {p e s m args below meth c ls} C Z hl => ?_)
  have hl : lv_has ls 4 [(0, .ref (g.2.2 24)), (1, .int x1), (2, .int x2)] := hl
  have hx := C.1
  have hb := C.2.1
  unfold f_X1_cellOf at hf
  refine lv_aload_n hx hb dX1_cellOf_0 rfl (lv_at hl 0 rfl) ?_
  refine gC_24_2 C Z (fl_of C mw_166) dX1_cellOf_1 ?_
  refine lv_iload_n hx hb dX1_cellOf_4 rfl (lv_at hl 1 rfl) ?_
  by_cases ho5 : oob x1 4 = true
  · rw [if_pos ho5] at hf; cases hf
  rw [if_neg ho5] at hf
  refine r_aldr C Z (aC_32 g _) ho5 dX1_cellOf_5 (b := g.2.2 (33 + (Int32.toNatClampNeg x1))) rfl ?_
  refine lv_iconst (v := 0) hx hb dX1_cellOf_6 (by decide +kernel) ?_
  refine r_ald C Z (arC_32 g _ (oob_lt ho5) (f := (u.2.1 (22 + (Int32.toNatClampNeg x1)))) rfl) (by decide) (k := 0) (by decide) dX1_cellOf_7 (x := ((u.2.1 (22 + (Int32.toNatClampNeg x1))) 0)) rfl ?_
  refine lv_aload_n hx hb dX1_cellOf_8 rfl (lv_at hl 0 rfl) ?_
  refine gC_24_2 C Z (fl_of C mw_166) dX1_cellOf_9 ?_
  refine lv_iload_n hx hb dX1_cellOf_12 rfl (lv_at hl 1 rfl) ?_
  refine r_aldr C Z (aC_32 g _) ho5 dX1_cellOf_13 (b := g.2.2 (33 + (Int32.toNatClampNeg x1))) rfl ?_
  refine lv_iconst (v := 1) hx hb dX1_cellOf_14 (by decide +kernel) ?_
  refine r_ald C Z (arC_32 g _ (oob_lt ho5) (f := (u.2.1 (22 + (Int32.toNatClampNeg x1)))) rfl) (by decide) (k := 1) (by decide) dX1_cellOf_15 (x := ((u.2.1 (22 + (Int32.toNatClampNeg x1))) 1)) rfl ?_
  refine lv_iload_n hx hb dX1_cellOf_16 rfl (lv_at hl 2 rfl) ?_
  obtain ⟨r17, hr17, hf⟩ := Option.bind_eq_some_iff.mp hf
  refine call_si (As := [.int ((u.2.1 (22 + (Int32.toNatClampNeg x1))) 0), .int ((u.2.1 (22 + (Int32.toNatClampNeg x1))) 1), .int x2]) (rest := []) C Z (c_X7_placeBy l hr17) mf_X7_placeBy (ml_nest C nw_31) rfl ⟨rfl, rfl, by decide, by decide⟩ rfl hl.1 (Nat.le_of_ble_eq_true rfl) dX1_cellOf_17 (fun H locs Z => ?_)
  refine lv_istore_n (lv' := [(3, .int r17), (0, .ref (g.2.2 24)), (1, .int x1), (2, .int x2)]) hx hb dX1_cellOf_20 rfl hl (by decide) rfl (fun ls hl => ?_)
  refine lv_iload_n hx hb dX1_cellOf_21 rfl (lv_at hl 0 rfl) ?_
  obtain ⟨r22, hr22, hf⟩ := Option.bind_eq_some_iff.mp hf
  refine call_si (As := [.int r17]) (rest := []) C Z (c_X7_isCell l hr22) mf_X7_isCell (ml_nest C nw_32) rfl ⟨rfl, rfl, by decide, by decide⟩ rfl hl.1 (Nat.le_of_ble_eq_true rfl) dX1_cellOf_22 (fun H locs Z => ?_)
  refine lv_if_eq (tgt := 32) hx hb dX1_cellOf_25 (by decide) (fun hc25 => ?_) (fun hc25 => ?_)
  · rw [if_pos hc25] at hf
    refine lv_bipush (v := (-9)) hx hb dX1_cellOf_32 (by decide +kernel) ?_
    have hf := Option.some.inj hf
    subst hf
    exact ret_i C Z dX1_cellOf_34
  · rw [if_neg hc25] at hf
    refine lv_iload_n hx hb dX1_cellOf_28 rfl (lv_at hl 0 rfl) ?_
    refine lv_goto (tgt := 34) hx hb dX1_cellOf_29 (by decide) ?_
    have hf := Option.some.inj hf
    subst hf
    exact ret_i C Z dX1_cellOf_34
def f_X7_one (u : St) (x1 x2 : Int32) : Option (Int32) :=
  Option.bind (f_X7_isOne u x1) fun r2 =>
  if r2 = 0 then
    some (-1000000)
  else
    if x2 = 0 then
      if oob x1 4 then none else
      if oob x2 2 then none else
      some ((u.2.1 (22 + (Int32.toNatClampNeg x1))) (Int32.toNatClampNeg x2))
    else
    if x2 = 1 then
      if oob x1 4 then none else
      if oob x2 2 then none else
      some ((u.2.1 (22 + (Int32.toNatClampNeg x1))) (Int32.toNatClampNeg x2))
    else
    if x2 = 2 then
      Option.bind (f_X1_cellOf u x1 (u.1 10)) fun r73 =>
      some r73
    else
    some (-1000000)
set_option maxHeartbeats 4000000 in
set_option maxRecDepth 100000 in
theorem c_X7_one (l : Launch) {g : Gx} {u : St} {x1 x2 : Int32} {res : Int32} (hf : f_X7_one u x1 x2 = some res) : CI wC 82 l yX7_one (wsY yX7_one cX7_one 3 (some .int)) (rmX 3 65) g [.ref (g.2.2 0), .int x1, .int x2] u res u := by
  refine CI_start (by decide +kernel) rfl (Nat.le_of_ble_eq_true rfl) (fun {p e s m args below meth c ls} C Z hl => ?_)
  have hl : lv_has ls 3 [(0, .ref (g.2.2 0)), (1, .int x1), (2, .int x2)] := hl
  have hx := C.1
  have hb := C.2.1
  unfold f_X7_one at hf
  refine lv_aload_n hx hb dX7_one_0 rfl (lv_at hl 0 rfl) ?_
  refine lv_iload_n hx hb dX7_one_1 rfl (lv_at hl 1 rfl) ?_
  obtain ⟨r2, hr2, hf⟩ := Option.bind_eq_some_iff.mp hf
  refine call_vi (As := [.int x1]) (rest := []) C Z (c_X7_isOne l hr2) mf_X7_isOne (ml_of C mw_498) rfl (oC_0 g _) rfl ⟨rfl, rfl, by decide, by decide⟩ rfl hl.1 (Nat.le_of_ble_eq_true rfl) dX7_one_2 (fun H locs Z => ?_)
  refine lv_if_ne (tgt := 11) hx hb dX7_one_5 (by decide) (fun hc5 => ?_) (fun hc5 => ?_)
  · rw [if_neg hc5] at hf
    refine lv_iload_n hx hb dX7_one_11 rfl (lv_at hl 2 rfl) ?_
    by_cases hs12_0 : x2 = 0
    · rw [if_pos hs12_0] at hf
      refine lv_tableIn (tgt := 40) hx hb dX7_one_12 (by rw [hs12_0]; decide) (by rw [hs12_0]; decide) (by rw [hs12_0]; first | done | rfl) (by decide) ?_
      refine lv_aload_n hx hb dX7_one_40 rfl (lv_at hl 0 rfl) ?_
      refine gC_0_2 C Z (fl_of C mw_307) dX7_one_41 ?_
      refine gC_23_0 C Z (fl_nest C nw_98) dX7_one_44 ?_
      refine gC_24_2 C Z (fl_nest C nw_77) dX7_one_47 ?_
      refine lv_iload_n hx hb dX7_one_50 rfl (lv_at hl 1 rfl) ?_
      by_cases ho51 : oob x1 4 = true
      · rw [if_pos ho51] at hf; cases hf
      rw [if_neg ho51] at hf
      refine r_aldr C Z (aC_32 g _) ho51 dX7_one_51 (b := g.2.2 (33 + (Int32.toNatClampNeg x1))) rfl ?_
      refine lv_iload_n hx hb dX7_one_52 rfl (lv_at hl 2 rfl) ?_
      by_cases ho53 : oob x2 2 = true
      · rw [if_pos ho53] at hf; cases hf
      rw [if_neg ho53] at hf
      refine r_ald C Z (arC_32 g _ (oob_lt ho51) (f := (u.2.1 (22 + (Int32.toNatClampNeg x1)))) rfl) ho53 rfl dX7_one_53 (x := ((u.2.1 (22 + (Int32.toNatClampNeg x1))) (Int32.toNatClampNeg x2))) rfl ?_
      have hf := Option.some.inj hf
      subst hf
      exact ret_i C Z dX7_one_54
    rw [if_neg hs12_0] at hf
    by_cases hs12_1 : x2 = 1
    · rw [if_pos hs12_1] at hf
      refine lv_tableIn (tgt := 40) hx hb dX7_one_12 (by rw [hs12_1]; decide) (by rw [hs12_1]; decide) (by rw [hs12_1]; first | done | rfl) (by decide) ?_
      refine lv_aload_n hx hb dX7_one_40 rfl (lv_at hl 0 rfl) ?_
      refine gC_0_2 C Z (fl_of C mw_307) dX7_one_41 ?_
      refine gC_23_0 C Z (fl_nest C nw_98) dX7_one_44 ?_
      refine gC_24_2 C Z (fl_nest C nw_77) dX7_one_47 ?_
      refine lv_iload_n hx hb dX7_one_50 rfl (lv_at hl 1 rfl) ?_
      by_cases ho51 : oob x1 4 = true
      · rw [if_pos ho51] at hf; cases hf
      rw [if_neg ho51] at hf
      refine r_aldr C Z (aC_32 g _) ho51 dX7_one_51 (b := g.2.2 (33 + (Int32.toNatClampNeg x1))) rfl ?_
      refine lv_iload_n hx hb dX7_one_52 rfl (lv_at hl 2 rfl) ?_
      by_cases ho53 : oob x2 2 = true
      · rw [if_pos ho53] at hf; cases hf
      rw [if_neg ho53] at hf
      refine r_ald C Z (arC_32 g _ (oob_lt ho51) (f := (u.2.1 (22 + (Int32.toNatClampNeg x1)))) rfl) ho53 rfl dX7_one_53 (x := ((u.2.1 (22 + (Int32.toNatClampNeg x1))) (Int32.toNatClampNeg x2))) rfl ?_
      have hf := Option.some.inj hf
      subst hf
      exact ret_i C Z dX7_one_54
    rw [if_neg hs12_1] at hf
    by_cases hs12_2 : x2 = 2
    · rw [if_pos hs12_2] at hf
      refine lv_tableIn (tgt := 55) hx hb dX7_one_12 (by rw [hs12_2]; decide) (by rw [hs12_2]; decide) (by rw [hs12_2]; first | done | rfl) (by decide) ?_
      refine lv_aload_n hx hb dX7_one_55 rfl (lv_at hl 0 rfl) ?_
      refine gC_0_2 C Z (fl_of C mw_307) dX7_one_56 ?_
      refine gC_23_0 C Z (fl_nest C nw_98) dX7_one_59 ?_
      refine lv_iload_n hx hb dX7_one_62 rfl (lv_at hl 1 rfl) ?_
      refine lv_aload_n hx hb dX7_one_63 rfl (lv_at hl 0 rfl) ?_
      refine gC_0_2 C Z (fl_of C mw_307) dX7_one_64 ?_
      refine gC_23_1 C Z (fl_nest C nw_100) dX7_one_67 ?_
      refine gC_42_0 C Z (fl_nest C nw_87) dX7_one_70 (x := (u.1 10)) rfl ?_
      obtain ⟨r73, hr73, hf⟩ := Option.bind_eq_some_iff.mp hf
      refine call_vi (As := [.int x1, .int (u.1 10)]) (rest := []) C Z (c_X1_cellOf l hr73) mf_X1_cellOf (ml_nest C nw_30) rfl (oC_24 g _) rfl ⟨rfl, rfl, by decide, by decide⟩ rfl hl.1 (Nat.le_of_ble_eq_true rfl) dX7_one_73 (fun H locs Z => ?_)
      have hf := Option.some.inj hf
      subst hf
      exact ret_i C Z dX7_one_76
    rw [if_neg hs12_2] at hf
    have e12_0 := lv_neT (a := 0) hs12_0 (by decide)
    have e12_1 := lv_neT (a := 1) hs12_1 (by decide)
    have e12_2 := lv_neT (a := 2) hs12_2 (by decide)
    refine lv_tableOut (tgt := 77) hx hb dX7_one_12 (by omega) (by decide) ?_
    refine lv_ldc (v := (-1000000)) hx hb C.2.2.2.1 (C.2.2.2.2.1 _ mw_502) dX7_one_77 ?_
    have hf := Option.some.inj hf
    subst hf
    exact ret_i C Z dX7_one_79
  · rw [if_pos hc5] at hf
    refine lv_ldc (v := (-1000000)) hx hb C.2.2.2.1 (C.2.2.2.2.1 _ mw_502) dX7_one_8 ?_
    have hf := Option.some.inj hf
    subst hf
    exact ret_i C Z dX7_one_10
def f_X8_isOne (u : St) (x1 : Int32) : Option (Int32) :=
  Option.bind (f_X8_in x1 0 ((u.1 1) - 1)) fun r8 =>
  if nb r8 then some r8 else none
set_option maxHeartbeats 4000000 in
set_option maxRecDepth 100000 in
theorem c_X8_isOne (l : Launch) {g : Gx} {u : St} {x1 : Int32} {res : Int32} (hf : f_X8_isOne u x1 = some res) : CI wM 22 l yX8_isOne (wsY yX8_isOne cX8_isOne 2 (some .boolean)) (rmX 1 22) g [.ref (g.2.2 0), .int x1] u res u := by
  refine CI_start (by decide +kernel) rfl (Nat.le_of_ble_eq_true rfl) (fun {p e s m args below meth c ls} C Z hl => ?_)
  have hl : lv_has ls 2 [(0, .ref (g.2.2 0)), (1, .int x1)] := hl
  have hx := C.1
  have hb := C.2.1
  unfold f_X8_isOne at hf
  refine lv_iload_n hx hb dX8_isOne_0 rfl (lv_at hl 1 rfl) ?_
  refine lv_iconst (v := 0) hx hb dX8_isOne_1 (by decide +kernel) ?_
  refine lv_aload_n hx hb dX8_isOne_2 rfl (lv_at hl 0 rfl) ?_
  refine gM_0_5 C Z (fl_of C mw_822) dX8_isOne_3 (x := (u.1 1)) rfl ?_
  refine lv_iconst (v := 1) hx hb dX8_isOne_6 (by decide +kernel) ?_
  refine lv_isub hx hb dX8_isOne_7 ?_
  obtain ⟨r8, hr8, hf⟩ := Option.bind_eq_some_iff.mp hf
  refine call_si (As := [.int x1, .int 0, .int ((u.1 1) - 1)]) (rest := []) C Z (c_X8_in l hr8) mf_X8_in (ml_of C mw_934) rfl ⟨rfl, rfl, by decide, by decide⟩ rfl hl.1 (Nat.le_of_ble_eq_true rfl) dX8_isOne_8 (fun H locs Z => ?_)
  by_cases hn11 : nb r8 = true
  · rw [if_pos hn11] at hf
    have hf := Option.some.inj hf
    subst hf
    exact ret_z C Z hn11 dX8_isOne_11
  · rw [if_neg hn11] at hf
    cases hf
def f_X8_walks (u : St) (x1 x2 : Int32) : Option (Int32) :=
  if oob x1 4 then none else
  Option.bind (f_X8_isCell (((u.2.1 4) (Int32.toNatClampNeg x1)) + (x2 * ((u.2.1 5) (Int32.toNatClampNeg x1))))) fun r17 =>
  if r17 = 0 then
    some (-9)
  else
    some (((u.2.1 4) (Int32.toNatClampNeg x1)) + (x2 * ((u.2.1 5) (Int32.toNatClampNeg x1))))
set_option maxHeartbeats 4000000 in
set_option maxRecDepth 100000 in
theorem c_X8_walks (l : Launch) {g : Gx} {u : St} {x1 x2 : Int32} {res : Int32} (hf : f_X8_walks u x1 x2 = some res) : CI wM 22 l yX8_walks (wsY yX8_walks cX8_walks 4 (some .int)) (rmX 2 42) g [.ref (g.2.2 0), .int x1, .int x2] u res u := by
  refine CI_start (by decide +kernel) rfl (Nat.le_of_ble_eq_true rfl) (fun {p e s m args below meth c ls} C Z hl => ?_)
  have hl : lv_has ls 4 [(0, .ref (g.2.2 0)), (1, .int x1), (2, .int x2)] := hl
  have hx := C.1
  have hb := C.2.1
  unfold f_X8_walks at hf
  refine lv_aload_n hx hb dX8_walks_0 rfl (lv_at hl 0 rfl) ?_
  refine gM_0_6 C Z (fl_of C mw_823) dX8_walks_1 ?_
  refine lv_iload_n hx hb dX8_walks_4 rfl (lv_at hl 1 rfl) ?_
  by_cases ho5 : oob x1 4 = true
  · rw [if_pos ho5] at hf; cases hf
  rw [if_neg ho5] at hf
  refine r_ald C Z (aM_5 g _ (f := (u.2.1 4)) rfl) ho5 rfl dX8_walks_5 (x := ((u.2.1 4) (Int32.toNatClampNeg x1))) rfl ?_
  refine lv_iload_n hx hb dX8_walks_6 rfl (lv_at hl 2 rfl) ?_
  refine lv_aload_n hx hb dX8_walks_7 rfl (lv_at hl 0 rfl) ?_
  refine gM_0_7 C Z (fl_of C mw_824) dX8_walks_8 ?_
  refine lv_iload_n hx hb dX8_walks_11 rfl (lv_at hl 1 rfl) ?_
  refine r_ald C Z (aM_6 g _ (f := (u.2.1 5)) rfl) ho5 rfl dX8_walks_12 (x := ((u.2.1 5) (Int32.toNatClampNeg x1))) rfl ?_
  refine lv_imul hx hb dX8_walks_13 ?_
  refine lv_iadd hx hb dX8_walks_14 ?_
  refine lv_istore_n (lv' := [(3, .int (((u.2.1 4) (Int32.toNatClampNeg x1)) + (x2 * ((u.2.1 5) (Int32.toNatClampNeg x1))))), (0, .ref (g.2.2 0)), (1, .int x1), (2, .int x2)]) hx hb dX8_walks_15 rfl hl (by decide) rfl (fun ls hl => ?_)
  refine lv_iload_n hx hb dX8_walks_16 rfl (lv_at hl 0 rfl) ?_
  obtain ⟨r17, hr17, hf⟩ := Option.bind_eq_some_iff.mp hf
  refine call_si (As := [.int (((u.2.1 4) (Int32.toNatClampNeg x1)) + (x2 * ((u.2.1 5) (Int32.toNatClampNeg x1))))]) (rest := []) C Z (c_X8_isCell l hr17) mf_X8_isCell (ml_of C mw_999) rfl ⟨rfl, rfl, by decide, by decide⟩ rfl hl.1 (Nat.le_of_ble_eq_true rfl) dX8_walks_17 (fun H locs Z => ?_)
  refine lv_if_eq (tgt := 27) hx hb dX8_walks_20 (by decide) (fun hc20 => ?_) (fun hc20 => ?_)
  · rw [if_pos hc20] at hf
    refine lv_bipush (v := (-9)) hx hb dX8_walks_27 (by decide +kernel) ?_
    have hf := Option.some.inj hf
    subst hf
    exact ret_i C Z dX8_walks_29
  · rw [if_neg hc20] at hf
    refine lv_iload_n hx hb dX8_walks_23 rfl (lv_at hl 0 rfl) ?_
    refine lv_goto (tgt := 29) hx hb dX8_walks_24 (by decide) ?_
    have hf := Option.some.inj hf
    subst hf
    exact ret_i C Z dX8_walks_29
def f_X8_one (u : St) (x1 x2 : Int32) : Option (Int32) :=
  Option.bind (f_X8_isOne u x1) fun r2 =>
  if r2 = 0 then
    some (-1000000)
  else
    if x2 = 0 then
      if oob x1 4 then none else
      some ((u.2.1 4) (Int32.toNatClampNeg x1))
    else
      if x2 = 1 then
        if oob x1 4 then none else
        some ((u.2.1 5) (Int32.toNatClampNeg x1))
      else
        if x2 = 2 then
          Option.bind (f_X8_walks u x1 ((u.2.1 7) 0)) fun r51 =>
          some r51
        else
          some (-1000000)
set_option maxHeartbeats 4000000 in
set_option maxRecDepth 100000 in
theorem c_X8_one (l : Launch) {g : Gx} {u : St} {x1 x2 : Int32} {res : Int32} (hf : f_X8_one u x1 x2 = some res) : CI wM 22 l yX8_one (wsY yX8_one cX8_one 3 (some .int)) (rmX 3 65) g [.ref (g.2.2 0), .int x1, .int x2] u res u := by
  refine CI_start (by decide +kernel) rfl (Nat.le_of_ble_eq_true rfl) (fun {p e s m args below meth c ls} C Z hl => ?_)
  have hl : lv_has ls 3 [(0, .ref (g.2.2 0)), (1, .int x1), (2, .int x2)] := hl
  have hx := C.1
  have hb := C.2.1
  unfold f_X8_one at hf
  refine lv_aload_n hx hb dX8_one_0 rfl (lv_at hl 0 rfl) ?_
  refine lv_iload_n hx hb dX8_one_1 rfl (lv_at hl 1 rfl) ?_
  obtain ⟨r2, hr2, hf⟩ := Option.bind_eq_some_iff.mp hf
  refine call_vi (As := [.int x1]) (rest := []) C Z (c_X8_isOne l hr2) mf_X8_isOne (ml_of C mw_1039) rfl (oM_0 g _) rfl ⟨rfl, rfl, by decide, by decide⟩ rfl hl.1 (Nat.le_of_ble_eq_true rfl) dX8_one_2 (fun H locs Z => ?_)
  refine lv_if_ne (tgt := 11) hx hb dX8_one_5 (by decide) (fun hc5 => ?_) (fun hc5 => ?_)
  · rw [if_neg hc5] at hf
    refine lv_iload_n hx hb dX8_one_11 rfl (lv_at hl 2 rfl) ?_
    refine lv_if_ne (tgt := 24) hx hb dX8_one_12 (by decide) (fun hc12 => ?_) (fun hc12 => ?_)
    · rw [if_neg hc12] at hf
      refine lv_iload_n hx hb dX8_one_24 rfl (lv_at hl 2 rfl) ?_
      refine lv_iconst (v := 1) hx hb dX8_one_25 (by decide +kernel) ?_
      refine lv_icmp_ne (tgt := 38) hx hb dX8_one_26 (by decide) (fun hc26 => ?_) (fun hc26 => ?_)
      · rw [if_neg hc26] at hf
        refine lv_iload_n hx hb dX8_one_38 rfl (lv_at hl 2 rfl) ?_
        refine lv_iconst (v := 2) hx hb dX8_one_39 (by decide +kernel) ?_
        refine lv_icmp_ne (tgt := 57) hx hb dX8_one_40 (by decide) (fun hc40 => ?_) (fun hc40 => ?_)
        · rw [if_neg hc40] at hf
          refine lv_ldc (v := (-1000000)) hx hb C.2.2.2.1 (C.2.2.2.2.1 _ mw_1043) dX8_one_57 ?_
          have hf := Option.some.inj hf
          subst hf
          exact ret_i C Z dX8_one_59
        · rw [if_pos hc40] at hf
          refine lv_aload_n hx hb dX8_one_43 rfl (lv_at hl 0 rfl) ?_
          refine lv_iload_n hx hb dX8_one_44 rfl (lv_at hl 1 rfl) ?_
          refine lv_aload_n hx hb dX8_one_45 rfl (lv_at hl 0 rfl) ?_
          refine gM_0_10 C Z (fl_of C mw_827) dX8_one_46 ?_
          refine lv_iconst (v := 0) hx hb dX8_one_49 (by decide +kernel) ?_
          refine r_ald C Z (aM_8 g _ (f := (u.2.1 7)) rfl) (by decide) (k := 0) (by decide) dX8_one_50 (x := ((u.2.1 7) 0)) rfl ?_
          obtain ⟨r51, hr51, hf⟩ := Option.bind_eq_some_iff.mp hf
          refine call_vi (As := [.int x1, .int ((u.2.1 7) 0)]) (rest := []) C Z (c_X8_walks l hr51) mf_X8_walks (ml_of C mw_1044) rfl (oM_0 g _) rfl ⟨rfl, rfl, by decide, by decide⟩ rfl hl.1 (Nat.le_of_ble_eq_true rfl) dX8_one_51 (fun H locs Z => ?_)
          refine lv_goto (tgt := 59) hx hb dX8_one_54 (by decide) ?_
          have hf := Option.some.inj hf
          subst hf
          exact ret_i C Z dX8_one_59
      · rw [if_pos hc26] at hf
        refine lv_aload_n hx hb dX8_one_29 rfl (lv_at hl 0 rfl) ?_
        refine gM_0_7 C Z (fl_of C mw_824) dX8_one_30 ?_
        refine lv_iload_n hx hb dX8_one_33 rfl (lv_at hl 1 rfl) ?_
        by_cases ho34 : oob x1 4 = true
        · rw [if_pos ho34] at hf; cases hf
        rw [if_neg ho34] at hf
        refine r_ald C Z (aM_6 g _ (f := (u.2.1 5)) rfl) ho34 rfl dX8_one_34 (x := ((u.2.1 5) (Int32.toNatClampNeg x1))) rfl ?_
        refine lv_goto (tgt := 59) hx hb dX8_one_35 (by decide) ?_
        have hf := Option.some.inj hf
        subst hf
        exact ret_i C Z dX8_one_59
    · rw [if_pos hc12] at hf
      refine lv_aload_n hx hb dX8_one_15 rfl (lv_at hl 0 rfl) ?_
      refine gM_0_6 C Z (fl_of C mw_823) dX8_one_16 ?_
      refine lv_iload_n hx hb dX8_one_19 rfl (lv_at hl 1 rfl) ?_
      by_cases ho20 : oob x1 4 = true
      · rw [if_pos ho20] at hf; cases hf
      rw [if_neg ho20] at hf
      refine r_ald C Z (aM_5 g _ (f := (u.2.1 4)) rfl) ho20 rfl dX8_one_20 (x := ((u.2.1 4) (Int32.toNatClampNeg x1))) rfl ?_
      refine lv_goto (tgt := 59) hx hb dX8_one_21 (by decide) ?_
      have hf := Option.some.inj hf
      subst hf
      exact ret_i C Z dX8_one_59
  · rw [if_pos hc5] at hf
    refine lv_ldc (v := (-1000000)) hx hb C.2.2.2.1 (C.2.2.2.2.1 _ mw_1043) dX8_one_8 ?_
    have hf := Option.some.inj hf
    subst hf
    exact ret_i C Z dX8_one_10
def f_X7_saw (u : St) (x1 x2 : Int32) : Option (Int32) :=
  Option.bind (f_X7_isCock u x1) fun r2 =>
  if r2 = 0 then
    some (-1)
  else
    Option.bind (f_X7_isOne u x2) fun r10 =>
    if r10 = 0 then
      some (-1)
    else
      if oob x1 5 then none else
      if oob x2 4 then none else
      some ((u.2.1 (31 + (Int32.toNatClampNeg x1))) (Int32.toNatClampNeg x2))
set_option maxHeartbeats 4000000 in
set_option maxRecDepth 100000 in
theorem c_X7_saw (l : Launch) {g : Gx} {u : St} {x1 x2 : Int32} {res : Int32} (hf : f_X7_saw u x1 x2 = some res) : CI wC 82 l yX7_saw (wsY yX7_saw cX7_saw 3 (some .int)) (rmX 2 43) g [.ref (g.2.2 0), .int x1, .int x2] u res u := by
  refine CI_start (by decide +kernel) rfl (Nat.le_of_ble_eq_true rfl) (fun {p e s m args below meth c ls} C Z hl => ?_)
  have hl : lv_has ls 3 [(0, .ref (g.2.2 0)), (1, .int x1), (2, .int x2)] := hl
  have hx := C.1
  have hb := C.2.1
  unfold f_X7_saw at hf
  refine lv_aload_n hx hb dX7_saw_0 rfl (lv_at hl 0 rfl) ?_
  refine lv_iload_n hx hb dX7_saw_1 rfl (lv_at hl 1 rfl) ?_
  obtain ⟨r2, hr2, hf⟩ := Option.bind_eq_some_iff.mp hf
  refine call_vi (As := [.int x1]) (rest := []) C Z (c_X7_isCock l hr2) mf_X7_isCock (ml_of C mw_462) rfl (oC_0 g _) rfl ⟨rfl, rfl, by decide, by decide⟩ rfl hl.1 (Nat.le_of_ble_eq_true rfl) dX7_saw_2 (fun H locs Z => ?_)
  refine lv_if_eq (tgt := 33) hx hb dX7_saw_5 (by decide) (fun hc5 => ?_) (fun hc5 => ?_)
  · rw [if_pos hc5] at hf
    refine lv_iconst (v := (-1)) hx hb dX7_saw_33 (by decide +kernel) ?_
    have hf := Option.some.inj hf
    subst hf
    exact ret_i C Z dX7_saw_34
  · rw [if_neg hc5] at hf
    refine lv_aload_n hx hb dX7_saw_8 rfl (lv_at hl 0 rfl) ?_
    refine lv_iload_n hx hb dX7_saw_9 rfl (lv_at hl 2 rfl) ?_
    obtain ⟨r10, hr10, hf⟩ := Option.bind_eq_some_iff.mp hf
    refine call_vi (As := [.int x2]) (rest := []) C Z (c_X7_isOne l hr10) mf_X7_isOne (ml_of C mw_498) rfl (oC_0 g _) rfl ⟨rfl, rfl, by decide, by decide⟩ rfl hl.1 (Nat.le_of_ble_eq_true rfl) dX7_saw_10 (fun H locs Z => ?_)
    refine lv_if_eq (tgt := 33) hx hb dX7_saw_13 (by decide) (fun hc13 => ?_) (fun hc13 => ?_)
    · rw [if_pos hc13] at hf
      refine lv_iconst (v := (-1)) hx hb dX7_saw_33 (by decide +kernel) ?_
      have hf := Option.some.inj hf
      subst hf
      exact ret_i C Z dX7_saw_34
    · rw [if_neg hc13] at hf
      refine lv_aload_n hx hb dX7_saw_16 rfl (lv_at hl 0 rfl) ?_
      refine gC_0_2 C Z (fl_of C mw_307) dX7_saw_17 ?_
      refine gC_23_1 C Z (fl_nest C nw_100) dX7_saw_20 ?_
      refine gC_42_3 C Z (fl_nest C nw_94) dX7_saw_23 ?_
      refine lv_iload_n hx hb dX7_saw_26 rfl (lv_at hl 1 rfl) ?_
      by_cases ho27 : oob x1 5 = true
      · rw [if_pos ho27] at hf; cases hf
      rw [if_neg ho27] at hf
      refine r_aldr C Z (aC_44 g _) ho27 dX7_saw_27 (b := g.2.2 (45 + (Int32.toNatClampNeg x1))) rfl ?_
      refine lv_iload_n hx hb dX7_saw_28 rfl (lv_at hl 2 rfl) ?_
      by_cases ho29 : oob x2 4 = true
      · rw [if_pos ho29] at hf; cases hf
      rw [if_neg ho29] at hf
      refine r_ald C Z (arC_44 g _ (oob_lt ho27) (f := (u.2.1 (31 + (Int32.toNatClampNeg x1)))) rfl) ho29 rfl dX7_saw_29 (x := ((u.2.1 (31 + (Int32.toNatClampNeg x1))) (Int32.toNatClampNeg x2))) rfl ?_
      refine lv_goto (tgt := 34) hx hb dX7_saw_30 (by decide) ?_
      have hf := Option.some.inj hf
      subst hf
      exact ret_i C Z dX7_saw_34
