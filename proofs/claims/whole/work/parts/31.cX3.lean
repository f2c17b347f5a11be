def kX3 (g : Gx) : va_W := [(g.2.2 0, .inr (3, [.int 0, .int 0, .ref (g.2.2 1), .ref (g.2.2 2), .ref (g.2.2 8), .ref (g.2.2 9), .ref (g.2.2 10), .int 0])),
  (g.2.2 1, .inl (g.2.1.1, 24, .inl (fun _ => 0))),
  (g.2.2 2, .inl (g.2.1.2.1, 5, .inr (.inr (.inr (.inr (fun i => some (g.2.2 (3 + i)))))))),
  (g.2.2 3, .inl (g.2.1.1, 4, .inl (fun _ => 0))),
  (g.2.2 4, .inl (g.2.1.1, 4, .inl (fun _ => 0))),
  (g.2.2 5, .inl (g.2.1.1, 4, .inl (fun _ => 0))),
  (g.2.2 6, .inl (g.2.1.1, 4, .inl (fun _ => 0))),
  (g.2.2 7, .inl (g.2.1.1, 4, .inl (fun _ => 0))),
  (g.2.2 8, .inl (g.2.1.1, 10, .inl (fun _ => 0))),
  (g.2.2 9, .inl (g.2.1.1, 10, .inl (fun _ => 0))),
  (g.2.2 10, .inl (g.2.1.1, 10, .inl (fun _ => 0)))]
theorem mi_X3 : MFi yX3_init cX3_init 1 := ⟨mw_215, mw_214, mw_103, ⟨by decide +kernel, by decide +kernel⟩, by decide +kernel, rfl⟩
set_option maxHeartbeats 8000000 in
set_option maxRecDepth 100000 in
theorem n_X3 (l : Launch) {g : Gx} : CN l yX3_init (wsY yX3_init cX3_init 1 none) { frames := 1, cells := 10, slots := 79, locals := 12 } g (.inr (3, [.int 0, .int 0, .null, .null, .null, .null, .null, .int 0])) kX3 10 79 := by
  refine CN_start (by decide +kernel) rfl rfl (fun {p e s m args below meth c ls h0} C hA Z hl => ?_)
  have hx := C.1
  have hb := C.2.1
  refine lv_aload_n hx hb dX3_init_0 rfl (lv_at hl 0 rfl) ?_
  refine k_obj C mw_216 ⟨mw_117, mw_118⟩ hl.1 dX3_init_1 (Nat.le_of_ble_eq_true rfl) (Nat.le_of_ble_eq_true rfl) ?_
  refine lv_aload_n hx hb dX3_init_4 rfl (lv_at hl 0 rfl) ?_
  refine lv_bipush (v := 24) hx hb dX3_init_5 (by decide +kernel) ?_
  refine k_newi C hA Z mw_144 (by decide +kernel) (N := 24) (by decide +kernel) (Nat.le_of_ble_eq_true rfl) (Nat.le_of_ble_eq_true rfl) (Nat.le_of_ble_eq_true rfl) dX3_init_7 (fun q7 H Z => ?_)
  have Z : ZK g (Ak h0 s.heap.size) s H _ ((h0, .inr (3, [.int 0, .int 0, .null, .null, .null, .null, .null, .int 0])) :: ([(q7, .inl (g.2.1.1, 24, .inl (fun _ => 0)))] : va_W)) := Z
  refine k_putF C Z (T := TX3) inlX3 tyX3 tyX3_ok nmX3 rfl (k := 2) (by decide) mw_225 rfl rfl (ty := tyX3 2) (tyX3_ok 2 (by decide)) rfl rfl (Nat.le_of_ble_eq_true rfl) rfl dX3_init_9 (fun H locs Z => ?_)
  have Z : ZK g (Ak h0 s.heap.size) s H _ ((h0, .inr (3, [.int 0, .int 0, .ref q7, .null, .null, .null, .null, .int 0])) :: ([(q7, .inl (g.2.1.1, 24, .inl (fun _ => 0)))] : va_W)) := Z
  refine lv_aload_n hx hb dX3_init_12 rfl (lv_at hl 0 rfl) ?_
  refine lv_iconst (v := 5) hx hb dX3_init_13 (by decide +kernel) ?_
  refine lv_iconst (v := 4) hx hb dX3_init_14 (by decide +kernel) ?_
  refine k_mna C hA Z ⟨mw_217, mw_144⟩ (by decide) (by decide) (N := 5) (K := 4) (by decide) (by decide) (by decide) (by decide) (Nat.le_of_ble_eq_true rfl) (Nat.le_of_ble_eq_true rfl) dX3_init_15 (fun q15 r15 H Z => ?_)
  have Z : ZK g (Ak h0 s.heap.size) s H _ ((h0, .inr (3, [.int 0, .int 0, .ref q7, .null, .null, .null, .null, .int 0])) :: ((([] : va_W) ++ [(q7, .inl (g.2.1.1, 24, .inl (fun _ => 0)))]) ++ ((q15, .inl (g.2.1.2.1, 5, .inr (.inr (.inr (.inr (fun i => some (r15 i))))))) :: rowsK g 5 4 r15))) := Z
  refine k_putF C Z (T := TX3) inlX3 tyX3 tyX3_ok nmX3 rfl (k := 3) (by decide) mw_228 rfl rfl (ty := tyX3 3) (tyX3_ok 3 (by decide)) rfl rfl (Nat.le_of_ble_eq_true rfl) rfl dX3_init_19 (fun H locs Z => ?_)
  have Z : ZK g (Ak h0 s.heap.size) s H _ ((h0, .inr (3, [.int 0, .int 0, .ref q7, .ref q15, .null, .null, .null, .int 0])) :: ((([] : va_W) ++ [(q7, .inl (g.2.1.1, 24, .inl (fun _ => 0)))]) ++ ((q15, .inl (g.2.1.2.1, 5, .inr (.inr (.inr (.inr (fun i => some (r15 i))))))) :: rowsK g 5 4 r15))) := Z
  refine lv_aload_n hx hb dX3_init_22 rfl (lv_at hl 0 rfl) ?_
  refine lv_bipush (v := 10) hx hb dX3_init_23 (by decide +kernel) ?_
  refine k_newi C hA Z mw_144 (by decide +kernel) (N := 10) (by decide +kernel) (Nat.le_of_ble_eq_true rfl) (Nat.le_of_ble_eq_true rfl) (Nat.le_of_ble_eq_true rfl) dX3_init_25 (fun q25 H Z => ?_)
  have Z : ZK g (Ak h0 s.heap.size) s H _ ((h0, .inr (3, [.int 0, .int 0, .ref q7, .ref q15, .null, .null, .null, .int 0])) :: (((([] : va_W) ++ [(q7, .inl (g.2.1.1, 24, .inl (fun _ => 0)))]) ++ ((q15, .inl (g.2.1.2.1, 5, .inr (.inr (.inr (.inr (fun i => some (r15 i))))))) :: rowsK g 5 4 r15)) ++ [(q25, .inl (g.2.1.1, 10, .inl (fun _ => 0)))])) := Z
  refine k_putF C Z (T := TX3) inlX3 tyX3 tyX3_ok nmX3 rfl (k := 4) (by decide) mw_231 rfl rfl (ty := tyX3 4) (tyX3_ok 4 (by decide)) rfl rfl (Nat.le_of_ble_eq_true rfl) rfl dX3_init_27 (fun H locs Z => ?_)
  have Z : ZK g (Ak h0 s.heap.size) s H _ ((h0, .inr (3, [.int 0, .int 0, .ref q7, .ref q15, .ref q25, .null, .null, .int 0])) :: (((([] : va_W) ++ [(q7, .inl (g.2.1.1, 24, .inl (fun _ => 0)))]) ++ ((q15, .inl (g.2.1.2.1, 5, .inr (.inr (.inr (.inr (fun i => some (r15 i))))))) :: rowsK g 5 4 r15)) ++ [(q25, .inl (g.2.1.1, 10, .inl (fun _ => 0)))])) := Z
  refine lv_aload_n hx hb dX3_init_30 rfl (lv_at hl 0 rfl) ?_
  refine lv_bipush (v := 10) hx hb dX3_init_31 (by decide +kernel) ?_
  refine k_newi C hA Z mw_144 (by decide +kernel) (N := 10) (by decide +kernel) (Nat.le_of_ble_eq_true rfl) (Nat.le_of_ble_eq_true rfl) (Nat.le_of_ble_eq_true rfl) dX3_init_33 (fun q33 H Z => ?_)
  have Z : ZK g (Ak h0 s.heap.size) s H _ ((h0, .inr (3, [.int 0, .int 0, .ref q7, .ref q15, .ref q25, .null, .null, .int 0])) :: ((((([] : va_W) ++ [(q7, .inl (g.2.1.1, 24, .inl (fun _ => 0)))]) ++ ((q15, .inl (g.2.1.2.1, 5, .inr (.inr (.inr (.inr (fun i => some (r15 i))))))) :: rowsK g 5 4 r15)) ++ [(q25, .inl (g.2.1.1, 10, .inl (fun _ => 0)))]) ++ [(q33, .inl (g.2.1.1, 10, .inl (fun _ => 0)))])) := Z
  refine k_putF C Z (T := TX3) inlX3 tyX3 tyX3_ok nmX3 rfl (k := 5) (by decide) mw_232 rfl rfl (ty := tyX3 5) (tyX3_ok 5 (by decide)) rfl rfl (Nat.le_of_ble_eq_true rfl) rfl dX3_init_35 (fun H locs Z => ?_)
  have Z : ZK g (Ak h0 s.heap.size) s H _ ((h0, .inr (3, [.int 0, .int 0, .ref q7, .ref q15, .ref q25, .ref q33, .null, .int 0])) :: ((((([] : va_W) ++ [(q7, .inl (g.2.1.1, 24, .inl (fun _ => 0)))]) ++ ((q15, .inl (g.2.1.2.1, 5, .inr (.inr (.inr (.inr (fun i => some (r15 i))))))) :: rowsK g 5 4 r15)) ++ [(q25, .inl (g.2.1.1, 10, .inl (fun _ => 0)))]) ++ [(q33, .inl (g.2.1.1, 10, .inl (fun _ => 0)))])) := Z
  refine lv_aload_n hx hb dX3_init_38 rfl (lv_at hl 0 rfl) ?_
  refine lv_bipush (v := 10) hx hb dX3_init_39 (by decide +kernel) ?_
  refine k_newi C hA Z mw_144 (by decide +kernel) (N := 10) (by decide +kernel) (Nat.le_of_ble_eq_true rfl) (Nat.le_of_ble_eq_true rfl) (Nat.le_of_ble_eq_true rfl) dX3_init_41 (fun q41 H Z => ?_)
  have Z : ZK g (Ak h0 s.heap.size) s H _ ((h0, .inr (3, [.int 0, .int 0, .ref q7, .ref q15, .ref q25, .ref q33, .null, .int 0])) :: (((((([] : va_W) ++ [(q7, .inl (g.2.1.1, 24, .inl (fun _ => 0)))]) ++ ((q15, .inl (g.2.1.2.1, 5, .inr (.inr (.inr (.inr (fun i => some (r15 i))))))) :: rowsK g 5 4 r15)) ++ [(q25, .inl (g.2.1.1, 10, .inl (fun _ => 0)))]) ++ [(q33, .inl (g.2.1.1, 10, .inl (fun _ => 0)))]) ++ [(q41, .inl (g.2.1.1, 10, .inl (fun _ => 0)))])) := Z
  refine k_putF C Z (T := TX3) inlX3 tyX3 tyX3_ok nmX3 rfl (k := 6) (by decide) mw_233 rfl rfl (ty := tyX3 6) (tyX3_ok 6 (by decide)) rfl rfl (Nat.le_of_ble_eq_true rfl) rfl dX3_init_43 (fun H locs Z => ?_)
  have Z : ZK g (Ak h0 s.heap.size) s H _ ((h0, .inr (3, [.int 0, .int 0, .ref q7, .ref q15, .ref q25, .ref q33, .ref q41, .int 0])) :: (((((([] : va_W) ++ [(q7, .inl (g.2.1.1, 24, .inl (fun _ => 0)))]) ++ ((q15, .inl (g.2.1.2.1, 5, .inr (.inr (.inr (.inr (fun i => some (r15 i))))))) :: rowsK g 5 4 r15)) ++ [(q25, .inl (g.2.1.1, 10, .inl (fun _ => 0)))]) ++ [(q33, .inl (g.2.1.1, 10, .inl (fun _ => 0)))]) ++ [(q41, .inl (g.2.1.1, 10, .inl (fun _ => 0)))])) := Z
  have Z : ZK g (Ak h0 s.heap.size) s _ _ (kX3 (g.1, g.2.1, (fun k => ([h0, q7, q15, r15 0, r15 1, r15 2, r15 3, r15 4, q25, q33, q41] : List Nat).getD k 0))) := zk_conv Z (eqv_c rfl (eqv_c rfl (eqv_f (fun i hi => match i, hi with | 0, _ => rfl | 1, _ => rfl | 2, _ => rfl | 3, _ => rfl | 4, _ => rfl) (eqv_c rfl (eqv_c rfl (eqv_c rfl (eqv_c rfl (eqv_c rfl (eqv_c rfl (eqv_c rfl (eqv_c rfl eqv_n)))))))))))
  exact k_ret (k := kX3) C Z (fun k => ([h0, q7, q15, r15 0, r15 1, r15 2, r15 3, r15 4, q25, q33, q41] : List Nat).getD k 0) rfl rfl dX3_init_46
