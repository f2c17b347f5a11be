def kX1 (g : Gx) : va_W := [(g.2.2 0, .inr (1, [.ref (g.2.2 1), .ref (g.2.2 2), .ref (g.2.2 8), .ref (g.2.2 13), .int 0, .int 0, .int 0])),
  (g.2.2 1, .inl (g.2.1.1, 24, .inl (fun _ => 0))),
  (g.2.2 2, .inl (g.2.1.2.1, 5, .inr (.inr (.inr (.inr (fun i => some (g.2.2 (3 + i)))))))),
  (g.2.2 3, .inl (g.2.1.1, 4, .inl (fun _ => 0))),
  (g.2.2 4, .inl (g.2.1.1, 4, .inl (fun _ => 0))),
  (g.2.2 5, .inl (g.2.1.1, 4, .inl (fun _ => 0))),
  (g.2.2 6, .inl (g.2.1.1, 4, .inl (fun _ => 0))),
  (g.2.2 7, .inl (g.2.1.1, 4, .inl (fun _ => 0))),
  (g.2.2 8, .inl (g.2.1.2.1, 4, .inr (.inr (.inr (.inr (fun i => some (g.2.2 (9 + i)))))))),
  (g.2.2 9, .inl (g.2.1.1, 2, .inl (fun _ => 0))),
  (g.2.2 10, .inl (g.2.1.1, 2, .inl (fun _ => 0))),
  (g.2.2 11, .inl (g.2.1.1, 2, .inl (fun _ => 0))),
  (g.2.2 12, .inl (g.2.1.1, 2, .inl (fun _ => 0))),
  (g.2.2 13, .inl (g.2.1.2.1, 4, .inr (.inr (.inr (.inr (fun i => some (g.2.2 (14 + i)))))))),
  (g.2.2 14, .inl (g.2.1.1, 3, .inl (fun _ => 0))),
  (g.2.2 15, .inl (g.2.1.1, 3, .inl (fun _ => 0))),
  (g.2.2 16, .inl (g.2.1.1, 3, .inl (fun _ => 0))),
  (g.2.2 17, .inl (g.2.1.1, 3, .inl (fun _ => 0)))]
theorem mi_X1 : MFi yX1_init cX1_init 1 := ⟨mw_155, mw_154, mw_101, ⟨by decide +kernel, by decide +kernel⟩, by decide +kernel, rfl⟩
set_option maxHeartbeats 8000000 in
set_option maxRecDepth 100000 in
theorem n_X1 (l : Launch) {g : Gx} : CN l yX1_init (wsY yX1_init cX1_init 1 none) { frames := 1, cells := 17, slots := 77, locals := 12 } g (.inr (1, [.null, .null, .null, .null, .int 0, .int 0, .int 0])) kX1 17 77 := by
  refine CN_start (by decide +kernel) rfl rfl (fun {p e s m args below meth c ls h0} C hA Z hl => ?_)
  have hx := C.1
  have hb := C.2.1
  refine lv_aload_n hx hb dX1_init_0 rfl (lv_at hl 0 rfl) ?_
  refine k_obj C mw_156 ⟨mw_117, mw_118⟩ hl.1 dX1_init_1 (Nat.le_of_ble_eq_true rfl) (Nat.le_of_ble_eq_true rfl) ?_
  refine lv_aload_n hx hb dX1_init_4 rfl (lv_at hl 0 rfl) ?_
  refine lv_bipush (v := 24) hx hb dX1_init_5 (by decide +kernel) ?_
  refine k_newi C hA Z mw_144 (by decide +kernel) (N := 24) (by decide +kernel) (Nat.le_of_ble_eq_true rfl) (Nat.le_of_ble_eq_true rfl) (Nat.le_of_ble_eq_true rfl) dX1_init_7 (fun q7 H Z => ?_)
  have Z : ZK g (Ak h0 s.heap.size) s H _ ((h0, .inr (1, [.null, .null, .null, .null, .int 0, .int 0, .int 0])) :: ([(q7, .inl (g.2.1.1, 24, .inl (fun _ => 0)))] : va_W)) := Z
  refine k_putF C Z (T := TX1) inlX1 tyX1 tyX1_ok nmX1 rfl (k := 0) (by decide) mw_159 rfl rfl (ty := tyX1 0) (tyX1_ok 0 (by decide)) rfl rfl (Nat.le_of_ble_eq_true rfl) rfl dX1_init_9 (fun H locs Z => ?_)
  have Z : ZK g (Ak h0 s.heap.size) s H _ ((h0, .inr (1, [.ref q7, .null, .null, .null, .int 0, .int 0, .int 0])) :: ([(q7, .inl (g.2.1.1, 24, .inl (fun _ => 0)))] : va_W)) := Z
  refine lv_aload_n hx hb dX1_init_12 rfl (lv_at hl 0 rfl) ?_
  refine lv_iconst (v := 5) hx hb dX1_init_13 (by decide +kernel) ?_
  refine lv_iconst (v := 4) hx hb dX1_init_14 (by decide +kernel) ?_
  refine k_mna C hA Z ⟨mw_157, mw_144⟩ (by decide) (by decide) (N := 5) (K := 4) (by decide) (by decide) (by decide) (by decide) (Nat.le_of_ble_eq_true rfl) (Nat.le_of_ble_eq_true rfl) dX1_init_15 (fun q15 r15 H Z => ?_)
  have Z : ZK g (Ak h0 s.heap.size) s H _ ((h0, .inr (1, [.ref q7, .null, .null, .null, .int 0, .int 0, .int 0])) :: ((([] : va_W) ++ [(q7, .inl (g.2.1.1, 24, .inl (fun _ => 0)))]) ++ ((q15, .inl (g.2.1.2.1, 5, .inr (.inr (.inr (.inr (fun i => some (r15 i))))))) :: rowsK g 5 4 r15))) := Z
  refine k_putF C Z (T := TX1) inlX1 tyX1 tyX1_ok nmX1 rfl (k := 1) (by decide) mw_162 rfl rfl (ty := tyX1 1) (tyX1_ok 1 (by decide)) rfl rfl (Nat.le_of_ble_eq_true rfl) rfl dX1_init_19 (fun H locs Z => ?_)
  have Z : ZK g (Ak h0 s.heap.size) s H _ ((h0, .inr (1, [.ref q7, .ref q15, .null, .null, .int 0, .int 0, .int 0])) :: ((([] : va_W) ++ [(q7, .inl (g.2.1.1, 24, .inl (fun _ => 0)))]) ++ ((q15, .inl (g.2.1.2.1, 5, .inr (.inr (.inr (.inr (fun i => some (r15 i))))))) :: rowsK g 5 4 r15))) := Z
  refine lv_aload_n hx hb dX1_init_22 rfl (lv_at hl 0 rfl) ?_
  refine lv_iconst (v := 4) hx hb dX1_init_23 (by decide +kernel) ?_
  refine lv_iconst (v := 2) hx hb dX1_init_24 (by decide +kernel) ?_
  refine k_mna C hA Z ⟨mw_157, mw_144⟩ (by decide) (by decide) (N := 4) (K := 2) (by decide) (by decide) (by decide) (by decide) (Nat.le_of_ble_eq_true rfl) (Nat.le_of_ble_eq_true rfl) dX1_init_25 (fun q25 r25 H Z => ?_)
  have Z : ZK g (Ak h0 s.heap.size) s H _ ((h0, .inr (1, [.ref q7, .ref q15, .null, .null, .int 0, .int 0, .int 0])) :: (((([] : va_W) ++ [(q7, .inl (g.2.1.1, 24, .inl (fun _ => 0)))]) ++ ((q15, .inl (g.2.1.2.1, 5, .inr (.inr (.inr (.inr (fun i => some (r15 i))))))) :: rowsK g 5 4 r15)) ++ ((q25, .inl (g.2.1.2.1, 4, .inr (.inr (.inr (.inr (fun i => some (r25 i))))))) :: rowsK g 4 2 r25))) := Z
  refine k_putF C Z (T := TX1) inlX1 tyX1 tyX1_ok nmX1 rfl (k := 2) (by decide) mw_166 rfl rfl (ty := tyX1 2) (tyX1_ok 2 (by decide)) rfl rfl (Nat.le_of_ble_eq_true rfl) rfl dX1_init_29 (fun H locs Z => ?_)
  have Z : ZK g (Ak h0 s.heap.size) s H _ ((h0, .inr (1, [.ref q7, .ref q15, .ref q25, .null, .int 0, .int 0, .int 0])) :: (((([] : va_W) ++ [(q7, .inl (g.2.1.1, 24, .inl (fun _ => 0)))]) ++ ((q15, .inl (g.2.1.2.1, 5, .inr (.inr (.inr (.inr (fun i => some (r15 i))))))) :: rowsK g 5 4 r15)) ++ ((q25, .inl (g.2.1.2.1, 4, .inr (.inr (.inr (.inr (fun i => some (r25 i))))))) :: rowsK g 4 2 r25))) := Z
  refine lv_aload_n hx hb dX1_init_32 rfl (lv_at hl 0 rfl) ?_
  refine lv_iconst (v := 4) hx hb dX1_init_33 (by decide +kernel) ?_
  refine lv_iconst (v := 3) hx hb dX1_init_34 (by decide +kernel) ?_
  refine k_mna C hA Z ⟨mw_157, mw_144⟩ (by decide) (by decide) (N := 4) (K := 3) (by decide) (by decide) (by decide) (by decide) (Nat.le_of_ble_eq_true rfl) (Nat.le_of_ble_eq_true rfl) dX1_init_35 (fun q35 r35 H Z => ?_)
  have Z : ZK g (Ak h0 s.heap.size) s H _ ((h0, .inr (1, [.ref q7, .ref q15, .ref q25, .null, .int 0, .int 0, .int 0])) :: ((((([] : va_W) ++ [(q7, .inl (g.2.1.1, 24, .inl (fun _ => 0)))]) ++ ((q15, .inl (g.2.1.2.1, 5, .inr (.inr (.inr (.inr (fun i => some (r15 i))))))) :: rowsK g 5 4 r15)) ++ ((q25, .inl (g.2.1.2.1, 4, .inr (.inr (.inr (.inr (fun i => some (r25 i))))))) :: rowsK g 4 2 r25)) ++ ((q35, .inl (g.2.1.2.1, 4, .inr (.inr (.inr (.inr (fun i => some (r35 i))))))) :: rowsK g 4 3 r35))) := Z
  refine k_putF C Z (T := TX1) inlX1 tyX1 tyX1_ok nmX1 rfl (k := 3) (by decide) mw_168 rfl rfl (ty := tyX1 3) (tyX1_ok 3 (by decide)) rfl rfl (Nat.le_of_ble_eq_true rfl) rfl dX1_init_39 (fun H locs Z => ?_)
  have Z : ZK g (Ak h0 s.heap.size) s H _ ((h0, .inr (1, [.ref q7, .ref q15, .ref q25, .ref q35, .int 0, .int 0, .int 0])) :: ((((([] : va_W) ++ [(q7, .inl (g.2.1.1, 24, .inl (fun _ => 0)))]) ++ ((q15, .inl (g.2.1.2.1, 5, .inr (.inr (.inr (.inr (fun i => some (r15 i))))))) :: rowsK g 5 4 r15)) ++ ((q25, .inl (g.2.1.2.1, 4, .inr (.inr (.inr (.inr (fun i => some (r25 i))))))) :: rowsK g 4 2 r25)) ++ ((q35, .inl (g.2.1.2.1, 4, .inr (.inr (.inr (.inr (fun i => some (r35 i))))))) :: rowsK g 4 3 r35))) := Z
  have Z : ZK g (Ak h0 s.heap.size) s _ _ (kX1 (g.1, g.2.1, (fun k => ([h0, q7, q15, r15 0, r15 1, r15 2, r15 3, r15 4, q25, r25 0, r25 1, r25 2, r25 3, q35, r35 0, r35 1, r35 2, r35 3] : List Nat).getD k 0))) := zk_conv Z (eqv_c rfl (eqv_c rfl (eqv_f (fun i hi => match i, hi with | 0, _ => rfl | 1, _ => rfl | 2, _ => rfl | 3, _ => rfl | 4, _ => rfl) (eqv_c rfl (eqv_c rfl (eqv_c rfl (eqv_c rfl (eqv_c rfl (eqv_f (fun i hi => match i, hi with | 0, _ => rfl | 1, _ => rfl | 2, _ => rfl | 3, _ => rfl) (eqv_c rfl (eqv_c rfl (eqv_c rfl (eqv_c rfl (eqv_f (fun i hi => match i, hi with | 0, _ => rfl | 1, _ => rfl | 2, _ => rfl | 3, _ => rfl) (eqv_c rfl (eqv_c rfl (eqv_c rfl (eqv_c rfl eqv_n))))))))))))))))))
  exact k_ret (k := kX1) C Z (fun k => ([h0, q7, q15, r15 0, r15 1, r15 2, r15 3, r15 4, q25, r25 0, r25 1, r25 2, r25 3, q35, r35 0, r35 1, r35 2, r35 3] : List Nat).getD k 0) rfl rfl dX1_init_42
