def kX0 (g : Gx) : va_W := [(g.2.2 0, .inr (0, [.ref (g.2.2 1), .ref (g.2.2 2), .int 0, .ref (g.2.2 3), .ref (g.2.2 4), .int 0])),
  (g.2.2 1, .inl (g.2.1.1, 6, .inl (fun _ => 0))),
  (g.2.2 2, .inl (g.2.1.1, 6, .inl (fun _ => 0))),
  (g.2.2 3, .inl (g.2.1.1, 6, .inl (fun _ => 0))),
  (g.2.2 4, .inl (g.2.1.1, 6, .inl (fun _ => 0)))]
theorem mi_X0 : MFi yX0_init cX0_init 1 := ⟨mw_268, mw_267, mw_104, ⟨by decide +kernel, by decide +kernel⟩, by decide +kernel, rfl⟩
set_option maxHeartbeats 8000000 in
set_option maxRecDepth 100000 in
theorem n_X0 (l : Launch) {g : Gx} : CN l yX0_init (wsY yX0_init cX0_init 1 none) { frames := 1, cells := 4, slots := 24, locals := 12 } g (.inr (0, [.null, .null, .int 0, .null, .null, .int 0])) kX0 4 24 := by
  refine CN_start (by decide +kernel) rfl rfl (fun {p e s m args below meth c ls h0} C hA Z hl => ?_)
  have hx := C.1
  have hb := C.2.1
  refine lv_aload_n hx hb dX0_init_0 rfl (lv_at hl 0 rfl) ?_
  refine k_obj C mw_269 ⟨mw_117, mw_118⟩ hl.1 dX0_init_1 (Nat.le_of_ble_eq_true rfl) (Nat.le_of_ble_eq_true rfl) ?_
  refine lv_aload_n hx hb dX0_init_4 rfl (lv_at hl 0 rfl) ?_
  refine lv_bipush (v := 6) hx hb dX0_init_5 (by decide +kernel) ?_
  refine k_newi C hA Z mw_144 (by decide +kernel) (N := 6) (by decide +kernel) (Nat.le_of_ble_eq_true rfl) (Nat.le_of_ble_eq_true rfl) (Nat.le_of_ble_eq_true rfl) dX0_init_7 (fun q7 H Z => ?_)
  have Z : ZK g (Ak h0 s.heap.size) s H _ ((h0, .inr (0, [.null, .null, .int 0, .null, .null, .int 0])) :: ([(q7, .inl (g.2.1.1, 6, .inl (fun _ => 0)))] : va_W)) := Z
  refine k_putF C Z (T := TX0) inlX0 tyX0 tyX0_ok nmX0 rfl (k := 0) (by decide) mw_270 rfl rfl (ty := tyX0 0) (tyX0_ok 0 (by decide)) rfl rfl (Nat.le_of_ble_eq_true rfl) rfl dX0_init_9 (fun H locs Z => ?_)
  have Z : ZK g (Ak h0 s.heap.size) s H _ ((h0, .inr (0, [.ref q7, .null, .int 0, .null, .null, .int 0])) :: ([(q7, .inl (g.2.1.1, 6, .inl (fun _ => 0)))] : va_W)) := Z
  refine lv_aload_n hx hb dX0_init_12 rfl (lv_at hl 0 rfl) ?_
  refine lv_bipush (v := 6) hx hb dX0_init_13 (by decide +kernel) ?_
  refine k_newi C hA Z mw_144 (by decide +kernel) (N := 6) (by decide +kernel) (Nat.le_of_ble_eq_true rfl) (Nat.le_of_ble_eq_true rfl) (Nat.le_of_ble_eq_true rfl) dX0_init_15 (fun q15 H Z => ?_)
  have Z : ZK g (Ak h0 s.heap.size) s H _ ((h0, .inr (0, [.ref q7, .null, .int 0, .null, .null, .int 0])) :: ([(q7, .inl (g.2.1.1, 6, .inl (fun _ => 0))), (q15, .inl (g.2.1.1, 6, .inl (fun _ => 0)))] : va_W)) := Z
  refine k_putF C Z (T := TX0) inlX0 tyX0 tyX0_ok nmX0 rfl (k := 1) (by decide) mw_271 rfl rfl (ty := tyX0 1) (tyX0_ok 1 (by decide)) rfl rfl (Nat.le_of_ble_eq_true rfl) rfl dX0_init_17 (fun H locs Z => ?_)
  have Z : ZK g (Ak h0 s.heap.size) s H _ ((h0, .inr (0, [.ref q7, .ref q15, .int 0, .null, .null, .int 0])) :: ([(q7, .inl (g.2.1.1, 6, .inl (fun _ => 0))), (q15, .inl (g.2.1.1, 6, .inl (fun _ => 0)))] : va_W)) := Z
  refine lv_aload_n hx hb dX0_init_20 rfl (lv_at hl 0 rfl) ?_
  refine lv_bipush (v := 6) hx hb dX0_init_21 (by decide +kernel) ?_
  refine k_newi C hA Z mw_144 (by decide +kernel) (N := 6) (by decide +kernel) (Nat.le_of_ble_eq_true rfl) (Nat.le_of_ble_eq_true rfl) (Nat.le_of_ble_eq_true rfl) dX0_init_23 (fun q23 H Z => ?_)
  have Z : ZK g (Ak h0 s.heap.size) s H _ ((h0, .inr (0, [.ref q7, .ref q15, .int 0, .null, .null, .int 0])) :: ([(q7, .inl (g.2.1.1, 6, .inl (fun _ => 0))), (q15, .inl (g.2.1.1, 6, .inl (fun _ => 0))), (q23, .inl (g.2.1.1, 6, .inl (fun _ => 0)))] : va_W)) := Z
  refine k_putF C Z (T := TX0) inlX0 tyX0 tyX0_ok nmX0 rfl (k := 3) (by decide) mw_274 rfl rfl (ty := tyX0 3) (tyX0_ok 3 (by decide)) rfl rfl (Nat.le_of_ble_eq_true rfl) rfl dX0_init_25 (fun H locs Z => ?_)
  have Z : ZK g (Ak h0 s.heap.size) s H _ ((h0, .inr (0, [.ref q7, .ref q15, .int 0, .ref q23, .null, .int 0])) :: ([(q7, .inl (g.2.1.1, 6, .inl (fun _ => 0))), (q15, .inl (g.2.1.1, 6, .inl (fun _ => 0))), (q23, .inl (g.2.1.1, 6, .inl (fun _ => 0)))] : va_W)) := Z
  refine lv_aload_n hx hb dX0_init_28 rfl (lv_at hl 0 rfl) ?_
  refine lv_bipush (v := 6) hx hb dX0_init_29 (by decide +kernel) ?_
  refine k_newi C hA Z mw_144 (by decide +kernel) (N := 6) (by decide +kernel) (Nat.le_of_ble_eq_true rfl) (Nat.le_of_ble_eq_true rfl) (Nat.le_of_ble_eq_true rfl) dX0_init_31 (fun q31 H Z => ?_)
  have Z : ZK g (Ak h0 s.heap.size) s H _ ((h0, .inr (0, [.ref q7, .ref q15, .int 0, .ref q23, .null, .int 0])) :: ([(q7, .inl (g.2.1.1, 6, .inl (fun _ => 0))), (q15, .inl (g.2.1.1, 6, .inl (fun _ => 0))), (q23, .inl (g.2.1.1, 6, .inl (fun _ => 0))), (q31, .inl (g.2.1.1, 6, .inl (fun _ => 0)))] : va_W)) := Z
  refine k_putF C Z (T := TX0) inlX0 tyX0 tyX0_ok nmX0 rfl (k := 4) (by decide) mw_275 rfl rfl (ty := tyX0 4) (tyX0_ok 4 (by decide)) rfl rfl (Nat.le_of_ble_eq_true rfl) rfl dX0_init_33 (fun H locs Z => ?_)
  have Z : ZK g (Ak h0 s.heap.size) s H _ ((h0, .inr (0, [.ref q7, .ref q15, .int 0, .ref q23, .ref q31, .int 0])) :: ([(q7, .inl (g.2.1.1, 6, .inl (fun _ => 0))), (q15, .inl (g.2.1.1, 6, .inl (fun _ => 0))), (q23, .inl (g.2.1.1, 6, .inl (fun _ => 0))), (q31, .inl (g.2.1.1, 6, .inl (fun _ => 0)))] : va_W)) := Z
  have Z : ZK g (Ak h0 s.heap.size) s _ _ (kX0 (g.1, g.2.1, (fun k => ([h0, q7, q15, q23, q31] : List Nat).getD k 0))) := zk_conv Z (eqv_c rfl (eqv_c rfl (eqv_c rfl (eqv_c rfl (eqv_c rfl eqv_n)))))
  exact k_ret (k := kX0) C Z (fun k => ([h0, q7, q15, q23, q31] : List Nat).getD k 0) rfl rfl dX0_init_36
