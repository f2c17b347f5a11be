def kX5 (g : Gx) : va_W := [(g.2.2 0, .inr (5, [.ref (g.2.2 1), .int 0, .int 0, .int 0, .int 0])),
  (g.2.2 1, .inl (g.2.1.1, 150, .inl (fun _ => 0)))]
theorem mi_X5 : MFi yX5_init cX5_init 1 := ⟨mw_123, mw_122, mw_99, ⟨by decide +kernel, by decide +kernel⟩, by decide +kernel, rfl⟩
set_option maxHeartbeats 8000000 in
set_option maxRecDepth 100000 in
theorem n_X5 (l : Launch) {g : Gx} : CN l yX5_init (wsY yX5_init cX5_init 1 none) { frames := 1, cells := 1, slots := 150, locals := 12 } g (.inr (5, [.null, .int 0, .int 0, .int 0, .int 0])) kX5 1 150 := by
  refine CN_start (by decide +kernel) rfl rfl (fun {p e s m args below meth c ls h0} C hA Z hl => ?_)
  have hx := C.1
  have hb := C.2.1
  refine lv_aload_n hx hb dX5_init_0 rfl (lv_at hl 0 rfl) ?_
  refine k_obj C mw_124 ⟨mw_117, mw_118⟩ hl.1 dX5_init_1 (Nat.le_of_ble_eq_true rfl) (Nat.le_of_ble_eq_true rfl) ?_
  refine lv_aload_n hx hb dX5_init_4 rfl (lv_at hl 0 rfl) ?_
  refine lv_sipush (v := 150) hx hb dX5_init_5 (by decide +kernel) ?_
  refine k_newi C hA Z mw_144 (by decide +kernel) (N := 150) (by decide +kernel) (Nat.le_of_ble_eq_true rfl) (Nat.le_of_ble_eq_true rfl) (Nat.le_of_ble_eq_true rfl) dX5_init_8 (fun q8 H Z => ?_)
  have Z : ZK g (Ak h0 s.heap.size) s H _ ((h0, .inr (5, [.null, .int 0, .int 0, .int 0, .int 0])) :: ([(q8, .inl (g.2.1.1, 150, .inl (fun _ => 0)))] : va_W)) := Z
  refine k_putF C Z (T := TX5) inlX5 tyX5 tyX5_ok nmX5 rfl (k := 0) (by decide) mw_125 rfl rfl (ty := tyX5 0) (tyX5_ok 0 (by decide)) rfl rfl (Nat.le_of_ble_eq_true rfl) rfl dX5_init_10 (fun H locs Z => ?_)
  have Z : ZK g (Ak h0 s.heap.size) s H _ ((h0, .inr (5, [.ref q8, .int 0, .int 0, .int 0, .int 0])) :: ([(q8, .inl (g.2.1.1, 150, .inl (fun _ => 0)))] : va_W)) := Z
  have Z : ZK g (Ak h0 s.heap.size) s _ _ (kX5 (g.1, g.2.1, (fun k => ([h0, q8] : List Nat).getD k 0))) := zk_conv Z (eqv_c rfl (eqv_c rfl eqv_n))
  exact k_ret (k := kX5) C Z (fun k => ([h0, q8] : List Nat).getD k 0) rfl rfl dX5_init_13
