def kX2 (g : Gx) : va_W := [(g.2.2 0, .inr (2, [.long 0]))]
theorem mi_X2 : MFi yX2_init cX2_init 1 := ⟨mw_295, mw_294, mw_105, ⟨by decide +kernel, by decide +kernel⟩, by decide +kernel, rfl⟩
set_option maxHeartbeats 8000000 in
set_option maxRecDepth 100000 in
theorem n_X2 (l : Launch) {g : Gx} : CN l yX2_init (wsY yX2_init cX2_init 1 none) { frames := 1, cells := 0, slots := 0, locals := 12 } g (.inr (2, [.long 0])) kX2 0 0 := by
  refine CN_start (by decide +kernel) rfl rfl (fun {p e s m args below meth c ls h0} C hA Z hl => ?_)
  have hx := C.1
  have hb := C.2.1
  refine lv_aload_n hx hb dX2_init_0 rfl (lv_at hl 0 rfl) ?_
  refine k_obj C mw_296 ⟨mw_117, mw_118⟩ hl.1 dX2_init_1 (Nat.le_of_ble_eq_true rfl) (Nat.le_of_ble_eq_true rfl) ?_
  have Z : ZK g (Ak h0 s.heap.size) s _ _ (kX2 (g.1, g.2.1, (fun k => ([h0] : List Nat).getD k 0))) := zk_conv Z (eqv_c rfl eqv_n)
  exact k_ret (k := kX2) C Z (fun k => ([h0] : List Nat).getD k 0) rfl rfl dX2_init_4
