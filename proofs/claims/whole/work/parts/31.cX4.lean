def kX4 (g : Gx) : va_W := [(g.2.2 0, .inr (4, [.ref (g.2.2 1), .ref (g.2.2 19)])),
  (g.2.2 1, .inr (1, [.ref (g.2.2 2), .ref (g.2.2 3), .ref (g.2.2 9), .ref (g.2.2 14), .int 0, .int 0, .int 0])),
  (g.2.2 2, .inl (g.2.1.1, 24, .inl (fun _ => 0))),
  (g.2.2 3, .inl (g.2.1.2.1, 5, .inr (.inr (.inr (.inr (fun i => some (g.2.2 (4 + i)))))))),
  (g.2.2 4, .inl (g.2.1.1, 4, .inl (fun _ => 0))),
  (g.2.2 5, .inl (g.2.1.1, 4, .inl (fun _ => 0))),
  (g.2.2 6, .inl (g.2.1.1, 4, .inl (fun _ => 0))),
  (g.2.2 7, .inl (g.2.1.1, 4, .inl (fun _ => 0))),
  (g.2.2 8, .inl (g.2.1.1, 4, .inl (fun _ => 0))),
  (g.2.2 9, .inl (g.2.1.2.1, 4, .inr (.inr (.inr (.inr (fun i => some (g.2.2 (10 + i)))))))),
  (g.2.2 10, .inl (g.2.1.1, 2, .inl (fun _ => 0))),
  (g.2.2 11, .inl (g.2.1.1, 2, .inl (fun _ => 0))),
  (g.2.2 12, .inl (g.2.1.1, 2, .inl (fun _ => 0))),
  (g.2.2 13, .inl (g.2.1.1, 2, .inl (fun _ => 0))),
  (g.2.2 14, .inl (g.2.1.2.1, 4, .inr (.inr (.inr (.inr (fun i => some (g.2.2 (15 + i)))))))),
  (g.2.2 15, .inl (g.2.1.1, 3, .inl (fun _ => 0))),
  (g.2.2 16, .inl (g.2.1.1, 3, .inl (fun _ => 0))),
  (g.2.2 17, .inl (g.2.1.1, 3, .inl (fun _ => 0))),
  (g.2.2 18, .inl (g.2.1.1, 3, .inl (fun _ => 0))),
  (g.2.2 19, .inl (g.2.1.1, 4, .inl (fun _ => 0)))]
theorem mi_X4 : MFi yX4_init cX4_init 1 := ⟨mw_149, mw_148, mw_100, ⟨by decide +kernel, by decide +kernel⟩, by decide +kernel, rfl⟩
set_option maxHeartbeats 8000000 in
set_option maxRecDepth 100000 in
theorem n_X4 (l : Launch) {g : Gx} : CN l yX4_init (wsY yX4_init cX4_init 1 none) { frames := 2, cells := 19, slots := 88, locals := 32 } g (.inr (4, [.null, .null])) kX4 19 88 := by
  refine CN_start (by decide +kernel) rfl rfl (fun {p e s m args below meth c ls h0} C hA Z hl => ?_)
  have hx := C.1
  have hb := C.2.1
  refine lv_aload_n hx hb dX4_init_0 rfl (lv_at hl 0 rfl) ?_
  refine k_obj C mw_150 ⟨mw_117, mw_118⟩ hl.1 dX4_init_1 (Nat.le_of_ble_eq_true rfl) (Nat.le_of_ble_eq_true rfl) ?_
  refine lv_aload_n hx hb dX4_init_4 rfl (lv_at hl 0 rfl) ?_
  refine k_new C hA Z (T := TX1) inlX1 tyX1 tyX1_ok ⟨mw_151, mw_152, mw_101⟩ (ci := 1) rfl (fs := [.null, .null, .null, .null, .int 0, .int 0, .int 0]) (fun j hj => by rcases (show j = 0 ∨ j = 1 ∨ j = 2 ∨ j = 3 ∨ j = 4 ∨ j = 5 ∨ j = 6 by omega) with rfl | rfl | rfl | rfl | rfl | rfl | rfl <;> rfl) (Nat.le_of_ble_eq_true rfl) (Nat.le_of_ble_eq_true rfl) dX4_init_5 (fun q5 H Z => ?_)
  have Z : ZK g (Ak h0 s.heap.size) s H _ (((h0, .inr (4, [.null, .null])) :: ([] : va_W)) ++ [(q5, .inr (1, [.null, .null, .null, .null, .int 0, .int 0, .int 0]))]) := Z
  refine lv_dup hx hb dX4_init_8 rfl ?_
  refine k_call C hA Z (n_X1 l) mi_X1 (Or.inr ⟨_, nw_2⟩) ⟨rfl, rfl, by decide, by decide⟩ ⟨Nat.le_of_ble_eq_true rfl, Nat.le_of_ble_eq_true rfl⟩ hl.1 (Nat.le_of_ble_eq_true rfl) dX4_init_9 (fun ad5 H locs hq Zn => ?_)
  subst hq
  have Z := Zn
  have Z : ZK g (Ak h0 s.heap.size) s H _ ((h0, .inr (4, [.null, .null])) :: (([] : va_W) ++ kX1 (g.1, g.2.1, ad5))) := Z
  refine k_putF C Z (T := TX4) inlX4 tyX4 tyX4_ok nmX4 rfl (k := 0) (by decide) mw_195 rfl rfl (ty := tyX4 0) (tyX4_ok 0 (by decide)) rfl rfl (Nat.le_of_ble_eq_true rfl) rfl dX4_init_12 (fun H locs Z => ?_)
  have Z : ZK g (Ak h0 s.heap.size) s H _ ((h0, .inr (4, [.ref (ad5 0), .null])) :: (([] : va_W) ++ kX1 (g.1, g.2.1, ad5))) := Z
  refine lv_aload_n hx hb dX4_init_15 rfl (lv_at hl 0 rfl) ?_
  refine lv_iconst (v := 4) hx hb dX4_init_16 (by decide +kernel) ?_
  refine k_newi C hA Z mw_144 (by decide +kernel) (N := 4) (by decide +kernel) (Nat.le_of_ble_eq_true rfl) (Nat.le_of_ble_eq_true rfl) (Nat.le_of_ble_eq_true rfl) dX4_init_17 (fun q17 H Z => ?_)
  have Z : ZK g (Ak h0 s.heap.size) s H _ ((h0, .inr (4, [.ref (ad5 0), .null])) :: ((([] : va_W) ++ kX1 (g.1, g.2.1, ad5)) ++ [(q17, .inl (g.2.1.1, 4, .inl (fun _ => 0)))])) := Z
  refine k_putF C Z (T := TX4) inlX4 tyX4 tyX4_ok nmX4 rfl (k := 1) (by decide) mw_197 rfl rfl (ty := tyX4 1) (tyX4_ok 1 (by decide)) rfl rfl (Nat.le_of_ble_eq_true rfl) rfl dX4_init_19 (fun H locs Z => ?_)
  have Z : ZK g (Ak h0 s.heap.size) s H _ ((h0, .inr (4, [.ref (ad5 0), .ref q17])) :: ((([] : va_W) ++ kX1 (g.1, g.2.1, ad5)) ++ [(q17, .inl (g.2.1.1, 4, .inl (fun _ => 0)))])) := Z
  have Z : ZK g (Ak h0 s.heap.size) s _ _ (kX4 (g.1, g.2.1, (fun k => ([h0, ad5 0, ad5 1, ad5 2, ad5 3, ad5 4, ad5 5, ad5 6, ad5 7, ad5 8, ad5 9, ad5 10, ad5 11, ad5 12, ad5 13, ad5 14, ad5 15, ad5 16, ad5 17, q17] : List Nat).getD k 0))) := zk_conv Z (eqv_c rfl (eqv_c rfl (eqv_c rfl (eqv_f (fun i hi => match i, hi with | 0, _ => rfl | 1, _ => rfl | 2, _ => rfl | 3, _ => rfl | 4, _ => rfl) (eqv_c rfl (eqv_c rfl (eqv_c rfl (eqv_c rfl (eqv_c rfl (eqv_f (fun i hi => match i, hi with | 0, _ => rfl | 1, _ => rfl | 2, _ => rfl | 3, _ => rfl) (eqv_c rfl (eqv_c rfl (eqv_c rfl (eqv_c rfl (eqv_f (fun i hi => match i, hi with | 0, _ => rfl | 1, _ => rfl | 2, _ => rfl | 3, _ => rfl) (eqv_c rfl (eqv_c rfl (eqv_c rfl (eqv_c rfl (eqv_c rfl eqv_n))))))))))))))))))))
  exact k_ret (k := kX4) C Z (fun k => ([h0, ad5 0, ad5 1, ad5 2, ad5 3, ad5 4, ad5 5, ad5 6, ad5 7, ad5 8, ad5 9, ad5 10, ad5 11, ad5 12, ad5 13, ad5 14, ad5 15, ad5 16, ad5 17, q17] : List Nat).getD k 0) rfl rfl dX4_init_22
