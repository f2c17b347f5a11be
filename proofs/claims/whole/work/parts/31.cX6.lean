def kX6 (g : Gx) : va_W := [(g.2.2 0, .inr (6, [.ref (g.2.2 1), .ref (g.2.2 19)])),
  (g.2.2 1, .inr (1, [.ref (g.2.2 2), .ref (g.2.2 3), .ref (g.2.2 9), .ref (g.2.2 14), .int 0, .int 0, .int 0])),
  (g.2.2 2, .inl (g.2.1.1, 24, .inl (fun _ => 0))),
  (g.2.2 3, .inl (g.2.1.2.1, 5, .inr (.inr (.inr (.inr (fun i => some (g.2.2 (4 + i)))))))),
  (g.2.2 4, .inl (g.2.1.1, 4, .inl (fun _ => 0))),
  (g.2.2 5, .inl (g.2.1.1, 4, .inl (fun _ => 0))),
  (g.2.2 6, .inl (g.2.1.1, 4, .inl (fun _ => 0))),
  (g.2.2 7, .inl (g.2.1.1, 4, .inl (fun _ => 0))),
  (g.2.2 8, .inl (g.2.1.1, 4, .inl (fun _ => 0))),
  (g.2.2 9, .inl (g.2.1.2.1, 4, .inr (.inr (.inr (.inr (fun i => some (g.2.2 (10 + i)))))))),
  (g.2.2 10, .inl (g.2.1.1, 2, .inl (fun _ => 0))),
  (g.2.2 11, .inl (g.2.1.1, 2, .inl (fun _ => 0))),
  (g.2.2 12, .inl (g.2.1.1, 2, .inl (fun _ => 0))),
  (g.2.2 13, .inl (g.2.1.1, 2, .inl (fun _ => 0))),
  (g.2.2 14, .inl (g.2.1.2.1, 4, .inr (.inr (.inr (.inr (fun i => some (g.2.2 (15 + i)))))))),
  (g.2.2 15, .inl (g.2.1.1, 3, .inl (fun _ => 0))),
  (g.2.2 16, .inl (g.2.1.1, 3, .inl (fun _ => 0))),
  (g.2.2 17, .inl (g.2.1.1, 3, .inl (fun _ => 0))),
  (g.2.2 18, .inl (g.2.1.1, 3, .inl (fun _ => 0))),
  (g.2.2 19, .inr (3, [.int 0, .int 0, .ref (g.2.2 20), .ref (g.2.2 21), .ref (g.2.2 27), .ref (g.2.2 28), .ref (g.2.2 29), .int 0])),
  (g.2.2 20, .inl (g.2.1.1, 24, .inl (fun _ => 0))),
  (g.2.2 21, .inl (g.2.1.2.1, 5, .inr (.inr (.inr (.inr (fun i => some (g.2.2 (22 + i)))))))),
  (g.2.2 22, .inl (g.2.1.1, 4, .inl (fun _ => 0))),
  (g.2.2 23, .inl (g.2.1.1, 4, .inl (fun _ => 0))),
  (g.2.2 24, .inl (g.2.1.1, 4, .inl (fun _ => 0))),
  (g.2.2 25, .inl (g.2.1.1, 4, .inl (fun _ => 0))),
  (g.2.2 26, .inl (g.2.1.1, 4, .inl (fun _ => 0))),
  (g.2.2 27, .inl (g.2.1.1, 10, .inl (fun _ => 0))),
  (g.2.2 28, .inl (g.2.1.1, 10, .inl (fun _ => 0))),
  (g.2.2 29, .inl (g.2.1.1, 10, .inl (fun _ => 0)))]
theorem mi_X6 : MFi yX6_init cX6_init 1 := ⟨mw_207, mw_206, mw_102, ⟨by decide +kernel, by decide +kernel⟩, by decide +kernel, rfl⟩
set_option maxHeartbeats 8000000 in
set_option maxRecDepth 100000 in
theorem n_X6 (l : Launch) {g : Gx} : CN l yX6_init (wsY yX6_init cX6_init 1 none) { frames := 2, cells := 29, slots := 171, locals := 32 } g (.inr (6, [.null, .null])) kX6 29 171 := by
  refine CN_start (by decide +kernel) rfl rfl (fun {p e s m args below meth c ls h0} C hA Z hl => ?_)
  have hx := C.1
  have hb := C.2.1
  refine lv_aload_n hx hb dX6_init_0 rfl (lv_at hl 0 rfl) ?_
  refine k_obj C mw_208 ⟨mw_117, mw_118⟩ hl.1 dX6_init_1 (Nat.le_of_ble_eq_true rfl) (Nat.le_of_ble_eq_true rfl) ?_
  refine lv_aload_n hx hb dX6_init_4 rfl (lv_at hl 0 rfl) ?_
  refine k_new C hA Z (T := TX1) inlX1 tyX1 tyX1_ok ⟨mw_209, mw_152, mw_101⟩ (ci := 1) rfl (fs := [.null, .null, .null, .null, .int 0, .int 0, .int 0]) (fun j hj => by rcases (show j = 0 ∨ j = 1 ∨ j = 2 ∨ j = 3 ∨ j = 4 ∨ j = 5 ∨ j = 6 by omega) with rfl | rfl | rfl | rfl | rfl | rfl | rfl <;> rfl) (Nat.le_of_ble_eq_true rfl) (Nat.le_of_ble_eq_true rfl) dX6_init_5 (fun q5 H Z => ?_)
  have Z : ZK g (Ak h0 s.heap.size) s H _ (((h0, .inr (6, [.null, .null])) :: ([] : va_W)) ++ [(q5, .inr (1, [.null, .null, .null, .null, .int 0, .int 0, .int 0]))]) := Z
  refine lv_dup hx hb dX6_init_8 rfl ?_
  refine k_call C hA Z (n_X1 l) mi_X1 (Or.inr ⟨_, nw_4⟩) ⟨rfl, rfl, by decide, by decide⟩ ⟨Nat.le_of_ble_eq_true rfl, Nat.le_of_ble_eq_true rfl⟩ hl.1 (Nat.le_of_ble_eq_true rfl) dX6_init_9 (fun ad5 H locs hq Zn => ?_)
  subst hq
  have Z := Zn
  have Z : ZK g (Ak h0 s.heap.size) s H _ ((h0, .inr (6, [.null, .null])) :: (([] : va_W) ++ kX1 (g.1, g.2.1, ad5))) := Z
  refine k_putF C Z (T := TX6) inlX6 tyX6 tyX6_ok nmX6 rfl (k := 0) (by decide) mw_253 rfl rfl (ty := tyX6 0) (tyX6_ok 0 (by decide)) rfl rfl (Nat.le_of_ble_eq_true rfl) rfl dX6_init_12 (fun H locs Z => ?_)
  have Z : ZK g (Ak h0 s.heap.size) s H _ ((h0, .inr (6, [.ref (ad5 0), .null])) :: (([] : va_W) ++ kX1 (g.1, g.2.1, ad5))) := Z
  refine lv_aload_n hx hb dX6_init_15 rfl (lv_at hl 0 rfl) ?_
  refine k_new C hA Z (T := TX3) inlX3 tyX3 tyX3_ok ⟨mw_211, mw_212, mw_103⟩ (ci := 3) rfl (fs := [.int 0, .int 0, .null, .null, .null, .null, .null, .int 0]) (fun j hj => by rcases (show j = 0 ∨ j = 1 ∨ j = 2 ∨ j = 3 ∨ j = 4 ∨ j = 5 ∨ j = 6 ∨ j = 7 by omega) with rfl | rfl | rfl | rfl | rfl | rfl | rfl | rfl <;> rfl) (Nat.le_of_ble_eq_true rfl) (Nat.le_of_ble_eq_true rfl) dX6_init_16 (fun q16 H Z => ?_)
  have Z : ZK g (Ak h0 s.heap.size) s H _ (((h0, .inr (6, [.ref (ad5 0), .null])) :: (([] : va_W) ++ kX1 (g.1, g.2.1, ad5))) ++ [(q16, .inr (3, [.int 0, .int 0, .null, .null, .null, .null, .null, .int 0]))]) := Z
  refine lv_dup hx hb dX6_init_19 rfl ?_
  refine k_call C hA Z (n_X3 l) mi_X3 (Or.inr ⟨_, nw_5⟩) ⟨rfl, rfl, by decide, by decide⟩ ⟨Nat.le_of_ble_eq_true rfl, Nat.le_of_ble_eq_true rfl⟩ hl.1 (Nat.le_of_ble_eq_true rfl) dX6_init_20 (fun ad16 H locs hq Zn => ?_)
  subst hq
  have Z := Zn
  have Z : ZK g (Ak h0 s.heap.size) s H _ ((h0, .inr (6, [.ref (ad5 0), .null])) :: ((([] : va_W) ++ kX1 (g.1, g.2.1, ad5)) ++ kX3 (g.1, g.2.1, ad16))) := Z
  refine k_putF C Z (T := TX6) inlX6 tyX6 tyX6_ok nmX6 rfl (k := 1) (by decide) mw_256 rfl rfl (ty := tyX6 1) (tyX6_ok 1 (by decide)) rfl rfl (Nat.le_of_ble_eq_true rfl) rfl dX6_init_23 (fun H locs Z => ?_)
  have Z : ZK g (Ak h0 s.heap.size) s H _ ((h0, .inr (6, [.ref (ad5 0), .ref (ad16 0)])) :: ((([] : va_W) ++ kX1 (g.1, g.2.1, ad5)) ++ kX3 (g.1, g.2.1, ad16))) := Z
  have Z : ZK g (Ak h0 s.heap.size) s _ _ (kX6 (g.1, g.2.1, (fun k => ([h0, ad5 0, ad5 1, ad5 2, ad5 3, ad5 4, ad5 5, ad5 6, ad5 7, ad5 8, ad5 9, ad5 10, ad5 11, ad5 12, ad5 13, ad5 14, ad5 15, ad5 16, ad5 17, ad16 0, ad16 1, ad16 2, ad16 3, ad16 4, ad16 5, ad16 6, ad16 7, ad16 8, ad16 9, ad16 10] : List Nat).getD k 0))) := zk_conv Z (eqv_c rfl (eqv_c rfl (eqv_c rfl (eqv_f (fun i hi => match i, hi with | 0, _ => rfl | 1, _ => rfl | 2, _ => rfl | 3, _ => rfl | 4, _ => rfl) (eqv_c rfl (eqv_c rfl (eqv_c rfl (eqv_c rfl (eqv_c rfl (eqv_f (fun i hi => match i, hi with | 0, _ => rfl | 1, _ => rfl | 2, _ => rfl | 3, _ => rfl) (eqv_c rfl (eqv_c rfl (eqv_c rfl (eqv_c rfl (eqv_f (fun i hi => match i, hi with | 0, _ => rfl | 1, _ => rfl | 2, _ => rfl | 3, _ => rfl) (eqv_c rfl (eqv_c rfl (eqv_c rfl (eqv_c rfl (eqv_c rfl (eqv_c rfl (eqv_f (fun i hi => match i, hi with | 0, _ => rfl | 1, _ => rfl | 2, _ => rfl | 3, _ => rfl | 4, _ => rfl) (eqv_c rfl (eqv_c rfl (eqv_c rfl (eqv_c rfl (eqv_c rfl (eqv_c rfl (eqv_c rfl (eqv_c rfl eqv_n))))))))))))))))))))))))))))))
  exact k_ret (k := kX6) C Z (fun k => ([h0, ad5 0, ad5 1, ad5 2, ad5 3, ad5 4, ad5 5, ad5 6, ad5 7, ad5 8, ad5 9, ad5 10, ad5 11, ad5 12, ad5 13, ad5 14, ad5 15, ad5 16, ad5 17, ad16 0, ad16 1, ad16 2, ad16 3, ad16 4, ad16 5, ad16 6, ad16 7, ad16 8, ad16 9, ad16 10] : List Nat).getD k 0) rfl rfl dX6_init_26
