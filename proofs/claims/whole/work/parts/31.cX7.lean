def kX7 (g : Gx) : va_W := [(g.2.2 0, .inr (7, [.ref (g.2.2 1), .ref (g.2.2 3), .ref (g.2.2 23), .ref (g.2.2 53), .ref (g.2.2 58), .ref (g.2.2 59), .int 0])),
  (g.2.2 1, .inr (5, [.ref (g.2.2 2), .int 0, .int 0, .int 0, .int 0])),
  (g.2.2 2, .inl (g.2.1.1, 150, .inl (fun _ => 0))),
  (g.2.2 3, .inr (4, [.ref (g.2.2 4), .ref (g.2.2 22)])),
  (g.2.2 4, .inr (1, [.ref (g.2.2 5), .ref (g.2.2 6), .ref (g.2.2 12), .ref (g.2.2 17), .int 0, .int 0, .int 0])),
  (g.2.2 5, .inl (g.2.1.1, 24, .inl (fun _ => 0))),
  (g.2.2 6, .inl (g.2.1.2.1, 5, .inr (.inr (.inr (.inr (fun i => some (g.2.2 (7 + i)))))))),
  (g.2.2 7, .inl (g.2.1.1, 4, .inl (fun _ => 0))),
  (g.2.2 8, .inl (g.2.1.1, 4, .inl (fun _ => 0))),
  (g.2.2 9, .inl (g.2.1.1, 4, .inl (fun _ => 0))),
  (g.2.2 10, .inl (g.2.1.1, 4, .inl (fun _ => 0))),
  (g.2.2 11, .inl (g.2.1.1, 4, .inl (fun _ => 0))),
  (g.2.2 12, .inl (g.2.1.2.1, 4, .inr (.inr (.inr (.inr (fun i => some (g.2.2 (13 + i)))))))),
  (g.2.2 13, .inl (g.2.1.1, 2, .inl (fun _ => 0))),
  (g.2.2 14, .inl (g.2.1.1, 2, .inl (fun _ => 0))),
  (g.2.2 15, .inl (g.2.1.1, 2, .inl (fun _ => 0))),
  (g.2.2 16, .inl (g.2.1.1, 2, .inl (fun _ => 0))),
  (g.2.2 17, .inl (g.2.1.2.1, 4, .inr (.inr (.inr (.inr (fun i => some (g.2.2 (18 + i)))))))),
  (g.2.2 18, .inl (g.2.1.1, 3, .inl (fun _ => 0))),
  (g.2.2 19, .inl (g.2.1.1, 3, .inl (fun _ => 0))),
  (g.2.2 20, .inl (g.2.1.1, 3, .inl (fun _ => 0))),
  (g.2.2 21, .inl (g.2.1.1, 3, .inl (fun _ => 0))),
  (g.2.2 22, .inl (g.2.1.1, 4, .inl (fun _ => 0))),
  (g.2.2 23, .inr (6, [.ref (g.2.2 24), .ref (g.2.2 42)])),
  (g.2.2 24, .inr (1, [.ref (g.2.2 25), .ref (g.2.2 26), .ref (g.2.2 32), .ref (g.2.2 37), .int 0, .int 0, .int 0])),
  (g.2.2 25, .inl (g.2.1.1, 24, .inl (fun _ => 0))),
  (g.2.2 26, .inl (g.2.1.2.1, 5, .inr (.inr (.inr (.inr (fun i => some (g.2.2 (27 + i)))))))),
  (g.2.2 27, .inl (g.2.1.1, 4, .inl (fun _ => 0))),
  (g.2.2 28, .inl (g.2.1.1, 4, .inl (fun _ => 0))),
  (g.2.2 29, .inl (g.2.1.1, 4, .inl (fun _ => 0))),
  (g.2.2 30, .inl (g.2.1.1, 4, .inl (fun _ => 0))),
  (g.2.2 31, .inl (g.2.1.1, 4, .inl (fun _ => 0))),
  (g.2.2 32, .inl (g.2.1.2.1, 4, .inr (.inr (.inr (.inr (fun i => some (g.2.2 (33 + i)))))))),
  (g.2.2 33, .inl (g.2.1.1, 2, .inl (fun _ => 0))),
  (g.2.2 34, .inl (g.2.1.1, 2, .inl (fun _ => 0))),
  (g.2.2 35, .inl (g.2.1.1, 2, .inl (fun _ => 0))),
  (g.2.2 36, .inl (g.2.1.1, 2, .inl (fun _ => 0))),
  (g.2.2 37, .inl (g.2.1.2.1, 4, .inr (.inr (.inr (.inr (fun i => some (g.2.2 (38 + i)))))))),
  (g.2.2 38, .inl (g.2.1.1, 3, .inl (fun _ => 0))),
  (g.2.2 39, .inl (g.2.1.1, 3, .inl (fun _ => 0))),
  (g.2.2 40, .inl (g.2.1.1, 3, .inl (fun _ => 0))),
  (g.2.2 41, .inl (g.2.1.1, 3, .inl (fun _ => 0))),
  (g.2.2 42, .inr (3, [.int 0, .int 0, .ref (g.2.2 43), .ref (g.2.2 44), .ref (g.2.2 50), .ref (g.2.2 51), .ref (g.2.2 52), .int 0])),
  (g.2.2 43, .inl (g.2.1.1, 24, .inl (fun _ => 0))),
  (g.2.2 44, .inl (g.2.1.2.1, 5, .inr (.inr (.inr (.inr (fun i => some (g.2.2 (45 + i)))))))),
  (g.2.2 45, .inl (g.2.1.1, 4, .inl (fun _ => 0))),
  (g.2.2 46, .inl (g.2.1.1, 4, .inl (fun _ => 0))),
  (g.2.2 47, .inl (g.2.1.1, 4, .inl (fun _ => 0))),
  (g.2.2 48, .inl (g.2.1.1, 4, .inl (fun _ => 0))),
  (g.2.2 49, .inl (g.2.1.1, 4, .inl (fun _ => 0))),
  (g.2.2 50, .inl (g.2.1.1, 10, .inl (fun _ => 0))),
  (g.2.2 51, .inl (g.2.1.1, 10, .inl (fun _ => 0))),
  (g.2.2 52, .inl (g.2.1.1, 10, .inl (fun _ => 0))),
  (g.2.2 53, .inr (0, [.ref (g.2.2 54), .ref (g.2.2 55), .int 0, .ref (g.2.2 56), .ref (g.2.2 57), .int 0])),
  (g.2.2 54, .inl (g.2.1.1, 6, .inl (fun _ => 0))),
  (g.2.2 55, .inl (g.2.1.1, 6, .inl (fun _ => 0))),
  (g.2.2 56, .inl (g.2.1.1, 6, .inl (fun _ => 0))),
  (g.2.2 57, .inl (g.2.1.1, 6, .inl (fun _ => 0))),
  (g.2.2 58, .inr (2, [.long 0])),
  (g.2.2 59, .inl (g.2.1.2.2.1, 2, .inr (.inr (.inr (.inr (fun i => some (g.2.2 (60 + 11 * i)))))))),
  (g.2.2 60, .inr (3, [.int 0, .int 0, .ref (g.2.2 61), .ref (g.2.2 62), .ref (g.2.2 68), .ref (g.2.2 69), .ref (g.2.2 70), .int 0])),
  (g.2.2 61, .inl (g.2.1.1, 24, .inl (fun _ => 0))),
  (g.2.2 62, .inl (g.2.1.2.1, 5, .inr (.inr (.inr (.inr (fun i => some (g.2.2 (63 + i)))))))),
  (g.2.2 63, .inl (g.2.1.1, 4, .inl (fun _ => 0))),
  (g.2.2 64, .inl (g.2.1.1, 4, .inl (fun _ => 0))),
  (g.2.2 65, .inl (g.2.1.1, 4, .inl (fun _ => 0))),
  (g.2.2 66, .inl (g.2.1.1, 4, .inl (fun _ => 0))),
  (g.2.2 67, .inl (g.2.1.1, 4, .inl (fun _ => 0))),
  (g.2.2 68, .inl (g.2.1.1, 10, .inl (fun _ => 0))),
  (g.2.2 69, .inl (g.2.1.1, 10, .inl (fun _ => 0))),
  (g.2.2 70, .inl (g.2.1.1, 10, .inl (fun _ => 0))),
  (g.2.2 71, .inr (3, [.int 0, .int 0, .ref (g.2.2 72), .ref (g.2.2 73), .ref (g.2.2 79), .ref (g.2.2 80), .ref (g.2.2 81), .int 0])),
  (g.2.2 72, .inl (g.2.1.1, 24, .inl (fun _ => 0))),
  (g.2.2 73, .inl (g.2.1.2.1, 5, .inr (.inr (.inr (.inr (fun i => some (g.2.2 (74 + i)))))))),
  (g.2.2 74, .inl (g.2.1.1, 4, .inl (fun _ => 0))),
  (g.2.2 75, .inl (g.2.1.1, 4, .inl (fun _ => 0))),
  (g.2.2 76, .inl (g.2.1.1, 4, .inl (fun _ => 0))),
  (g.2.2 77, .inl (g.2.1.1, 4, .inl (fun _ => 0))),
  (g.2.2 78, .inl (g.2.1.1, 4, .inl (fun _ => 0))),
  (g.2.2 79, .inl (g.2.1.1, 10, .inl (fun _ => 0))),
  (g.2.2 80, .inl (g.2.1.1, 10, .inl (fun _ => 0))),
  (g.2.2 81, .inl (g.2.1.1, 10, .inl (fun _ => 0)))]
theorem mi_X7 : MFi yX7_init cX7_init 1 := ⟨mw_115, mw_114, mw_98, ⟨by decide +kernel, by decide +kernel⟩, by decide +kernel, rfl⟩
set_option maxHeartbeats 8000000 in
set_option maxRecDepth 100000 in
theorem n_X7 (l : Launch) {g : Gx} : CN l yX7_init (wsY yX7_init cX7_init 1 none) { frames := 3, cells := 81, slots := 625, locals := 52 } g (.inr (7, [.null, .null, .null, .null, .null, .null, .int 0])) kX7 81 625 := by
  refine CN_start (by decide +kernel) rfl rfl (fun {p e s m args below meth c ls h0} C hA Z hl => ?_)
  have hx := C.1
  have hb := C.2.1
  refine lv_aload_n hx hb dX7_init_0 rfl (lv_at hl 0 rfl) ?_
  refine k_obj C mw_116 ⟨mw_117, mw_118⟩ hl.1 dX7_init_1 (Nat.le_of_ble_eq_true rfl) (Nat.le_of_ble_eq_true rfl) ?_
  refine lv_aload_n hx hb dX7_init_4 rfl (lv_at hl 0 rfl) ?_
  refine k_new C hA Z (T := TX5) inlX5 tyX5 tyX5_ok ⟨mw_119, mw_120, mw_99⟩ (ci := 5) rfl (fs := [.null, .int 0, .int 0, .int 0, .int 0]) (fun j hj => by rcases (show j = 0 ∨ j = 1 ∨ j = 2 ∨ j = 3 ∨ j = 4 by omega) with rfl | rfl | rfl | rfl | rfl <;> rfl) (Nat.le_of_ble_eq_true rfl) (Nat.le_of_ble_eq_true rfl) dX7_init_5 (fun q5 H Z => ?_)
  have Z : ZK g (Ak h0 s.heap.size) s H _ (((h0, .inr (7, [.null, .null, .null, .null, .null, .null, .int 0])) :: ([] : va_W)) ++ [(q5, .inr (5, [.null, .int 0, .int 0, .int 0, .int 0]))]) := Z
  refine lv_dup hx hb dX7_init_8 rfl ?_
  refine k_call C hA Z (n_X5 l) mi_X5 (Or.inr ⟨_, nw_0⟩) ⟨rfl, rfl, by decide, by decide⟩ ⟨Nat.le_of_ble_eq_true rfl, Nat.le_of_ble_eq_true rfl⟩ hl.1 (Nat.le_of_ble_eq_true rfl) dX7_init_9 (fun ad5 H locs hq Zn => ?_)
  subst hq
  have Z := Zn
  have Z : ZK g (Ak h0 s.heap.size) s H _ ((h0, .inr (7, [.null, .null, .null, .null, .null, .null, .int 0])) :: (([] : va_W) ++ kX5 (g.1, g.2.1, ad5))) := Z
  refine k_putF C Z (T := TX7) inlX7 tyX7 tyX7_ok nmX7 rfl (k := 0) (by decide) mw_305 rfl rfl (ty := tyX7 0) (tyX7_ok 0 (by decide)) rfl rfl (Nat.le_of_ble_eq_true rfl) rfl dX7_init_12 (fun H locs Z => ?_)
  have Z : ZK g (Ak h0 s.heap.size) s H _ ((h0, .inr (7, [.ref (ad5 0), .null, .null, .null, .null, .null, .int 0])) :: (([] : va_W) ++ kX5 (g.1, g.2.1, ad5))) := Z
  refine lv_aload_n hx hb dX7_init_15 rfl (lv_at hl 0 rfl) ?_
  refine k_new C hA Z (T := TX4) inlX4 tyX4 tyX4_ok ⟨mw_145, mw_146, mw_100⟩ (ci := 4) rfl (fs := [.null, .null]) (fun j hj => by rcases (show j = 0 ∨ j = 1 by omega) with rfl | rfl <;> rfl) (Nat.le_of_ble_eq_true rfl) (Nat.le_of_ble_eq_true rfl) dX7_init_16 (fun q16 H Z => ?_)
  have Z : ZK g (Ak h0 s.heap.size) s H _ (((h0, .inr (7, [.ref (ad5 0), .null, .null, .null, .null, .null, .int 0])) :: (([] : va_W) ++ kX5 (g.1, g.2.1, ad5))) ++ [(q16, .inr (4, [.null, .null]))]) := Z
  refine lv_dup hx hb dX7_init_19 rfl ?_
  refine k_call C hA Z (n_X4 l) mi_X4 (Or.inr ⟨_, nw_1⟩) ⟨rfl, rfl, by decide, by decide⟩ ⟨Nat.le_of_ble_eq_true rfl, Nat.le_of_ble_eq_true rfl⟩ hl.1 (Nat.le_of_ble_eq_true rfl) dX7_init_20 (fun ad16 H locs hq Zn => ?_)
  subst hq
  have Z := Zn
  have Z : ZK g (Ak h0 s.heap.size) s H _ ((h0, .inr (7, [.ref (ad5 0), .null, .null, .null, .null, .null, .int 0])) :: ((([] : va_W) ++ kX5 (g.1, g.2.1, ad5)) ++ kX4 (g.1, g.2.1, ad16))) := Z
  refine k_putF C Z (T := TX7) inlX7 tyX7 tyX7_ok nmX7 rfl (k := 1) (by decide) mw_306 rfl rfl (ty := tyX7 1) (tyX7_ok 1 (by decide)) rfl rfl (Nat.le_of_ble_eq_true rfl) rfl dX7_init_23 (fun H locs Z => ?_)
  have Z : ZK g (Ak h0 s.heap.size) s H _ ((h0, .inr (7, [.ref (ad5 0), .ref (ad16 0), .null, .null, .null, .null, .int 0])) :: ((([] : va_W) ++ kX5 (g.1, g.2.1, ad5)) ++ kX4 (g.1, g.2.1, ad16))) := Z
  refine lv_aload_n hx hb dX7_init_26 rfl (lv_at hl 0 rfl) ?_
  refine k_new C hA Z (T := TX6) inlX6 tyX6 tyX6_ok ⟨mw_203, mw_204, mw_102⟩ (ci := 6) rfl (fs := [.null, .null]) (fun j hj => by rcases (show j = 0 ∨ j = 1 by omega) with rfl | rfl <;> rfl) (Nat.le_of_ble_eq_true rfl) (Nat.le_of_ble_eq_true rfl) dX7_init_27 (fun q27 H Z => ?_)
  have Z : ZK g (Ak h0 s.heap.size) s H _ (((h0, .inr (7, [.ref (ad5 0), .ref (ad16 0), .null, .null, .null, .null, .int 0])) :: ((([] : va_W) ++ kX5 (g.1, g.2.1, ad5)) ++ kX4 (g.1, g.2.1, ad16))) ++ [(q27, .inr (6, [.null, .null]))]) := Z
  refine lv_dup hx hb dX7_init_30 rfl ?_
  refine k_call C hA Z (n_X6 l) mi_X6 (Or.inr ⟨_, nw_3⟩) ⟨rfl, rfl, by decide, by decide⟩ ⟨Nat.le_of_ble_eq_true rfl, Nat.le_of_ble_eq_true rfl⟩ hl.1 (Nat.le_of_ble_eq_true rfl) dX7_init_31 (fun ad27 H locs hq Zn => ?_)
  subst hq
  have Z := Zn
  have Z : ZK g (Ak h0 s.heap.size) s H _ ((h0, .inr (7, [.ref (ad5 0), .ref (ad16 0), .null, .null, .null, .null, .int 0])) :: (((([] : va_W) ++ kX5 (g.1, g.2.1, ad5)) ++ kX4 (g.1, g.2.1, ad16)) ++ kX6 (g.1, g.2.1, ad27))) := Z
  refine k_putF C Z (T := TX7) inlX7 tyX7 tyX7_ok nmX7 rfl (k := 2) (by decide) mw_307 rfl rfl (ty := tyX7 2) (tyX7_ok 2 (by decide)) rfl rfl (Nat.le_of_ble_eq_true rfl) rfl dX7_init_34 (fun H locs Z => ?_)
  have Z : ZK g (Ak h0 s.heap.size) s H _ ((h0, .inr (7, [.ref (ad5 0), .ref (ad16 0), .ref (ad27 0), .null, .null, .null, .int 0])) :: (((([] : va_W) ++ kX5 (g.1, g.2.1, ad5)) ++ kX4 (g.1, g.2.1, ad16)) ++ kX6 (g.1, g.2.1, ad27))) := Z
  refine lv_aload_n hx hb dX7_init_37 rfl (lv_at hl 0 rfl) ?_
  refine k_new C hA Z (T := TX0) inlX0 tyX0 tyX0_ok ⟨mw_264, mw_265, mw_104⟩ (ci := 0) rfl (fs := [.null, .null, .int 0, .null, .null, .int 0]) (fun j hj => by rcases (show j = 0 ∨ j = 1 ∨ j = 2 ∨ j = 3 ∨ j = 4 ∨ j = 5 by omega) with rfl | rfl | rfl | rfl | rfl | rfl <;> rfl) (Nat.le_of_ble_eq_true rfl) (Nat.le_of_ble_eq_true rfl) dX7_init_38 (fun q38 H Z => ?_)
  have Z : ZK g (Ak h0 s.heap.size) s H _ (((h0, .inr (7, [.ref (ad5 0), .ref (ad16 0), .ref (ad27 0), .null, .null, .null, .int 0])) :: (((([] : va_W) ++ kX5 (g.1, g.2.1, ad5)) ++ kX4 (g.1, g.2.1, ad16)) ++ kX6 (g.1, g.2.1, ad27))) ++ [(q38, .inr (0, [.null, .null, .int 0, .null, .null, .int 0]))]) := Z
  refine lv_dup hx hb dX7_init_41 rfl ?_
  refine k_call C hA Z (n_X0 l) mi_X0 (Or.inr ⟨_, nw_6⟩) ⟨rfl, rfl, by decide, by decide⟩ ⟨Nat.le_of_ble_eq_true rfl, Nat.le_of_ble_eq_true rfl⟩ hl.1 (Nat.le_of_ble_eq_true rfl) dX7_init_42 (fun ad38 H locs hq Zn => ?_)
  subst hq
  have Z := Zn
  have Z : ZK g (Ak h0 s.heap.size) s H _ ((h0, .inr (7, [.ref (ad5 0), .ref (ad16 0), .ref (ad27 0), .null, .null, .null, .int 0])) :: ((((([] : va_W) ++ kX5 (g.1, g.2.1, ad5)) ++ kX4 (g.1, g.2.1, ad16)) ++ kX6 (g.1, g.2.1, ad27)) ++ kX0 (g.1, g.2.1, ad38))) := Z
  refine k_putF C Z (T := TX7) inlX7 tyX7 tyX7_ok nmX7 rfl (k := 3) (by decide) mw_308 rfl rfl (ty := tyX7 3) (tyX7_ok 3 (by decide)) rfl rfl (Nat.le_of_ble_eq_true rfl) rfl dX7_init_45 (fun H locs Z => ?_)
  have Z : ZK g (Ak h0 s.heap.size) s H _ ((h0, .inr (7, [.ref (ad5 0), .ref (ad16 0), .ref (ad27 0), .ref (ad38 0), .null, .null, .int 0])) :: ((((([] : va_W) ++ kX5 (g.1, g.2.1, ad5)) ++ kX4 (g.1, g.2.1, ad16)) ++ kX6 (g.1, g.2.1, ad27)) ++ kX0 (g.1, g.2.1, ad38))) := Z
  refine lv_aload_n hx hb dX7_init_48 rfl (lv_at hl 0 rfl) ?_
  refine k_new C hA Z (T := TX2) inlX2 tyX2 tyX2_ok ⟨mw_291, mw_292, mw_105⟩ (ci := 2) rfl (fs := [.long 0]) (fun j hj => by rcases (show j = 0 by omega) with rfl <;> rfl) (Nat.le_of_ble_eq_true rfl) (Nat.le_of_ble_eq_true rfl) dX7_init_49 (fun q49 H Z => ?_)
  have Z : ZK g (Ak h0 s.heap.size) s H _ (((h0, .inr (7, [.ref (ad5 0), .ref (ad16 0), .ref (ad27 0), .ref (ad38 0), .null, .null, .int 0])) :: ((((([] : va_W) ++ kX5 (g.1, g.2.1, ad5)) ++ kX4 (g.1, g.2.1, ad16)) ++ kX6 (g.1, g.2.1, ad27)) ++ kX0 (g.1, g.2.1, ad38))) ++ [(q49, .inr (2, [.long 0]))]) := Z
  refine lv_dup hx hb dX7_init_52 rfl ?_
  refine k_call C hA Z (n_X2 l) mi_X2 (Or.inr ⟨_, nw_7⟩) ⟨rfl, rfl, by decide, by decide⟩ ⟨Nat.le_of_ble_eq_true rfl, Nat.le_of_ble_eq_true rfl⟩ hl.1 (Nat.le_of_ble_eq_true rfl) dX7_init_53 (fun ad49 H locs hq Zn => ?_)
  subst hq
  have Z := Zn
  have Z : ZK g (Ak h0 s.heap.size) s H _ ((h0, .inr (7, [.ref (ad5 0), .ref (ad16 0), .ref (ad27 0), .ref (ad38 0), .null, .null, .int 0])) :: (((((([] : va_W) ++ kX5 (g.1, g.2.1, ad5)) ++ kX4 (g.1, g.2.1, ad16)) ++ kX6 (g.1, g.2.1, ad27)) ++ kX0 (g.1, g.2.1, ad38)) ++ kX2 (g.1, g.2.1, ad49))) := Z
  refine k_putF C Z (T := TX7) inlX7 tyX7 tyX7_ok nmX7 rfl (k := 4) (by decide) mw_309 rfl rfl (ty := tyX7 4) (tyX7_ok 4 (by decide)) rfl rfl (Nat.le_of_ble_eq_true rfl) rfl dX7_init_56 (fun H locs Z => ?_)
  have Z : ZK g (Ak h0 s.heap.size) s H _ ((h0, .inr (7, [.ref (ad5 0), .ref (ad16 0), .ref (ad27 0), .ref (ad38 0), .ref (ad49 0), .null, .int 0])) :: (((((([] : va_W) ++ kX5 (g.1, g.2.1, ad5)) ++ kX4 (g.1, g.2.1, ad16)) ++ kX6 (g.1, g.2.1, ad27)) ++ kX0 (g.1, g.2.1, ad38)) ++ kX2 (g.1, g.2.1, ad49))) := Z
  refine lv_aload_n hx hb dX7_init_59 rfl (lv_at hl 0 rfl) ?_
  refine lv_iconst (v := 2) hx hb dX7_init_60 (by decide +kernel) ?_
  refine k_newq C hA Z mw_302 (by decide) (N := 2) (by decide) (by decide) (Nat.le_of_ble_eq_true rfl) (Nat.le_of_ble_eq_true rfl) dX7_init_61 (fun q61 H Z => ?_)
  have Z : ZK g (Ak h0 s.heap.size) s H _ ((h0, .inr (7, [.ref (ad5 0), .ref (ad16 0), .ref (ad27 0), .ref (ad38 0), .ref (ad49 0), .null, .int 0])) :: ((((((([] : va_W) ++ kX5 (g.1, g.2.1, ad5)) ++ kX4 (g.1, g.2.1, ad16)) ++ kX6 (g.1, g.2.1, ad27)) ++ kX0 (g.1, g.2.1, ad38)) ++ kX2 (g.1, g.2.1, ad49)) ++ [(q61, .inl (g.2.1.2.2.1, 2, .inr (.inr (.inr (.inr (fun _ => none))))))])) := Z
  refine lv_dup hx hb dX7_init_64 rfl ?_
  refine lv_iconst (v := 0) hx hb dX7_init_65 (by decide +kernel) ?_
  refine k_new C hA Z (T := TX3) inlX3 tyX3 tyX3_ok ⟨mw_302, mw_212, mw_103⟩ (ci := 3) rfl (fs := [.int 0, .int 0, .null, .null, .null, .null, .null, .int 0]) (fun j hj => by rcases (show j = 0 ∨ j = 1 ∨ j = 2 ∨ j = 3 ∨ j = 4 ∨ j = 5 ∨ j = 6 ∨ j = 7 by omega) with rfl | rfl | rfl | rfl | rfl | rfl | rfl | rfl <;> rfl) (Nat.le_of_ble_eq_true rfl) (Nat.le_of_ble_eq_true rfl) dX7_init_66 (fun q66 H Z => ?_)
  have Z : ZK g (Ak h0 s.heap.size) s H _ (((h0, .inr (7, [.ref (ad5 0), .ref (ad16 0), .ref (ad27 0), .ref (ad38 0), .ref (ad49 0), .null, .int 0])) :: ((((((([] : va_W) ++ kX5 (g.1, g.2.1, ad5)) ++ kX4 (g.1, g.2.1, ad16)) ++ kX6 (g.1, g.2.1, ad27)) ++ kX0 (g.1, g.2.1, ad38)) ++ kX2 (g.1, g.2.1, ad49)) ++ [(q61, .inl (g.2.1.2.2.1, 2, .inr (.inr (.inr (.inr (fun _ => none))))))])) ++ [(q66, .inr (3, [.int 0, .int 0, .null, .null, .null, .null, .null, .int 0]))]) := Z
  refine lv_dup hx hb dX7_init_69 rfl ?_
  refine k_call C hA Z (n_X3 l) mi_X3 (Or.inr ⟨_, nw_8⟩) ⟨rfl, rfl, by decide, by decide⟩ ⟨Nat.le_of_ble_eq_true rfl, Nat.le_of_ble_eq_true rfl⟩ hl.1 (Nat.le_of_ble_eq_true rfl) dX7_init_70 (fun ad66 H locs hq Zn => ?_)
  subst hq
  have Z := Zn
  have Z : ZK g (Ak h0 s.heap.size) s H _ ((h0, .inr (7, [.ref (ad5 0), .ref (ad16 0), .ref (ad27 0), .ref (ad38 0), .ref (ad49 0), .null, .int 0])) :: (((((((([] : va_W) ++ kX5 (g.1, g.2.1, ad5)) ++ kX4 (g.1, g.2.1, ad16)) ++ kX6 (g.1, g.2.1, ad27)) ++ kX0 (g.1, g.2.1, ad38)) ++ kX2 (g.1, g.2.1, ad49)) ++ [(q61, .inl (g.2.1.2.2.1, 2, .inr (.inr (.inr (.inr (fun _ => none))))))]) ++ kX3 (g.1, g.2.1, ad66))) := Z
  refine k_astq C Z 59 60 rfl rfl (i := 0) (k := 0) (by unfold vp_in; decide) (by decide) (ws' := ((h0, .inr (7, [.ref (ad5 0), .ref (ad16 0), .ref (ad27 0), .ref (ad38 0), .ref (ad49 0), .null, .int 0])) :: (((((((([] : va_W) ++ kX5 (g.1, g.2.1, ad5)) ++ kX4 (g.1, g.2.1, ad16)) ++ kX6 (g.1, g.2.1, ad27)) ++ kX0 (g.1, g.2.1, ad38)) ++ kX2 (g.1, g.2.1, ad49)) ++ [(q61, .inl (g.2.1.2.2.1, 2, .inr (.inr (.inr (.inr (va_up (fun _ => none) 0 (some (ad66 0))))))))]) ++ kX3 (g.1, g.2.1, ad66)))) rfl dX7_init_73 (fun H locs Z => ?_)
  refine lv_dup hx hb dX7_init_74 rfl ?_
  refine lv_iconst (v := 1) hx hb dX7_init_75 (by decide +kernel) ?_
  refine k_new C hA Z (T := TX3) inlX3 tyX3 tyX3_ok ⟨mw_302, mw_212, mw_103⟩ (ci := 3) rfl (fs := [.int 0, .int 0, .null, .null, .null, .null, .null, .int 0]) (fun j hj => by rcases (show j = 0 ∨ j = 1 ∨ j = 2 ∨ j = 3 ∨ j = 4 ∨ j = 5 ∨ j = 6 ∨ j = 7 by omega) with rfl | rfl | rfl | rfl | rfl | rfl | rfl | rfl <;> rfl) (Nat.le_of_ble_eq_true rfl) (Nat.le_of_ble_eq_true rfl) dX7_init_76 (fun q76 H Z => ?_)
  have Z : ZK g (Ak h0 s.heap.size) s H _ (((h0, .inr (7, [.ref (ad5 0), .ref (ad16 0), .ref (ad27 0), .ref (ad38 0), .ref (ad49 0), .null, .int 0])) :: (((((((([] : va_W) ++ kX5 (g.1, g.2.1, ad5)) ++ kX4 (g.1, g.2.1, ad16)) ++ kX6 (g.1, g.2.1, ad27)) ++ kX0 (g.1, g.2.1, ad38)) ++ kX2 (g.1, g.2.1, ad49)) ++ [(q61, .inl (g.2.1.2.2.1, 2, .inr (.inr (.inr (.inr (va_up (fun _ => none) 0 (some (ad66 0))))))))]) ++ kX3 (g.1, g.2.1, ad66))) ++ [(q76, .inr (3, [.int 0, .int 0, .null, .null, .null, .null, .null, .int 0]))]) := Z
  refine lv_dup hx hb dX7_init_79 rfl ?_
  refine k_call C hA Z (n_X3 l) mi_X3 (Or.inr ⟨_, nw_8⟩) ⟨rfl, rfl, by decide, by decide⟩ ⟨Nat.le_of_ble_eq_true rfl, Nat.le_of_ble_eq_true rfl⟩ hl.1 (Nat.le_of_ble_eq_true rfl) dX7_init_80 (fun ad76 H locs hq Zn => ?_)
  subst hq
  have Z := Zn
  have Z : ZK g (Ak h0 s.heap.size) s H _ ((h0, .inr (7, [.ref (ad5 0), .ref (ad16 0), .ref (ad27 0), .ref (ad38 0), .ref (ad49 0), .null, .int 0])) :: ((((((((([] : va_W) ++ kX5 (g.1, g.2.1, ad5)) ++ kX4 (g.1, g.2.1, ad16)) ++ kX6 (g.1, g.2.1, ad27)) ++ kX0 (g.1, g.2.1, ad38)) ++ kX2 (g.1, g.2.1, ad49)) ++ [(q61, .inl (g.2.1.2.2.1, 2, .inr (.inr (.inr (.inr (va_up (fun _ => none) 0 (some (ad66 0))))))))]) ++ kX3 (g.1, g.2.1, ad66)) ++ kX3 (g.1, g.2.1, ad76))) := Z
  refine k_astq C Z 59 71 rfl rfl (i := 1) (k := 1) (by unfold vp_in; decide) (by decide) (ws' := ((h0, .inr (7, [.ref (ad5 0), .ref (ad16 0), .ref (ad27 0), .ref (ad38 0), .ref (ad49 0), .null, .int 0])) :: ((((((((([] : va_W) ++ kX5 (g.1, g.2.1, ad5)) ++ kX4 (g.1, g.2.1, ad16)) ++ kX6 (g.1, g.2.1, ad27)) ++ kX0 (g.1, g.2.1, ad38)) ++ kX2 (g.1, g.2.1, ad49)) ++ [(q61, .inl (g.2.1.2.2.1, 2, .inr (.inr (.inr (.inr (va_up (va_up (fun _ => none) 0 (some (ad66 0))) 1 (some (ad76 0))))))))]) ++ kX3 (g.1, g.2.1, ad66)) ++ kX3 (g.1, g.2.1, ad76)))) rfl dX7_init_83 (fun H locs Z => ?_)
  refine k_putF C Z (T := TX7) inlX7 tyX7 tyX7_ok nmX7 rfl (k := 5) (by decide) mw_310 rfl rfl (ty := tyX7 5) (tyX7_ok 5 (by decide)) rfl rfl (Nat.le_of_ble_eq_true rfl) rfl dX7_init_84 (fun H locs Z => ?_)
  have Z : ZK g (Ak h0 s.heap.size) s H _ ((h0, .inr (7, [.ref (ad5 0), .ref (ad16 0), .ref (ad27 0), .ref (ad38 0), .ref (ad49 0), .ref q61, .int 0])) :: ((((((((([] : va_W) ++ kX5 (g.1, g.2.1, ad5)) ++ kX4 (g.1, g.2.1, ad16)) ++ kX6 (g.1, g.2.1, ad27)) ++ kX0 (g.1, g.2.1, ad38)) ++ kX2 (g.1, g.2.1, ad49)) ++ [(q61, .inl (g.2.1.2.2.1, 2, .inr (.inr (.inr (.inr (va_up (va_up (fun _ => none) 0 (some (ad66 0))) 1 (some (ad76 0))))))))]) ++ kX3 (g.1, g.2.1, ad66)) ++ kX3 (g.1, g.2.1, ad76))) := Z
  have Z : ZK g (Ak h0 s.heap.size) s _ _ (kX7 (g.1, g.2.1, (fun k => ([h0, ad5 0, ad5 1, ad16 0, ad16 1, ad16 2, ad16 3, ad16 4, ad16 5, ad16 6, ad16 7, ad16 8, ad16 9, ad16 10, ad16 11, ad16 12, ad16 13, ad16 14, ad16 15, ad16 16, ad16 17, ad16 18, ad16 19, ad27 0, ad27 1, ad27 2, ad27 3, ad27 4, ad27 5, ad27 6, ad27 7, ad27 8, ad27 9, ad27 10, ad27 11, ad27 12, ad27 13, ad27 14, ad27 15, ad27 16, ad27 17, ad27 18, ad27 19, ad27 20, ad27 21, ad27 22, ad27 23, ad27 24, ad27 25, ad27 26, ad27 27, ad27 28, ad27 29, ad38 0, ad38 1, ad38 2, ad38 3, ad38 4, ad49 0, q61, ad66 0, ad66 1, ad66 2, ad66 3, ad66 4, ad66 5, ad66 6, ad66 7, ad66 8, ad66 9, ad66 10, ad76 0, ad76 1, ad76 2, ad76 3, ad76 4, ad76 5, ad76 6, ad76 7, ad76 8, ad76 9, ad76 10] : List Nat).getD k 0))) := zk_conv Z (eqv_c rfl (eqv_c rfl (eqv_c rfl (eqv_c rfl (eqv_c rfl (eqv_c rfl (eqv_f (fun i hi => match i, hi with | 0, _ => rfl | 1, _ => rfl | 2, _ => rfl | 3, _ => rfl | 4, _ => rfl) (eqv_c rfl (eqv_c rfl (eqv_c rfl (eqv_c rfl (eqv_c rfl (eqv_f (fun i hi => match i, hi with | 0, _ => rfl | 1, _ => rfl | 2, _ => rfl | 3, _ => rfl) (eqv_c rfl (eqv_c rfl (eqv_c rfl (eqv_c rfl (eqv_f (fun i hi => match i, hi with | 0, _ => rfl | 1, _ => rfl | 2, _ => rfl | 3, _ => rfl) (eqv_c rfl (eqv_c rfl (eqv_c rfl (eqv_c rfl (eqv_c rfl (eqv_c rfl (eqv_c rfl (eqv_c rfl (eqv_f (fun i hi => match i, hi with | 0, _ => rfl | 1, _ => rfl | 2, _ => rfl | 3, _ => rfl | 4, _ => rfl) (eqv_c rfl (eqv_c rfl (eqv_c rfl (eqv_c rfl (eqv_c rfl (eqv_f (fun i hi => match i, hi with | 0, _ => rfl | 1, _ => rfl | 2, _ => rfl | 3, _ => rfl) (eqv_c rfl (eqv_c rfl (eqv_c rfl (eqv_c rfl (eqv_f (fun i hi => match i, hi with | 0, _ => rfl | 1, _ => rfl | 2, _ => rfl | 3, _ => rfl) (eqv_c rfl (eqv_c rfl (eqv_c rfl (eqv_c rfl (eqv_c rfl (eqv_c rfl (eqv_f (fun i hi => match i, hi with | 0, _ => rfl | 1, _ => rfl | 2, _ => rfl | 3, _ => rfl | 4, _ => rfl) (eqv_c rfl (eqv_c rfl (eqv_c rfl (eqv_c rfl (eqv_c rfl (eqv_c rfl (eqv_c rfl (eqv_c rfl (eqv_c rfl (eqv_c rfl (eqv_c rfl (eqv_c rfl (eqv_c rfl (eqv_c rfl (eqv_f (fun i hi => match i, hi with | 0, _ => rfl | 1, _ => rfl) (eqv_c rfl (eqv_c rfl (eqv_f (fun i hi => match i, hi with | 0, _ => rfl | 1, _ => rfl | 2, _ => rfl | 3, _ => rfl | 4, _ => rfl) (eqv_c rfl (eqv_c rfl (eqv_c rfl (eqv_c rfl (eqv_c rfl (eqv_c rfl (eqv_c rfl (eqv_c rfl (eqv_c rfl (eqv_c rfl (eqv_f (fun i hi => match i, hi with | 0, _ => rfl | 1, _ => rfl | 2, _ => rfl | 3, _ => rfl | 4, _ => rfl) (eqv_c rfl (eqv_c rfl (eqv_c rfl (eqv_c rfl (eqv_c rfl (eqv_c rfl (eqv_c rfl (eqv_c rfl eqv_n))))))))))))))))))))))))))))))))))))))))))))))))))))))))))))))))))))))))))))))))))
  exact k_ret (k := kX7) C Z (fun k => ([h0, ad5 0, ad5 1, ad16 0, ad16 1, ad16 2, ad16 3, ad16 4, ad16 5, ad16 6, ad16 7, ad16 8, ad16 9, ad16 10, ad16 11, ad16 12, ad16 13, ad16 14, ad16 15, ad16 16, ad16 17, ad16 18, ad16 19, ad27 0, ad27 1, ad27 2, ad27 3, ad27 4, ad27 5, ad27 6, ad27 7, ad27 8, ad27 9, ad27 10, ad27 11, ad27 12, ad27 13, ad27 14, ad27 15, ad27 16, ad27 17, ad27 18, ad27 19, ad27 20, ad27 21, ad27 22, ad27 23, ad27 24, ad27 25, ad27 26, ad27 27, ad27 28, ad27 29, ad38 0, ad38 1, ad38 2, ad38 3, ad38 4, ad49 0, q61, ad66 0, ad66 1, ad66 2, ad66 3, ad66 4, ad66 5, ad66 6, ad66 7, ad66 8, ad66 9, ad66 10, ad76 0, ad76 1, ad76 2, ad76 3, ad76 4, ad76 5, ad76 6, ad76 7, ad76 8, ad76 9, ad76 10] : List Nat).getD k 0) rfl rfl dX7_init_87
