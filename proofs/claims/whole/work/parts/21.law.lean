def f_law_0 (xs : Nat → Int32) (L : Nat) (k : Int32 → St → St → Option Int32) (x3 : Int32) (u v : St) : Option Int32 :=
  if oob (x3 + 1) L then none else
  Option.bind (f_X7_type u (xs (Int32.toNatClampNeg (x3 + 1)))) fun r170 =>
  Option.bind (f_X8_type v (xs (Int32.toNatClampNeg (x3 + 1)))) fun r179 =>
  if r170.1 = r179.1 then
    k (x3 + 7) r170.2 r179.2
  else some 0
set_option maxHeartbeats 4000000 in
set_option maxRecDepth 100000 in
theorem b_law_0 {p : Program} {l : Launch} {e : Env} {s : State} {m : MethodId} {below : List Frame} {meth : Method} {c : Code} {H : Heap} {locs : List Loc} {b L : Nat} {xs : Nat → Int32} {g g' : Gx} {u v : St} {ls : Array Slot} {x3 : Int32} {k : Int32 → St → St → Option Int32} (C : LC p s m meth c b L xs g g') (ih : ∀ (x3 : Int32) (u v : St) (H : Heap) (locs : List Loc) (ls : Array Slot), LZ s g g' H locs u v → lv_has ls 4 [(0, .ref b), (1, .ref (g.2.2 0)), (2, .ref (g'.2.2 0)), (3, .int x3)] → k x3 u v = some 1 → W p l e room_1 s m #[Value.ref b] below meth c H locs 600000 7302250 (lw_Z below #[Value.ref b] s) (F0 m 18 ls [])) (Z : LZ s g g' H locs u v) (hl : lv_has ls 4 [(0, .ref b), (1, .ref (g.2.2 0)), (2, .ref (g'.2.2 0)), (3, .int x3)]) (hf : f_law_0 xs L k x3 u v = some 1) : W p l e room_1 s m #[Value.ref b] below meth c H locs 600000 7302250 (lw_Z below #[Value.ref b] s) (F0 m 164 ls []) := by
  have hx := C.1.1
  have hb := C.1.2.1
  unfold f_law_0 at hf
  refine lv_aload_n hx hb dL_law_164 rfl (lv_at hl 1 rfl) ?_
  refine lv_aload_n hx hb dL_law_165 rfl (lv_at hl 0 rfl) ?_
  refine lv_iload_n hx hb dL_law_166 rfl (lv_at hl 3 rfl) ?_
  refine lv_iconst (v := 1) hx hb dL_law_167 (by decide +kernel) ?_
  refine lv_iadd hx hb dL_law_168 ?_
  by_cases ho169 : oob (x3 + 1) L = true
  · rw [if_pos ho169] at hf; cases hf
  rw [if_neg ho169] at hf
  refine law_sld C Z ho169 dL_law_169 ?_
  obtain ⟨r170, hr170, hf⟩ := Option.bind_eq_some_iff.mp hf
  refine law_ci (As := [.int (xs (Int32.toNatClampNeg (x3 + 1)))]) (rest := []) C Z (c_X7_type l hr170) mf_X7_type mw_327 rfl (oC_0 _ _) rfl ⟨rfl, rfl, by decide, by decide⟩ rfl hl.1 (Nat.le_of_ble_eq_true rfl) dL_law_170 (fun H locs Z => ?_)
  refine lv_aload_n hx hb dL_law_173 rfl (lv_at hl 2 rfl) ?_
  refine lv_aload_n hx hb dL_law_174 rfl (lv_at hl 0 rfl) ?_
  refine lv_iload_n hx hb dL_law_175 rfl (lv_at hl 3 rfl) ?_
  refine lv_iconst (v := 1) hx hb dL_law_176 (by decide +kernel) ?_
  refine lv_iadd hx hb dL_law_177 ?_
  refine law_sld C Z ho169 dL_law_178 ?_
  obtain ⟨r179, hr179, hf⟩ := Option.bind_eq_some_iff.mp hf
  refine law_mi (As := [.int (xs (Int32.toNatClampNeg (x3 + 1)))]) (rest := [.int r170.1]) C Z (c_X8_type l hr179) mf_X8_type mw_930 rfl (oM_0 _ _) rfl ⟨rfl, rfl, by decide, by decide⟩ rfl hl.1 (Nat.le_of_ble_eq_true rfl) dL_law_179 (fun H locs Z => ?_)
  refine lv_icmp_eq (tgt := 914) hx hb dL_law_182 (by decide) (fun hc => ?_) (fun hc => ?_)
  · rw [if_pos hc] at hf
    refine lv_iinc (v := x3 + 7) (lv' := [(3, .int (x3 + 7)), (0, .ref b), (1, .ref (g.2.2 0)), (2, .ref (g'.2.2 0))]) hx hb dL_law_914 hl (k := 3) rfl rfl (by decide) rfl (fun ls hl => ?_)
    refine lv_goto (tgt := 18) hx hb dL_law_917 (by decide) ?_
    exact ih _ _ _ _ _ _ Z (lv_sub hl [1, 2, 3, 0] rfl) hf
  · rw [if_neg hc] at hf
    exact absurd (Option.some.inj hf) (by decide)
def f_law_1 (xs : Nat → Int32) (L : Nat) (k : Int32 → St → St → Option Int32) (x3 : Int32) (u v : St) : Option Int32 :=
  Option.bind (f_X7_clear u) fun r188 =>
  Option.bind (f_X8_clear v) fun r192 =>
  if r188.1 = r192.1 then
    k (x3 + 7) r188.2 r192.2
  else some 0
set_option maxHeartbeats 4000000 in
set_option maxRecDepth 100000 in
theorem b_law_1 {p : Program} {l : Launch} {e : Env} {s : State} {m : MethodId} {below : List Frame} {meth : Method} {c : Code} {H : Heap} {locs : List Loc} {b L : Nat} {xs : Nat → Int32} {g g' : Gx} {u v : St} {ls : Array Slot} {x3 : Int32} {k : Int32 → St → St → Option Int32} (C : LC p s m meth c b L xs g g') (ih : ∀ (x3 : Int32) (u v : St) (H : Heap) (locs : List Loc) (ls : Array Slot), LZ s g g' H locs u v → lv_has ls 4 [(0, .ref b), (1, .ref (g.2.2 0)), (2, .ref (g'.2.2 0)), (3, .int x3)] → k x3 u v = some 1 → W p l e room_1 s m #[Value.ref b] below meth c H locs 600000 7302250 (lw_Z below #[Value.ref b] s) (F0 m 18 ls [])) (Z : LZ s g g' H locs u v) (hl : lv_has ls 4 [(0, .ref b), (1, .ref (g.2.2 0)), (2, .ref (g'.2.2 0)), (3, .int x3)]) (hf : f_law_1 xs L k x3 u v = some 1) : W p l e room_1 s m #[Value.ref b] below meth c H locs 600000 7302250 (lw_Z below #[Value.ref b] s) (F0 m 187 ls []) := by
  have hx := C.1.1
  have hb := C.1.2.1
  unfold f_law_1 at hf
  refine lv_aload_n hx hb dL_law_187 rfl (lv_at hl 1 rfl) ?_
  obtain ⟨r188, hr188, hf⟩ := Option.bind_eq_some_iff.mp hf
  refine law_ci (As := []) (rest := []) C Z (c_X7_clear l hr188) mf_X7_clear mw_338 rfl (oC_0 _ _) rfl ⟨rfl, rfl, by decide, by decide⟩ rfl hl.1 (Nat.le_of_ble_eq_true rfl) dL_law_188 (fun H locs Z => ?_)
  refine lv_aload_n hx hb dL_law_191 rfl (lv_at hl 2 rfl) ?_
  obtain ⟨r192, hr192, hf⟩ := Option.bind_eq_some_iff.mp hf
  refine law_mi (As := []) (rest := [.int r188.1]) C Z (c_X8_clear l hr192) mf_X8_clear mw_937 rfl (oM_0 _ _) rfl ⟨rfl, rfl, by decide, by decide⟩ rfl hl.1 (Nat.le_of_ble_eq_true rfl) dL_law_192 (fun H locs Z => ?_)
  refine lv_icmp_eq (tgt := 914) hx hb dL_law_195 (by decide) (fun hc => ?_) (fun hc => ?_)
  · rw [if_pos hc] at hf
    refine lv_iinc (v := x3 + 7) (lv' := [(3, .int (x3 + 7)), (0, .ref b), (1, .ref (g.2.2 0)), (2, .ref (g'.2.2 0))]) hx hb dL_law_914 hl (k := 3) rfl rfl (by decide) rfl (fun ls hl => ?_)
    refine lv_goto (tgt := 18) hx hb dL_law_917 (by decide) ?_
    exact ih _ _ _ _ _ _ Z (lv_sub hl [1, 2, 3, 0] rfl) hf
  · rw [if_neg hc] at hf
    exact absurd (Option.some.inj hf) (by decide)
def f_law_2 (xs : Nat → Int32) (L : Nat) (k : Int32 → St → St → Option Int32) (x3 : Int32) (u v : St) : Option Int32 :=
  Option.bind (f_X7_diocese u) fun r201 =>
  Option.bind (f_X8_diocese v) fun r205 =>
  if r201.1 = r205.1 then
    k (x3 + 7) r201.2 r205.2
  else some 0
set_option maxHeartbeats 4000000 in
set_option maxRecDepth 100000 in
theorem b_law_2 {p : Program} {l : Launch} {e : Env} {s : State} {m : MethodId} {below : List Frame} {meth : Method} {c : Code} {H : Heap} {locs : List Loc} {b L : Nat} {xs : Nat → Int32} {g g' : Gx} {u v : St} {ls : Array Slot} {x3 : Int32} {k : Int32 → St → St → Option Int32} (C : LC p s m meth c b L xs g g') (ih : ∀ (x3 : Int32) (u v : St) (H : Heap) (locs : List Loc) (ls : Array Slot), LZ s g g' H locs u v → lv_has ls 4 [(0, .ref b), (1, .ref (g.2.2 0)), (2, .ref (g'.2.2 0)), (3, .int x3)] → k x3 u v = some 1 → W p l e room_1 s m #[Value.ref b] below meth c H locs 600000 7302250 (lw_Z below #[Value.ref b] s) (F0 m 18 ls [])) (Z : LZ s g g' H locs u v) (hl : lv_has ls 4 [(0, .ref b), (1, .ref (g.2.2 0)), (2, .ref (g'.2.2 0)), (3, .int x3)]) (hf : f_law_2 xs L k x3 u v = some 1) : W p l e room_1 s m #[Value.ref b] below meth c H locs 600000 7302250 (lw_Z below #[Value.ref b] s) (F0 m 200 ls []) := by
  have hx := C.1.1
  have hb := C.1.2.1
  unfold f_law_2 at hf
  refine lv_aload_n hx hb dL_law_200 rfl (lv_at hl 1 rfl) ?_
  obtain ⟨r201, hr201, hf⟩ := Option.bind_eq_some_iff.mp hf
  refine law_ci (As := []) (rest := []) C Z (c_X7_diocese l hr201) mf_X7_diocese mw_346 rfl (oC_0 _ _) rfl ⟨rfl, rfl, by decide, by decide⟩ rfl hl.1 (Nat.le_of_ble_eq_true rfl) dL_law_201 (fun H locs Z => ?_)
  refine lv_aload_n hx hb dL_law_204 rfl (lv_at hl 2 rfl) ?_
  obtain ⟨r205, hr205, hf⟩ := Option.bind_eq_some_iff.mp hf
  refine law_mi (As := []) (rest := [.int r201.1]) C Z (c_X8_diocese l hr205) mf_X8_diocese mw_941 rfl (oM_0 _ _) rfl ⟨rfl, rfl, by decide, by decide⟩ rfl hl.1 (Nat.le_of_ble_eq_true rfl) dL_law_205 (fun H locs Z => ?_)
  refine lv_icmp_eq (tgt := 914) hx hb dL_law_208 (by decide) (fun hc => ?_) (fun hc => ?_)
  · rw [if_pos hc] at hf
    refine lv_iinc (v := x3 + 7) (lv' := [(3, .int (x3 + 7)), (0, .ref b), (1, .ref (g.2.2 0)), (2, .ref (g'.2.2 0))]) hx hb dL_law_914 hl (k := 3) rfl rfl (by decide) rfl (fun ls hl => ?_)
    refine lv_goto (tgt := 18) hx hb dL_law_917 (by decide) ?_
    exact ih _ _ _ _ _ _ Z (lv_sub hl [1, 2, 3, 0] rfl) hf
  · rw [if_neg hc] at hf
    exact absurd (Option.some.inj hf) (by decide)
def f_law_3 (xs : Nat → Int32) (L : Nat) (k : Int32 → St → St → Option Int32) (x3 : Int32) (u v : St) : Option Int32 :=
  if oob (x3 + 1) L then none else
  Option.bind (f_X7_roof u (xs (Int32.toNatClampNeg (x3 + 1)))) fun r219 =>
  Option.bind (f_X8_roof v (xs (Int32.toNatClampNeg (x3 + 1)))) fun r228 =>
  if r219 = r228 then
    k (x3 + 7) u v
  else some 0
set_option maxHeartbeats 4000000 in
set_option maxRecDepth 100000 in
theorem b_law_3 {p : Program} {l : Launch} {e : Env} {s : State} {m : MethodId} {below : List Frame} {meth : Method} {c : Code} {H : Heap} {locs : List Loc} {b L : Nat} {xs : Nat → Int32} {g g' : Gx} {u v : St} {ls : Array Slot} {x3 : Int32} {k : Int32 → St → St → Option Int32} (C : LC p s m meth c b L xs g g') (ih : ∀ (x3 : Int32) (u v : St) (H : Heap) (locs : List Loc) (ls : Array Slot), LZ s g g' H locs u v → lv_has ls 4 [(0, .ref b), (1, .ref (g.2.2 0)), (2, .ref (g'.2.2 0)), (3, .int x3)] → k x3 u v = some 1 → W p l e room_1 s m #[Value.ref b] below meth c H locs 600000 7302250 (lw_Z below #[Value.ref b] s) (F0 m 18 ls [])) (Z : LZ s g g' H locs u v) (hl : lv_has ls 4 [(0, .ref b), (1, .ref (g.2.2 0)), (2, .ref (g'.2.2 0)), (3, .int x3)]) (hf : f_law_3 xs L k x3 u v = some 1) : W p l e room_1 s m #[Value.ref b] below meth c H locs 600000 7302250 (lw_Z below #[Value.ref b] s) (F0 m 213 ls []) := by
  have hx := C.1.1
  have hb := C.1.2.1
  unfold f_law_3 at hf
  refine lv_aload_n hx hb dL_law_213 rfl (lv_at hl 1 rfl) ?_
  refine lv_aload_n hx hb dL_law_214 rfl (lv_at hl 0 rfl) ?_
  refine lv_iload_n hx hb dL_law_215 rfl (lv_at hl 3 rfl) ?_
  refine lv_iconst (v := 1) hx hb dL_law_216 (by decide +kernel) ?_
  refine lv_iadd hx hb dL_law_217 ?_
  by_cases ho218 : oob (x3 + 1) L = true
  · rw [if_pos ho218] at hf; cases hf
  rw [if_neg ho218] at hf
  refine law_sld C Z ho218 dL_law_218 ?_
  obtain ⟨r219, hr219, hf⟩ := Option.bind_eq_some_iff.mp hf
  refine law_ci (As := [.int (xs (Int32.toNatClampNeg (x3 + 1)))]) (rest := []) C Z (c_X7_roof l hr219) mf_X7_roof mw_451 rfl (oC_0 _ _) rfl ⟨rfl, rfl, by decide, by decide⟩ rfl hl.1 (Nat.le_of_ble_eq_true rfl) dL_law_219 (fun H locs Z => ?_)
  refine lv_aload_n hx hb dL_law_222 rfl (lv_at hl 2 rfl) ?_
  refine lv_aload_n hx hb dL_law_223 rfl (lv_at hl 0 rfl) ?_
  refine lv_iload_n hx hb dL_law_224 rfl (lv_at hl 3 rfl) ?_
  refine lv_iconst (v := 1) hx hb dL_law_225 (by decide +kernel) ?_
  refine lv_iadd hx hb dL_law_226 ?_
  refine law_sld C Z ho218 dL_law_227 ?_
  obtain ⟨r228, hr228, hf⟩ := Option.bind_eq_some_iff.mp hf
  refine law_mi (As := [.int (xs (Int32.toNatClampNeg (x3 + 1)))]) (rest := [.int r219]) C Z (c_X8_roof l hr228) mf_X8_roof mw_995 rfl (oM_0 _ _) rfl ⟨rfl, rfl, by decide, by decide⟩ rfl hl.1 (Nat.le_of_ble_eq_true rfl) dL_law_228 (fun H locs Z => ?_)
  refine lv_icmp_eq (tgt := 914) hx hb dL_law_231 (by decide) (fun hc => ?_) (fun hc => ?_)
  · rw [if_pos hc] at hf
    refine lv_iinc (v := x3 + 7) (lv' := [(3, .int (x3 + 7)), (0, .ref b), (1, .ref (g.2.2 0)), (2, .ref (g'.2.2 0))]) hx hb dL_law_914 hl (k := 3) rfl rfl (by decide) rfl (fun ls hl => ?_)
    refine lv_goto (tgt := 18) hx hb dL_law_917 (by decide) ?_
    exact ih _ _ _ _ _ _ Z (lv_sub hl [1, 2, 3, 0] rfl) hf
  · rw [if_neg hc] at hf
    exact absurd (Option.some.inj hf) (by decide)
def f_law_4 (xs : Nat → Int32) (L : Nat) (k : Int32 → St → St → Option Int32) (x3 : Int32) (u v : St) : Option Int32 :=
  if oob (x3 + 1) L then none else
  if oob (x3 + 2) L then none else
  Option.bind (f_X7_cock u (xs (Int32.toNatClampNeg (x3 + 1))) (xs (Int32.toNatClampNeg (x3 + 2)))) fun r247 =>
  Option.bind (f_X8_cock v (xs (Int32.toNatClampNeg (x3 + 1))) (xs (Int32.toNatClampNeg (x3 + 2)))) fun r261 =>
  if r247 = r261 then
    k (x3 + 7) u v
  else some 0
set_option maxHeartbeats 4000000 in
set_option maxRecDepth 100000 in
theorem b_law_4 {p : Program} {l : Launch} {e : Env} {s : State} {m : MethodId} {below : List Frame} {meth : Method} {c : Code} {H : Heap} {locs : List Loc} {b L : Nat} {xs : Nat → Int32} {g g' : Gx} {u v : St} {ls : Array Slot} {x3 : Int32} {k : Int32 → St → St → Option Int32} (C : LC p s m meth c b L xs g g') (ih : ∀ (x3 : Int32) (u v : St) (H : Heap) (locs : List Loc) (ls : Array Slot), LZ s g g' H locs u v → lv_has ls 4 [(0, .ref b), (1, .ref (g.2.2 0)), (2, .ref (g'.2.2 0)), (3, .int x3)] → k x3 u v = some 1 → W p l e room_1 s m #[Value.ref b] below meth c H locs 600000 7302250 (lw_Z below #[Value.ref b] s) (F0 m 18 ls [])) (Z : LZ s g g' H locs u v) (hl : lv_has ls 4 [(0, .ref b), (1, .ref (g.2.2 0)), (2, .ref (g'.2.2 0)), (3, .int x3)]) (hf : f_law_4 xs L k x3 u v = some 1) : W p l e room_1 s m #[Value.ref b] below meth c H locs 600000 7302250 (lw_Z below #[Value.ref b] s) (F0 m 236 ls []) := by
  have hx := C.1.1
  have hb := C.1.2.1
  unfold f_law_4 at hf
  refine lv_aload_n hx hb dL_law_236 rfl (lv_at hl 1 rfl) ?_
  refine lv_aload_n hx hb dL_law_237 rfl (lv_at hl 0 rfl) ?_
  refine lv_iload_n hx hb dL_law_238 rfl (lv_at hl 3 rfl) ?_
  refine lv_iconst (v := 1) hx hb dL_law_239 (by decide +kernel) ?_
  refine lv_iadd hx hb dL_law_240 ?_
  by_cases ho241 : oob (x3 + 1) L = true
  · rw [if_pos ho241] at hf; cases hf
  rw [if_neg ho241] at hf
  refine law_sld C Z ho241 dL_law_241 ?_
  refine lv_aload_n hx hb dL_law_242 rfl (lv_at hl 0 rfl) ?_
  refine lv_iload_n hx hb dL_law_243 rfl (lv_at hl 3 rfl) ?_
  refine lv_iconst (v := 2) hx hb dL_law_244 (by decide +kernel) ?_
  refine lv_iadd hx hb dL_law_245 ?_
  by_cases ho246 : oob (x3 + 2) L = true
  · rw [if_pos ho246] at hf; cases hf
  rw [if_neg ho246] at hf
  refine law_sld C Z ho246 dL_law_246 ?_
  obtain ⟨r247, hr247, hf⟩ := Option.bind_eq_some_iff.mp hf
  refine law_ci (As := [.int (xs (Int32.toNatClampNeg (x3 + 1))), .int (xs (Int32.toNatClampNeg (x3 + 2)))]) (rest := []) C Z (c_X7_cock l hr247) mf_X7_cock mw_458 rfl (oC_0 _ _) rfl ⟨rfl, rfl, by decide, by decide⟩ rfl hl.1 (Nat.le_of_ble_eq_true rfl) dL_law_247 (fun H locs Z => ?_)
  refine lv_aload_n hx hb dL_law_250 rfl (lv_at hl 2 rfl) ?_
  refine lv_aload_n hx hb dL_law_251 rfl (lv_at hl 0 rfl) ?_
  refine lv_iload_n hx hb dL_law_252 rfl (lv_at hl 3 rfl) ?_
  refine lv_iconst (v := 1) hx hb dL_law_253 (by decide +kernel) ?_
  refine lv_iadd hx hb dL_law_254 ?_
  refine law_sld C Z ho241 dL_law_255 ?_
  refine lv_aload_n hx hb dL_law_256 rfl (lv_at hl 0 rfl) ?_
  refine lv_iload_n hx hb dL_law_257 rfl (lv_at hl 3 rfl) ?_
  refine lv_iconst (v := 2) hx hb dL_law_258 (by decide +kernel) ?_
  refine lv_iadd hx hb dL_law_259 ?_
  refine law_sld C Z ho246 dL_law_260 ?_
  obtain ⟨r261, hr261, hf⟩ := Option.bind_eq_some_iff.mp hf
  refine law_mi (As := [.int (xs (Int32.toNatClampNeg (x3 + 1))), .int (xs (Int32.toNatClampNeg (x3 + 2)))]) (rest := [.int r247]) C Z (c_X8_cock l hr261) mf_X8_cock mw_1002 rfl (oM_0 _ _) rfl ⟨rfl, rfl, by decide, by decide⟩ rfl hl.1 (Nat.le_of_ble_eq_true rfl) dL_law_261 (fun H locs Z => ?_)
  refine lv_icmp_eq (tgt := 914) hx hb dL_law_264 (by decide) (fun hc => ?_) (fun hc => ?_)
  · rw [if_pos hc] at hf
    refine lv_iinc (v := x3 + 7) (lv' := [(3, .int (x3 + 7)), (0, .ref b), (1, .ref (g.2.2 0)), (2, .ref (g'.2.2 0))]) hx hb dL_law_914 hl (k := 3) rfl rfl (by decide) rfl (fun ls hl => ?_)
    refine lv_goto (tgt := 18) hx hb dL_law_917 (by decide) ?_
    exact ih _ _ _ _ _ _ Z (lv_sub hl [1, 2, 3, 0] rfl) hf
  · rw [if_neg hc] at hf
    exact absurd (Option.some.inj hf) (by decide)
def f_law_5 (xs : Nat → Int32) (L : Nat) (k : Int32 → St → St → Option Int32) (x3 : Int32) (u v : St) : Option Int32 :=
  if oob (x3 + 1) L then none else
  if oob (x3 + 2) L then none else
  Option.bind (f_X7_one u (xs (Int32.toNatClampNeg (x3 + 1))) (xs (Int32.toNatClampNeg (x3 + 2)))) fun r280 =>
  Option.bind (f_X8_one v (xs (Int32.toNatClampNeg (x3 + 1))) (xs (Int32.toNatClampNeg (x3 + 2)))) fun r294 =>
  if r280 = r294 then
    k (x3 + 7) u v
  else some 0
set_option maxHeartbeats 4000000 in
set_option maxRecDepth 100000 in
theorem b_law_5 {p : Program} {l : Launch} {e : Env} {s : State} {m : MethodId} {below : List Frame} {meth : Method} {c : Code} {H : Heap} {locs : List Loc} {b L : Nat} {xs : Nat → Int32} {g g' : Gx} {u v : St} {ls : Array Slot} {x3 : Int32} {k : Int32 → St → St → Option Int32} (C : LC p s m meth c b L xs g g') (ih : ∀ (x3 : Int32) (u v : St) (H : Heap) (locs : List Loc) (ls : Array Slot), LZ s g g' H locs u v → lv_has ls 4 [(0, .ref b), (1, .ref (g.2.2 0)), (2, .ref (g'.2.2 0)), (3, .int x3)] → k x3 u v = some 1 → W p l e room_1 s m #[Value.ref b] below meth c H locs 600000 7302250 (lw_Z below #[Value.ref b] s) (F0 m 18 ls [])) (Z : LZ s g g' H locs u v) (hl : lv_has ls 4 [(0, .ref b), (1, .ref (g.2.2 0)), (2, .ref (g'.2.2 0)), (3, .int x3)]) (hf : f_law_5 xs L k x3 u v = some 1) : W p l e room_1 s m #[Value.ref b] below meth c H locs 600000 7302250 (lw_Z below #[Value.ref b] s) (F0 m 269 ls []) := by
  have hx := C.1.1
  have hb := C.1.2.1
  unfold f_law_5 at hf
  refine lv_aload_n hx hb dL_law_269 rfl (lv_at hl 1 rfl) ?_
  refine lv_aload_n hx hb dL_law_270 rfl (lv_at hl 0 rfl) ?_
  refine lv_iload_n hx hb dL_law_271 rfl (lv_at hl 3 rfl) ?_
  refine lv_iconst (v := 1) hx hb dL_law_272 (by decide +kernel) ?_
  refine lv_iadd hx hb dL_law_273 ?_
  by_cases ho274 : oob (x3 + 1) L = true
  · rw [if_pos ho274] at hf; cases hf
  rw [if_neg ho274] at hf
  refine law_sld C Z ho274 dL_law_274 ?_
  refine lv_aload_n hx hb dL_law_275 rfl (lv_at hl 0 rfl) ?_
  refine lv_iload_n hx hb dL_law_276 rfl (lv_at hl 3 rfl) ?_
  refine lv_iconst (v := 2) hx hb dL_law_277 (by decide +kernel) ?_
  refine lv_iadd hx hb dL_law_278 ?_
  by_cases ho279 : oob (x3 + 2) L = true
  · rw [if_pos ho279] at hf; cases hf
  rw [if_neg ho279] at hf
  refine law_sld C Z ho279 dL_law_279 ?_
  obtain ⟨r280, hr280, hf⟩ := Option.bind_eq_some_iff.mp hf
  refine law_ci (As := [.int (xs (Int32.toNatClampNeg (x3 + 1))), .int (xs (Int32.toNatClampNeg (x3 + 2)))]) (rest := []) C Z (c_X7_one l hr280) mf_X7_one mw_494 rfl (oC_0 _ _) rfl ⟨rfl, rfl, by decide, by decide⟩ rfl hl.1 (Nat.le_of_ble_eq_true rfl) dL_law_280 (fun H locs Z => ?_)
  refine lv_aload_n hx hb dL_law_283 rfl (lv_at hl 2 rfl) ?_
  refine lv_aload_n hx hb dL_law_284 rfl (lv_at hl 0 rfl) ?_
  refine lv_iload_n hx hb dL_law_285 rfl (lv_at hl 3 rfl) ?_
  refine lv_iconst (v := 1) hx hb dL_law_286 (by decide +kernel) ?_
  refine lv_iadd hx hb dL_law_287 ?_
  refine law_sld C Z ho274 dL_law_288 ?_
  refine lv_aload_n hx hb dL_law_289 rfl (lv_at hl 0 rfl) ?_
  refine lv_iload_n hx hb dL_law_290 rfl (lv_at hl 3 rfl) ?_
  refine lv_iconst (v := 2) hx hb dL_law_291 (by decide +kernel) ?_
  refine lv_iadd hx hb dL_law_292 ?_
  refine law_sld C Z ho279 dL_law_293 ?_
  obtain ⟨r294, hr294, hf⟩ := Option.bind_eq_some_iff.mp hf
  refine law_mi (As := [.int (xs (Int32.toNatClampNeg (x3 + 1))), .int (xs (Int32.toNatClampNeg (x3 + 2)))]) (rest := [.int r280]) C Z (c_X8_one l hr294) mf_X8_one mw_1035 rfl (oM_0 _ _) rfl ⟨rfl, rfl, by decide, by decide⟩ rfl hl.1 (Nat.le_of_ble_eq_true rfl) dL_law_294 (fun H locs Z => ?_)
  refine lv_icmp_eq (tgt := 914) hx hb dL_law_297 (by decide) (fun hc => ?_) (fun hc => ?_)
  · rw [if_pos hc] at hf
    refine lv_iinc (v := x3 + 7) (lv' := [(3, .int (x3 + 7)), (0, .ref b), (1, .ref (g.2.2 0)), (2, .ref (g'.2.2 0))]) hx hb dL_law_914 hl (k := 3) rfl rfl (by decide) rfl (fun ls hl => ?_)
    refine lv_goto (tgt := 18) hx hb dL_law_917 (by decide) ?_
    exact ih _ _ _ _ _ _ Z (lv_sub hl [1, 2, 3, 0] rfl) hf
  · rw [if_neg hc] at hf
    exact absurd (Option.some.inj hf) (by decide)
def f_law_6 (xs : Nat → Int32) (L : Nat) (k : Int32 → St → St → Option Int32) (x3 : Int32) (u v : St) : Option Int32 :=
  if oob (x3 + 1) L then none else
  if oob (x3 + 2) L then none else
  Option.bind (f_X7_saw u (xs (Int32.toNatClampNeg (x3 + 1))) (xs (Int32.toNatClampNeg (x3 + 2)))) fun r313 =>
  Option.bind (f_X8_saw v (xs (Int32.toNatClampNeg (x3 + 1))) (xs (Int32.toNatClampNeg (x3 + 2)))) fun r327 =>
  if r313 = r327 then
    k (x3 + 7) u v
  else some 0
set_option maxHeartbeats 4000000 in
set_option maxRecDepth 100000 in
theorem b_law_6 {p : Program} {l : Launch} {e : Env} {s : State} {m : MethodId} {below : List Frame} {meth : Method} {c : Code} {H : Heap} {locs : List Loc} {b L : Nat} {xs : Nat → Int32} {g g' : Gx} {u v : St} {ls : Array Slot} {x3 : Int32} {k : Int32 → St → St → Option Int32} (C : LC p s m meth c b L xs g g') (ih : ∀ (x3 : Int32) (u v : St) (H : Heap) (locs : List Loc) (ls : Array Slot), LZ s g g' H locs u v → lv_has ls 4 [(0, .ref b), (1, .ref (g.2.2 0)), (2, .ref (g'.2.2 0)), (3, .int x3)] → k x3 u v = some 1 → W p l e room_1 s m #[Value.ref b] below meth c H locs 600000 7302250 (lw_Z below #[Value.ref b] s) (F0 m 18 ls [])) (Z : LZ s g g' H locs u v) (hl : lv_has ls 4 [(0, .ref b), (1, .ref (g.2.2 0)), (2, .ref (g'.2.2 0)), (3, .int x3)]) (hf : f_law_6 xs L k x3 u v = some 1) : W p l e room_1 s m #[Value.ref b] below meth c H locs 600000 7302250 (lw_Z below #[Value.ref b] s) (F0 m 302 ls []) := by
  have hx := C.1.1
  have hb := C.1.2.1
  unfold f_law_6 at hf
  refine lv_aload_n hx hb dL_law_302 rfl (lv_at hl 1 rfl) ?_
  refine lv_aload_n hx hb dL_law_303 rfl (lv_at hl 0 rfl) ?_
  refine lv_iload_n hx hb dL_law_304 rfl (lv_at hl 3 rfl) ?_
  refine lv_iconst (v := 1) hx hb dL_law_305 (by decide +kernel) ?_
  refine lv_iadd hx hb dL_law_306 ?_
  by_cases ho307 : oob (x3 + 1) L = true
  · rw [if_pos ho307] at hf; cases hf
  rw [if_neg ho307] at hf
  refine law_sld C Z ho307 dL_law_307 ?_
  refine lv_aload_n hx hb dL_law_308 rfl (lv_at hl 0 rfl) ?_
  refine lv_iload_n hx hb dL_law_309 rfl (lv_at hl 3 rfl) ?_
  refine lv_iconst (v := 2) hx hb dL_law_310 (by decide +kernel) ?_
  refine lv_iadd hx hb dL_law_311 ?_
  by_cases ho312 : oob (x3 + 2) L = true
  · rw [if_pos ho312] at hf; cases hf
  rw [if_neg ho312] at hf
  refine law_sld C Z ho312 dL_law_312 ?_
  obtain ⟨r313, hr313, hf⟩ := Option.bind_eq_some_iff.mp hf
  refine law_ci (As := [.int (xs (Int32.toNatClampNeg (x3 + 1))), .int (xs (Int32.toNatClampNeg (x3 + 2)))]) (rest := []) C Z (c_X7_saw l hr313) mf_X7_saw mw_511 rfl (oC_0 _ _) rfl ⟨rfl, rfl, by decide, by decide⟩ rfl hl.1 (Nat.le_of_ble_eq_true rfl) dL_law_313 (fun H locs Z => ?_)
  refine lv_aload_n hx hb dL_law_316 rfl (lv_at hl 2 rfl) ?_
  refine lv_aload_n hx hb dL_law_317 rfl (lv_at hl 0 rfl) ?_
  refine lv_iload_n hx hb dL_law_318 rfl (lv_at hl 3 rfl) ?_
  refine lv_iconst (v := 1) hx hb dL_law_319 (by decide +kernel) ?_
  refine lv_iadd hx hb dL_law_320 ?_
  refine law_sld C Z ho307 dL_law_321 ?_
  refine lv_aload_n hx hb dL_law_322 rfl (lv_at hl 0 rfl) ?_
  refine lv_iload_n hx hb dL_law_323 rfl (lv_at hl 3 rfl) ?_
  refine lv_iconst (v := 2) hx hb dL_law_324 (by decide +kernel) ?_
  refine lv_iadd hx hb dL_law_325 ?_
  refine law_sld C Z ho312 dL_law_326 ?_
  obtain ⟨r327, hr327, hf⟩ := Option.bind_eq_some_iff.mp hf
  refine law_mi (As := [.int (xs (Int32.toNatClampNeg (x3 + 1))), .int (xs (Int32.toNatClampNeg (x3 + 2)))]) (rest := [.int r313]) C Z (c_X8_saw l hr327) mf_X8_saw mw_1048 rfl (oM_0 _ _) rfl ⟨rfl, rfl, by decide, by decide⟩ rfl hl.1 (Nat.le_of_ble_eq_true rfl) dL_law_327 (fun H locs Z => ?_)
  refine lv_icmp_eq (tgt := 914) hx hb dL_law_330 (by decide) (fun hc => ?_) (fun hc => ?_)
  · rw [if_pos hc] at hf
    refine lv_iinc (v := x3 + 7) (lv' := [(3, .int (x3 + 7)), (0, .ref b), (1, .ref (g.2.2 0)), (2, .ref (g'.2.2 0))]) hx hb dL_law_914 hl (k := 3) rfl rfl (by decide) rfl (fun ls hl => ?_)
    refine lv_goto (tgt := 18) hx hb dL_law_917 (by decide) ?_
    exact ih _ _ _ _ _ _ Z (lv_sub hl [1, 2, 3, 0] rfl) hf
  · rw [if_neg hc] at hf
    exact absurd (Option.some.inj hf) (by decide)
def f_law_7 (xs : Nat → Int32) (L : Nat) (k : Int32 → St → St → Option Int32) (x3 : Int32) (u v : St) : Option Int32 :=
  if oob (x3 + 1) L then none else
  Option.bind (f_X7_known u (xs (Int32.toNatClampNeg (x3 + 1)))) fun r341 =>
  Option.bind (f_X8_known v (xs (Int32.toNatClampNeg (x3 + 1)))) fun r350 =>
  if r341 = r350 then
    k (x3 + 7) u v
  else some 0
set_option maxHeartbeats 4000000 in
set_option maxRecDepth 100000 in
theorem b_law_7 {p : Program} {l : Launch} {e : Env} {s : State} {m : MethodId} {below : List Frame} {meth : Method} {c : Code} {H : Heap} {locs : List Loc} {b L : Nat} {xs : Nat → Int32} {g g' : Gx} {u v : St} {ls : Array Slot} {x3 : Int32} {k : Int32 → St → St → Option Int32} (C : LC p s m meth c b L xs g g') (ih : ∀ (x3 : Int32) (u v : St) (H : Heap) (locs : List Loc) (ls : Array Slot), LZ s g g' H locs u v → lv_has ls 4 [(0, .ref b), (1, .ref (g.2.2 0)), (2, .ref (g'.2.2 0)), (3, .int x3)] → k x3 u v = some 1 → W p l e room_1 s m #[Value.ref b] below meth c H locs 600000 7302250 (lw_Z below #[Value.ref b] s) (F0 m 18 ls [])) (Z : LZ s g g' H locs u v) (hl : lv_has ls 4 [(0, .ref b), (1, .ref (g.2.2 0)), (2, .ref (g'.2.2 0)), (3, .int x3)]) (hf : f_law_7 xs L k x3 u v = some 1) : W p l e room_1 s m #[Value.ref b] below meth c H locs 600000 7302250 (lw_Z below #[Value.ref b] s) (F0 m 335 ls []) := by
  have hx := C.1.1
  have hb := C.1.2.1
  unfold f_law_7 at hf
  refine lv_aload_n hx hb dL_law_335 rfl (lv_at hl 1 rfl) ?_
  refine lv_aload_n hx hb dL_law_336 rfl (lv_at hl 0 rfl) ?_
  refine lv_iload_n hx hb dL_law_337 rfl (lv_at hl 3 rfl) ?_
  refine lv_iconst (v := 1) hx hb dL_law_338 (by decide +kernel) ?_
  refine lv_iadd hx hb dL_law_339 ?_
  by_cases ho340 : oob (x3 + 1) L = true
  · rw [if_pos ho340] at hf; cases hf
  rw [if_neg ho340] at hf
  refine law_sld C Z ho340 dL_law_340 ?_
  obtain ⟨r341, hr341, hf⟩ := Option.bind_eq_some_iff.mp hf
  refine law_ci (As := [.int (xs (Int32.toNatClampNeg (x3 + 1)))]) (rest := []) C Z (c_X7_known l hr341) mf_X7_known mw_515 rfl (oC_0 _ _) rfl ⟨rfl, rfl, by decide, by decide⟩ rfl hl.1 (Nat.le_of_ble_eq_true rfl) dL_law_341 (fun H locs Z => ?_)
  refine lv_aload_n hx hb dL_law_344 rfl (lv_at hl 2 rfl) ?_
  refine lv_aload_n hx hb dL_law_345 rfl (lv_at hl 0 rfl) ?_
  refine lv_iload_n hx hb dL_law_346 rfl (lv_at hl 3 rfl) ?_
  refine lv_iconst (v := 1) hx hb dL_law_347 (by decide +kernel) ?_
  refine lv_iadd hx hb dL_law_348 ?_
  refine law_sld C Z ho340 dL_law_349 ?_
  obtain ⟨r350, hr350, hf⟩ := Option.bind_eq_some_iff.mp hf
  refine law_mi (As := [.int (xs (Int32.toNatClampNeg (x3 + 1)))]) (rest := [.int r341]) C Z (c_X8_known l hr350) mf_X8_known mw_1052 rfl (oM_0 _ _) rfl ⟨rfl, rfl, by decide, by decide⟩ rfl hl.1 (Nat.le_of_ble_eq_true rfl) dL_law_350 (fun H locs Z => ?_)
  refine lv_icmp_eq (tgt := 914) hx hb dL_law_353 (by decide) (fun hc => ?_) (fun hc => ?_)
  · rw [if_pos hc] at hf
    refine lv_iinc (v := x3 + 7) (lv' := [(3, .int (x3 + 7)), (0, .ref b), (1, .ref (g.2.2 0)), (2, .ref (g'.2.2 0))]) hx hb dL_law_914 hl (k := 3) rfl rfl (by decide) rfl (fun ls hl => ?_)
    refine lv_goto (tgt := 18) hx hb dL_law_917 (by decide) ?_
    exact ih _ _ _ _ _ _ Z (lv_sub hl [1, 2, 3, 0] rfl) hf
  · rw [if_neg hc] at hf
    exact absurd (Option.some.inj hf) (by decide)
def f_law_8 (xs : Nat → Int32) (L : Nat) (k : Int32 → St → St → Option Int32) (x3 : Int32) (u v : St) : Option Int32 :=
  if oob (x3 + 1) L then none else
  Option.bind (f_X7_hours u (xs (Int32.toNatClampNeg (x3 + 1)))) fun r364 =>
  Option.bind (f_X8_hours v (xs (Int32.toNatClampNeg (x3 + 1)))) fun r373 =>
  if r364.1 = r373.1 then
    k (x3 + 7) r364.2 r373.2
  else some 0
set_option maxHeartbeats 4000000 in
set_option maxRecDepth 100000 in
theorem b_law_8 {p : Program} {l : Launch} {e : Env} {s : State} {m : MethodId} {below : List Frame} {meth : Method} {c : Code} {H : Heap} {locs : List Loc} {b L : Nat} {xs : Nat → Int32} {g g' : Gx} {u v : St} {ls : Array Slot} {x3 : Int32} {k : Int32 → St → St → Option Int32} (C : LC p s m meth c b L xs g g') (ih : ∀ (x3 : Int32) (u v : St) (H : Heap) (locs : List Loc) (ls : Array Slot), LZ s g g' H locs u v → lv_has ls 4 [(0, .ref b), (1, .ref (g.2.2 0)), (2, .ref (g'.2.2 0)), (3, .int x3)] → k x3 u v = some 1 → W p l e room_1 s m #[Value.ref b] below meth c H locs 600000 7302250 (lw_Z below #[Value.ref b] s) (F0 m 18 ls [])) (Z : LZ s g g' H locs u v) (hl : lv_has ls 4 [(0, .ref b), (1, .ref (g.2.2 0)), (2, .ref (g'.2.2 0)), (3, .int x3)]) (hf : f_law_8 xs L k x3 u v = some 1) : W p l e room_1 s m #[Value.ref b] below meth c H locs 600000 7302250 (lw_Z below #[Value.ref b] s) (F0 m 358 ls []) := by
  have hx := C.1.1
  have hb := C.1.2.1
  unfold f_law_8 at hf
  refine lv_aload_n hx hb dL_law_358 rfl (lv_at hl 1 rfl) ?_
  refine lv_aload_n hx hb dL_law_359 rfl (lv_at hl 0 rfl) ?_
  refine lv_iload_n hx hb dL_law_360 rfl (lv_at hl 3 rfl) ?_
  refine lv_iconst (v := 1) hx hb dL_law_361 (by decide +kernel) ?_
  refine lv_iadd hx hb dL_law_362 ?_
  by_cases ho363 : oob (x3 + 1) L = true
  · rw [if_pos ho363] at hf; cases hf
  rw [if_neg ho363] at hf
  refine law_sld C Z ho363 dL_law_363 ?_
  obtain ⟨r364, hr364, hf⟩ := Option.bind_eq_some_iff.mp hf
  refine law_ci (As := [.int (xs (Int32.toNatClampNeg (x3 + 1)))]) (rest := []) C Z (c_X7_hours l hr364) mf_X7_hours mw_523 rfl (oC_0 _ _) rfl ⟨rfl, rfl, by decide, by decide⟩ rfl hl.1 (Nat.le_of_ble_eq_true rfl) dL_law_364 (fun H locs Z => ?_)
  refine lv_aload_n hx hb dL_law_367 rfl (lv_at hl 2 rfl) ?_
  refine lv_aload_n hx hb dL_law_368 rfl (lv_at hl 0 rfl) ?_
  refine lv_iload_n hx hb dL_law_369 rfl (lv_at hl 3 rfl) ?_
  refine lv_iconst (v := 1) hx hb dL_law_370 (by decide +kernel) ?_
  refine lv_iadd hx hb dL_law_371 ?_
  refine law_sld C Z ho363 dL_law_372 ?_
  obtain ⟨r373, hr373, hf⟩ := Option.bind_eq_some_iff.mp hf
  refine law_mi (As := [.int (xs (Int32.toNatClampNeg (x3 + 1)))]) (rest := [.int r364.1]) C Z (c_X8_hours l hr373) mf_X8_hours mw_1056 rfl (oM_0 _ _) rfl ⟨rfl, rfl, by decide, by decide⟩ rfl hl.1 (Nat.le_of_ble_eq_true rfl) dL_law_373 (fun H locs Z => ?_)
  refine lv_icmp_eq (tgt := 914) hx hb dL_law_376 (by decide) (fun hc => ?_) (fun hc => ?_)
  · rw [if_pos hc] at hf
    refine lv_iinc (v := x3 + 7) (lv' := [(3, .int (x3 + 7)), (0, .ref b), (1, .ref (g.2.2 0)), (2, .ref (g'.2.2 0))]) hx hb dL_law_914 hl (k := 3) rfl rfl (by decide) rfl (fun ls hl => ?_)
    refine lv_goto (tgt := 18) hx hb dL_law_917 (by decide) ?_
    exact ih _ _ _ _ _ _ Z (lv_sub hl [1, 2, 3, 0] rfl) hf
  · rw [if_neg hc] at hf
    exact absurd (Option.some.inj hf) (by decide)
def f_law_9 (xs : Nat → Int32) (L : Nat) (k : Int32 → St → St → Option Int32) (x3 : Int32) (u v : St) : Option Int32 :=
  if oob (x3 + 1) L then none else
  if oob (x3 + 2) L then none else
  Option.bind (f_X7_builds u (xs (Int32.toNatClampNeg (x3 + 1))) (xs (Int32.toNatClampNeg (x3 + 2)))) fun r392 =>
  Option.bind (f_X8_builds v (xs (Int32.toNatClampNeg (x3 + 1))) (xs (Int32.toNatClampNeg (x3 + 2)))) fun r406 =>
  if r392.1 = r406.1 then
    k (x3 + 7) r392.2 r406.2
  else some 0
set_option maxHeartbeats 4000000 in
set_option maxRecDepth 100000 in
theorem b_law_9 {p : Program} {l : Launch} {e : Env} {s : State} {m : MethodId} {below : List Frame} {meth : Method} {c : Code} {H : Heap} {locs : List Loc} {b L : Nat} {xs : Nat → Int32} {g g' : Gx} {u v : St} {ls : Array Slot} {x3 : Int32} {k : Int32 → St → St → Option Int32} (C : LC p s m meth c b L xs g g') (ih : ∀ (x3 : Int32) (u v : St) (H : Heap) (locs : List Loc) (ls : Array Slot), LZ s g g' H locs u v → lv_has ls 4 [(0, .ref b), (1, .ref (g.2.2 0)), (2, .ref (g'.2.2 0)), (3, .int x3)] → k x3 u v = some 1 → W p l e room_1 s m #[Value.ref b] below meth c H locs 600000 7302250 (lw_Z below #[Value.ref b] s) (F0 m 18 ls [])) (Z : LZ s g g' H locs u v) (hl : lv_has ls 4 [(0, .ref b), (1, .ref (g.2.2 0)), (2, .ref (g'.2.2 0)), (3, .int x3)]) (hf : f_law_9 xs L k x3 u v = some 1) : W p l e room_1 s m #[Value.ref b] below meth c H locs 600000 7302250 (lw_Z below #[Value.ref b] s) (F0 m 381 ls []) := by
  have hx := C.1.1
  have hb := C.1.2.1
  unfold f_law_9 at hf
  refine lv_aload_n hx hb dL_law_381 rfl (lv_at hl 1 rfl) ?_
  refine lv_aload_n hx hb dL_law_382 rfl (lv_at hl 0 rfl) ?_
  refine lv_iload_n hx hb dL_law_383 rfl (lv_at hl 3 rfl) ?_
  refine lv_iconst (v := 1) hx hb dL_law_384 (by decide +kernel) ?_
  refine lv_iadd hx hb dL_law_385 ?_
  by_cases ho386 : oob (x3 + 1) L = true
  · rw [if_pos ho386] at hf; cases hf
  rw [if_neg ho386] at hf
  refine law_sld C Z ho386 dL_law_386 ?_
  refine lv_aload_n hx hb dL_law_387 rfl (lv_at hl 0 rfl) ?_
  refine lv_iload_n hx hb dL_law_388 rfl (lv_at hl 3 rfl) ?_
  refine lv_iconst (v := 2) hx hb dL_law_389 (by decide +kernel) ?_
  refine lv_iadd hx hb dL_law_390 ?_
  by_cases ho391 : oob (x3 + 2) L = true
  · rw [if_pos ho391] at hf; cases hf
  rw [if_neg ho391] at hf
  refine law_sld C Z ho391 dL_law_391 ?_
  obtain ⟨r392, hr392, hf⟩ := Option.bind_eq_some_iff.mp hf
  refine law_ci (As := [.int (xs (Int32.toNatClampNeg (x3 + 1))), .int (xs (Int32.toNatClampNeg (x3 + 2)))]) (rest := []) C Z (c_X7_builds l hr392) mf_X7_builds mw_572 rfl (oC_0 _ _) rfl ⟨rfl, rfl, by decide, by decide⟩ rfl hl.1 (Nat.le_of_ble_eq_true rfl) dL_law_392 (fun H locs Z => ?_)
  refine lv_aload_n hx hb dL_law_395 rfl (lv_at hl 2 rfl) ?_
  refine lv_aload_n hx hb dL_law_396 rfl (lv_at hl 0 rfl) ?_
  refine lv_iload_n hx hb dL_law_397 rfl (lv_at hl 3 rfl) ?_
  refine lv_iconst (v := 1) hx hb dL_law_398 (by decide +kernel) ?_
  refine lv_iadd hx hb dL_law_399 ?_
  refine law_sld C Z ho386 dL_law_400 ?_
  refine lv_aload_n hx hb dL_law_401 rfl (lv_at hl 0 rfl) ?_
  refine lv_iload_n hx hb dL_law_402 rfl (lv_at hl 3 rfl) ?_
  refine lv_iconst (v := 2) hx hb dL_law_403 (by decide +kernel) ?_
  refine lv_iadd hx hb dL_law_404 ?_
  refine law_sld C Z ho391 dL_law_405 ?_
  obtain ⟨r406, hr406, hf⟩ := Option.bind_eq_some_iff.mp hf
  refine law_mi (As := [.int (xs (Int32.toNatClampNeg (x3 + 1))), .int (xs (Int32.toNatClampNeg (x3 + 2)))]) (rest := [.int r392.1]) C Z (c_X8_builds l hr406) mf_X8_builds mw_1080 rfl (oM_0 _ _) rfl ⟨rfl, rfl, by decide, by decide⟩ rfl hl.1 (Nat.le_of_ble_eq_true rfl) dL_law_406 (fun H locs Z => ?_)
  refine lv_icmp_eq (tgt := 914) hx hb dL_law_409 (by decide) (fun hc => ?_) (fun hc => ?_)
  · rw [if_pos hc] at hf
    refine lv_iinc (v := x3 + 7) (lv' := [(3, .int (x3 + 7)), (0, .ref b), (1, .ref (g.2.2 0)), (2, .ref (g'.2.2 0))]) hx hb dL_law_914 hl (k := 3) rfl rfl (by decide) rfl (fun ls hl => ?_)
    refine lv_goto (tgt := 18) hx hb dL_law_917 (by decide) ?_
    exact ih _ _ _ _ _ _ Z (lv_sub hl [1, 2, 3, 0] rfl) hf
  · rw [if_neg hc] at hf
    exact absurd (Option.some.inj hf) (by decide)
def f_law_10 (xs : Nat → Int32) (L : Nat) (k : Int32 → St → St → Option Int32) (x3 : Int32) (u v : St) : Option Int32 :=
  if oob (x3 + 1) L then none else
  Option.bind (f_X7_asks u (xs (Int32.toNatClampNeg (x3 + 1)))) fun r420 =>
  Option.bind (f_X8_asks v (xs (Int32.toNatClampNeg (x3 + 1)))) fun r429 =>
  if r420.1 = r429.1 then
    k (x3 + 7) r420.2 r429.2
  else some 0
set_option maxHeartbeats 4000000 in
set_option maxRecDepth 100000 in
theorem b_law_10 {p : Program} {l : Launch} {e : Env} {s : State} {m : MethodId} {below : List Frame} {meth : Method} {c : Code} {H : Heap} {locs : List Loc} {b L : Nat} {xs : Nat → Int32} {g g' : Gx} {u v : St} {ls : Array Slot} {x3 : Int32} {k : Int32 → St → St → Option Int32} (C : LC p s m meth c b L xs g g') (ih : ∀ (x3 : Int32) (u v : St) (H : Heap) (locs : List Loc) (ls : Array Slot), LZ s g g' H locs u v → lv_has ls 4 [(0, .ref b), (1, .ref (g.2.2 0)), (2, .ref (g'.2.2 0)), (3, .int x3)] → k x3 u v = some 1 → W p l e room_1 s m #[Value.ref b] below meth c H locs 600000 7302250 (lw_Z below #[Value.ref b] s) (F0 m 18 ls [])) (Z : LZ s g g' H locs u v) (hl : lv_has ls 4 [(0, .ref b), (1, .ref (g.2.2 0)), (2, .ref (g'.2.2 0)), (3, .int x3)]) (hf : f_law_10 xs L k x3 u v = some 1) : W p l e room_1 s m #[Value.ref b] below meth c H locs 600000 7302250 (lw_Z below #[Value.ref b] s) (F0 m 414 ls []) := by
  have hx := C.1.1
  have hb := C.1.2.1
  unfold f_law_10 at hf
  refine lv_aload_n hx hb dL_law_414 rfl (lv_at hl 1 rfl) ?_
  refine lv_aload_n hx hb dL_law_415 rfl (lv_at hl 0 rfl) ?_
  refine lv_iload_n hx hb dL_law_416 rfl (lv_at hl 3 rfl) ?_
  refine lv_iconst (v := 1) hx hb dL_law_417 (by decide +kernel) ?_
  refine lv_iadd hx hb dL_law_418 ?_
  by_cases ho419 : oob (x3 + 1) L = true
  · rw [if_pos ho419] at hf; cases hf
  rw [if_neg ho419] at hf
  refine law_sld C Z ho419 dL_law_419 ?_
  obtain ⟨r420, hr420, hf⟩ := Option.bind_eq_some_iff.mp hf
  refine law_ci (As := [.int (xs (Int32.toNatClampNeg (x3 + 1)))]) (rest := []) C Z (c_X7_asks l hr420) mf_X7_asks mw_580 rfl (oC_0 _ _) rfl ⟨rfl, rfl, by decide, by decide⟩ rfl hl.1 (Nat.le_of_ble_eq_true rfl) dL_law_420 (fun H locs Z => ?_)
  refine lv_aload_n hx hb dL_law_423 rfl (lv_at hl 2 rfl) ?_
  refine lv_aload_n hx hb dL_law_424 rfl (lv_at hl 0 rfl) ?_
  refine lv_iload_n hx hb dL_law_425 rfl (lv_at hl 3 rfl) ?_
  refine lv_iconst (v := 1) hx hb dL_law_426 (by decide +kernel) ?_
  refine lv_iadd hx hb dL_law_427 ?_
  refine law_sld C Z ho419 dL_law_428 ?_
  obtain ⟨r429, hr429, hf⟩ := Option.bind_eq_some_iff.mp hf
  refine law_mi (As := [.int (xs (Int32.toNatClampNeg (x3 + 1)))]) (rest := [.int r420.1]) C Z (c_X8_asks l hr429) mf_X8_asks mw_1084 rfl (oM_0 _ _) rfl ⟨rfl, rfl, by decide, by decide⟩ rfl hl.1 (Nat.le_of_ble_eq_true rfl) dL_law_429 (fun H locs Z => ?_)
  refine lv_icmp_eq (tgt := 914) hx hb dL_law_432 (by decide) (fun hc => ?_) (fun hc => ?_)
  · rw [if_pos hc] at hf
    refine lv_iinc (v := x3 + 7) (lv' := [(3, .int (x3 + 7)), (0, .ref b), (1, .ref (g.2.2 0)), (2, .ref (g'.2.2 0))]) hx hb dL_law_914 hl (k := 3) rfl rfl (by decide) rfl (fun ls hl => ?_)
    refine lv_goto (tgt := 18) hx hb dL_law_917 (by decide) ?_
    exact ih _ _ _ _ _ _ Z (lv_sub hl [1, 2, 3, 0] rfl) hf
  · rw [if_neg hc] at hf
    exact absurd (Option.some.inj hf) (by decide)
def f_law_11 (xs : Nat → Int32) (L : Nat) (k : Int32 → St → St → Option Int32) (x3 : Int32) (u v : St) : Option Int32 :=
  Option.bind (f_X7_undo u) fun r438 =>
  Option.bind (f_X8_undo v) fun r442 =>
  if r438.1 = r442.1 then
    k (x3 + 7) r438.2 r442.2
  else some 0
set_option maxHeartbeats 4000000 in
set_option maxRecDepth 100000 in
theorem b_law_11 {p : Program} {l : Launch} {e : Env} {s : State} {m : MethodId} {below : List Frame} {meth : Method} {c : Code} {H : Heap} {locs : List Loc} {b L : Nat} {xs : Nat → Int32} {g g' : Gx} {u v : St} {ls : Array Slot} {x3 : Int32} {k : Int32 → St → St → Option Int32} (C : LC p s m meth c b L xs g g') (ih : ∀ (x3 : Int32) (u v : St) (H : Heap) (locs : List Loc) (ls : Array Slot), LZ s g g' H locs u v → lv_has ls 4 [(0, .ref b), (1, .ref (g.2.2 0)), (2, .ref (g'.2.2 0)), (3, .int x3)] → k x3 u v = some 1 → W p l e room_1 s m #[Value.ref b] below meth c H locs 600000 7302250 (lw_Z below #[Value.ref b] s) (F0 m 18 ls [])) (Z : LZ s g g' H locs u v) (hl : lv_has ls 4 [(0, .ref b), (1, .ref (g.2.2 0)), (2, .ref (g'.2.2 0)), (3, .int x3)]) (hf : f_law_11 xs L k x3 u v = some 1) : W p l e room_1 s m #[Value.ref b] below meth c H locs 600000 7302250 (lw_Z below #[Value.ref b] s) (F0 m 437 ls []) := by
  have hx := C.1.1
  have hb := C.1.2.1
  unfold f_law_11 at hf
  refine lv_aload_n hx hb dL_law_437 rfl (lv_at hl 1 rfl) ?_
  obtain ⟨r438, hr438, hf⟩ := Option.bind_eq_some_iff.mp hf
  refine law_ci (As := []) (rest := []) C Z (c_X7_undo l hr438) mf_X7_undo mw_597 rfl (oC_0 _ _) rfl ⟨rfl, rfl, by decide, by decide⟩ rfl hl.1 (Nat.le_of_ble_eq_true rfl) dL_law_438 (fun H locs Z => ?_)
  refine lv_aload_n hx hb dL_law_441 rfl (lv_at hl 2 rfl) ?_
  obtain ⟨r442, hr442, hf⟩ := Option.bind_eq_some_iff.mp hf
  refine law_mi (As := []) (rest := [.int r438.1]) C Z (c_X8_undo l hr442) mf_X8_undo mw_1092 rfl (oM_0 _ _) rfl ⟨rfl, rfl, by decide, by decide⟩ rfl hl.1 (Nat.le_of_ble_eq_true rfl) dL_law_442 (fun H locs Z => ?_)
  refine lv_icmp_eq (tgt := 914) hx hb dL_law_445 (by decide) (fun hc => ?_) (fun hc => ?_)
  · rw [if_pos hc] at hf
    refine lv_iinc (v := x3 + 7) (lv' := [(3, .int (x3 + 7)), (0, .ref b), (1, .ref (g.2.2 0)), (2, .ref (g'.2.2 0))]) hx hb dL_law_914 hl (k := 3) rfl rfl (by decide) rfl (fun ls hl => ?_)
    refine lv_goto (tgt := 18) hx hb dL_law_917 (by decide) ?_
    exact ih _ _ _ _ _ _ Z (lv_sub hl [1, 2, 3, 0] rfl) hf
  · rw [if_neg hc] at hf
    exact absurd (Option.some.inj hf) (by decide)
def f_law_12 (xs : Nat → Int32) (L : Nat) (k : Int32 → St → St → Option Int32) (x3 : Int32) (u v : St) : Option Int32 :=
  if oob (x3 + 1) L then none else
  Option.bind (f_X7_now u (xs (Int32.toNatClampNeg (x3 + 1)))) fun r456 =>
  Option.bind (f_X8_now v (xs (Int32.toNatClampNeg (x3 + 1)))) fun r465 =>
  if r456 = r465 then
    k (x3 + 7) u v
  else some 0
set_option maxHeartbeats 4000000 in
set_option maxRecDepth 100000 in
theorem b_law_12 {p : Program} {l : Launch} {e : Env} {s : State} {m : MethodId} {below : List Frame} {meth : Method} {c : Code} {H : Heap} {locs : List Loc} {b L : Nat} {xs : Nat → Int32} {g g' : Gx} {u v : St} {ls : Array Slot} {x3 : Int32} {k : Int32 → St → St → Option Int32} (C : LC p s m meth c b L xs g g') (ih : ∀ (x3 : Int32) (u v : St) (H : Heap) (locs : List Loc) (ls : Array Slot), LZ s g g' H locs u v → lv_has ls 4 [(0, .ref b), (1, .ref (g.2.2 0)), (2, .ref (g'.2.2 0)), (3, .int x3)] → k x3 u v = some 1 → W p l e room_1 s m #[Value.ref b] below meth c H locs 600000 7302250 (lw_Z below #[Value.ref b] s) (F0 m 18 ls [])) (Z : LZ s g g' H locs u v) (hl : lv_has ls 4 [(0, .ref b), (1, .ref (g.2.2 0)), (2, .ref (g'.2.2 0)), (3, .int x3)]) (hf : f_law_12 xs L k x3 u v = some 1) : W p l e room_1 s m #[Value.ref b] below meth c H locs 600000 7302250 (lw_Z below #[Value.ref b] s) (F0 m 450 ls []) := by
  have hx := C.1.1
  have hb := C.1.2.1
  unfold f_law_12 at hf
  refine lv_aload_n hx hb dL_law_450 rfl (lv_at hl 1 rfl) ?_
  refine lv_aload_n hx hb dL_law_451 rfl (lv_at hl 0 rfl) ?_
  refine lv_iload_n hx hb dL_law_452 rfl (lv_at hl 3 rfl) ?_
  refine lv_iconst (v := 1) hx hb dL_law_453 (by decide +kernel) ?_
  refine lv_iadd hx hb dL_law_454 ?_
  by_cases ho455 : oob (x3 + 1) L = true
  · rw [if_pos ho455] at hf; cases hf
  rw [if_neg ho455] at hf
  refine law_sld C Z ho455 dL_law_455 ?_
  obtain ⟨r456, hr456, hf⟩ := Option.bind_eq_some_iff.mp hf
  refine law_ci (As := [.int (xs (Int32.toNatClampNeg (x3 + 1)))]) (rest := []) C Z (c_X7_now l hr456) mf_X7_now mw_609 rfl (oC_0 _ _) rfl ⟨rfl, rfl, by decide, by decide⟩ rfl hl.1 (Nat.le_of_ble_eq_true rfl) dL_law_456 (fun H locs Z => ?_)
  refine lv_aload_n hx hb dL_law_459 rfl (lv_at hl 2 rfl) ?_
  refine lv_aload_n hx hb dL_law_460 rfl (lv_at hl 0 rfl) ?_
  refine lv_iload_n hx hb dL_law_461 rfl (lv_at hl 3 rfl) ?_
  refine lv_iconst (v := 1) hx hb dL_law_462 (by decide +kernel) ?_
  refine lv_iadd hx hb dL_law_463 ?_
  refine law_sld C Z ho455 dL_law_464 ?_
  obtain ⟨r465, hr465, hf⟩ := Option.bind_eq_some_iff.mp hf
  refine law_mi (As := [.int (xs (Int32.toNatClampNeg (x3 + 1)))]) (rest := [.int r456]) C Z (c_X8_now l hr465) mf_X8_now mw_1096 rfl (oM_0 _ _) rfl ⟨rfl, rfl, by decide, by decide⟩ rfl hl.1 (Nat.le_of_ble_eq_true rfl) dL_law_465 (fun H locs Z => ?_)
  refine lv_icmp_eq (tgt := 914) hx hb dL_law_468 (by decide) (fun hc => ?_) (fun hc => ?_)
  · rw [if_pos hc] at hf
    refine lv_iinc (v := x3 + 7) (lv' := [(3, .int (x3 + 7)), (0, .ref b), (1, .ref (g.2.2 0)), (2, .ref (g'.2.2 0))]) hx hb dL_law_914 hl (k := 3) rfl rfl (by decide) rfl (fun ls hl => ?_)
    refine lv_goto (tgt := 18) hx hb dL_law_917 (by decide) ?_
    exact ih _ _ _ _ _ _ Z (lv_sub hl [1, 2, 3, 0] rfl) hf
  · rw [if_neg hc] at hf
    exact absurd (Option.some.inj hf) (by decide)
def f_law_13 (xs : Nat → Int32) (L : Nat) (k : Int32 → St → St → Option Int32) (x3 : Int32) (u v : St) : Option Int32 :=
  if oob (x3 + 1) L then none else
  if oob (x3 + 2) L then none else
  Option.bind (f_X7_view u (xs (Int32.toNatClampNeg (x3 + 1))) (xs (Int32.toNatClampNeg (x3 + 2)))) fun r484 =>
  Option.bind (f_X8_view v (xs (Int32.toNatClampNeg (x3 + 1))) (xs (Int32.toNatClampNeg (x3 + 2)))) fun r498 =>
  if r484 = r498 then
    k (x3 + 7) u v
  else some 0
set_option maxHeartbeats 4000000 in
set_option maxRecDepth 100000 in
theorem b_law_13 {p : Program} {l : Launch} {e : Env} {s : State} {m : MethodId} {below : List Frame} {meth : Method} {c : Code} {H : Heap} {locs : List Loc} {b L : Nat} {xs : Nat → Int32} {g g' : Gx} {u v : St} {ls : Array Slot} {x3 : Int32} {k : Int32 → St → St → Option Int32} (C : LC p s m meth c b L xs g g') (ih : ∀ (x3 : Int32) (u v : St) (H : Heap) (locs : List Loc) (ls : Array Slot), LZ s g g' H locs u v → lv_has ls 4 [(0, .ref b), (1, .ref (g.2.2 0)), (2, .ref (g'.2.2 0)), (3, .int x3)] → k x3 u v = some 1 → W p l e room_1 s m #[Value.ref b] below meth c H locs 600000 7302250 (lw_Z below #[Value.ref b] s) (F0 m 18 ls [])) (Z : LZ s g g' H locs u v) (hl : lv_has ls 4 [(0, .ref b), (1, .ref (g.2.2 0)), (2, .ref (g'.2.2 0)), (3, .int x3)]) (hf : f_law_13 xs L k x3 u v = some 1) : W p l e room_1 s m #[Value.ref b] below meth c H locs 600000 7302250 (lw_Z below #[Value.ref b] s) (F0 m 473 ls []) := by
  have hx := C.1.1
  have hb := C.1.2.1
  unfold f_law_13 at hf
  refine lv_aload_n hx hb dL_law_473 rfl (lv_at hl 1 rfl) ?_
  refine lv_aload_n hx hb dL_law_474 rfl (lv_at hl 0 rfl) ?_
  refine lv_iload_n hx hb dL_law_475 rfl (lv_at hl 3 rfl) ?_
  refine lv_iconst (v := 1) hx hb dL_law_476 (by decide +kernel) ?_
  refine lv_iadd hx hb dL_law_477 ?_
  by_cases ho478 : oob (x3 + 1) L = true
  · rw [if_pos ho478] at hf; cases hf
  rw [if_neg ho478] at hf
  refine law_sld C Z ho478 dL_law_478 ?_
  refine lv_aload_n hx hb dL_law_479 rfl (lv_at hl 0 rfl) ?_
  refine lv_iload_n hx hb dL_law_480 rfl (lv_at hl 3 rfl) ?_
  refine lv_iconst (v := 2) hx hb dL_law_481 (by decide +kernel) ?_
  refine lv_iadd hx hb dL_law_482 ?_
  by_cases ho483 : oob (x3 + 2) L = true
  · rw [if_pos ho483] at hf; cases hf
  rw [if_neg ho483] at hf
  refine law_sld C Z ho483 dL_law_483 ?_
  obtain ⟨r484, hr484, hf⟩ := Option.bind_eq_some_iff.mp hf
  refine law_ci (As := [.int (xs (Int32.toNatClampNeg (x3 + 1))), .int (xs (Int32.toNatClampNeg (x3 + 2)))]) (rest := []) C Z (c_X7_view l hr484) mf_X7_view mw_635 rfl (oC_0 _ _) rfl ⟨rfl, rfl, by decide, by decide⟩ rfl hl.1 (Nat.le_of_ble_eq_true rfl) dL_law_484 (fun H locs Z => ?_)
  refine lv_aload_n hx hb dL_law_487 rfl (lv_at hl 2 rfl) ?_
  refine lv_aload_n hx hb dL_law_488 rfl (lv_at hl 0 rfl) ?_
  refine lv_iload_n hx hb dL_law_489 rfl (lv_at hl 3 rfl) ?_
  refine lv_iconst (v := 1) hx hb dL_law_490 (by decide +kernel) ?_
  refine lv_iadd hx hb dL_law_491 ?_
  refine law_sld C Z ho478 dL_law_492 ?_
  refine lv_aload_n hx hb dL_law_493 rfl (lv_at hl 0 rfl) ?_
  refine lv_iload_n hx hb dL_law_494 rfl (lv_at hl 3 rfl) ?_
  refine lv_iconst (v := 2) hx hb dL_law_495 (by decide +kernel) ?_
  refine lv_iadd hx hb dL_law_496 ?_
  refine law_sld C Z ho483 dL_law_497 ?_
  obtain ⟨r498, hr498, hf⟩ := Option.bind_eq_some_iff.mp hf
  refine law_mi (As := [.int (xs (Int32.toNatClampNeg (x3 + 1))), .int (xs (Int32.toNatClampNeg (x3 + 2)))]) (rest := [.int r484]) C Z (c_X8_view l hr498) mf_X8_view mw_1111 rfl (oM_0 _ _) rfl ⟨rfl, rfl, by decide, by decide⟩ rfl hl.1 (Nat.le_of_ble_eq_true rfl) dL_law_498 (fun H locs Z => ?_)
  refine lv_icmp_eq (tgt := 914) hx hb dL_law_501 (by decide) (fun hc => ?_) (fun hc => ?_)
  · rw [if_pos hc] at hf
    refine lv_iinc (v := x3 + 7) (lv' := [(3, .int (x3 + 7)), (0, .ref b), (1, .ref (g.2.2 0)), (2, .ref (g'.2.2 0))]) hx hb dL_law_914 hl (k := 3) rfl rfl (by decide) rfl (fun ls hl => ?_)
    refine lv_goto (tgt := 18) hx hb dL_law_917 (by decide) ?_
    exact ih _ _ _ _ _ _ Z (lv_sub hl [1, 2, 3, 0] rfl) hf
  · rw [if_neg hc] at hf
    exact absurd (Option.some.inj hf) (by decide)
def f_law_14 (xs : Nat → Int32) (L : Nat) (k : Int32 → St → St → Option Int32) (x3 : Int32) (u v : St) : Option Int32 :=
  if oob (x3 + 1) L then none else
  Option.bind (f_X7_blind u (xs (Int32.toNatClampNeg (x3 + 1)))) fun r512 =>
  Option.bind (f_X8_blind v (xs (Int32.toNatClampNeg (x3 + 1)))) fun r521 =>
  if r512 = r521 then
    k (x3 + 7) u v
  else some 0
set_option maxHeartbeats 4000000 in
set_option maxRecDepth 100000 in
theorem b_law_14 {p : Program} {l : Launch} {e : Env} {s : State} {m : MethodId} {below : List Frame} {meth : Method} {c : Code} {H : Heap} {locs : List Loc} {b L : Nat} {xs : Nat → Int32} {g g' : Gx} {u v : St} {ls : Array Slot} {x3 : Int32} {k : Int32 → St → St → Option Int32} (C : LC p s m meth c b L xs g g') (ih : ∀ (x3 : Int32) (u v : St) (H : Heap) (locs : List Loc) (ls : Array Slot), LZ s g g' H locs u v → lv_has ls 4 [(0, .ref b), (1, .ref (g.2.2 0)), (2, .ref (g'.2.2 0)), (3, .int x3)] → k x3 u v = some 1 → W p l e room_1 s m #[Value.ref b] below meth c H locs 600000 7302250 (lw_Z below #[Value.ref b] s) (F0 m 18 ls [])) (Z : LZ s g g' H locs u v) (hl : lv_has ls 4 [(0, .ref b), (1, .ref (g.2.2 0)), (2, .ref (g'.2.2 0)), (3, .int x3)]) (hf : f_law_14 xs L k x3 u v = some 1) : W p l e room_1 s m #[Value.ref b] below meth c H locs 600000 7302250 (lw_Z below #[Value.ref b] s) (F0 m 506 ls []) := by
  have hx := C.1.1
  have hb := C.1.2.1
  unfold f_law_14 at hf
  refine lv_aload_n hx hb dL_law_506 rfl (lv_at hl 1 rfl) ?_
  refine lv_aload_n hx hb dL_law_507 rfl (lv_at hl 0 rfl) ?_
  refine lv_iload_n hx hb dL_law_508 rfl (lv_at hl 3 rfl) ?_
  refine lv_iconst (v := 1) hx hb dL_law_509 (by decide +kernel) ?_
  refine lv_iadd hx hb dL_law_510 ?_
  by_cases ho511 : oob (x3 + 1) L = true
  · rw [if_pos ho511] at hf; cases hf
  rw [if_neg ho511] at hf
  refine law_sld C Z ho511 dL_law_511 ?_
  obtain ⟨r512, hr512, hf⟩ := Option.bind_eq_some_iff.mp hf
  refine law_ci (As := [.int (xs (Int32.toNatClampNeg (x3 + 1)))]) (rest := []) C Z (c_X7_blind l hr512) mf_X7_blind mw_646 rfl (oC_0 _ _) rfl ⟨rfl, rfl, by decide, by decide⟩ rfl hl.1 (Nat.le_of_ble_eq_true rfl) dL_law_512 (fun H locs Z => ?_)
  refine lv_aload_n hx hb dL_law_515 rfl (lv_at hl 2 rfl) ?_
  refine lv_aload_n hx hb dL_law_516 rfl (lv_at hl 0 rfl) ?_
  refine lv_iload_n hx hb dL_law_517 rfl (lv_at hl 3 rfl) ?_
  refine lv_iconst (v := 1) hx hb dL_law_518 (by decide +kernel) ?_
  refine lv_iadd hx hb dL_law_519 ?_
  refine law_sld C Z ho511 dL_law_520 ?_
  obtain ⟨r521, hr521, hf⟩ := Option.bind_eq_some_iff.mp hf
  refine law_mi (As := [.int (xs (Int32.toNatClampNeg (x3 + 1)))]) (rest := [.int r512]) C Z (c_X8_blind l hr521) mf_X8_blind mw_1122 rfl (oM_0 _ _) rfl ⟨rfl, rfl, by decide, by decide⟩ rfl hl.1 (Nat.le_of_ble_eq_true rfl) dL_law_521 (fun H locs Z => ?_)
  refine lv_icmp_eq (tgt := 914) hx hb dL_law_524 (by decide) (fun hc => ?_) (fun hc => ?_)
  · rw [if_pos hc] at hf
    refine lv_iinc (v := x3 + 7) (lv' := [(3, .int (x3 + 7)), (0, .ref b), (1, .ref (g.2.2 0)), (2, .ref (g'.2.2 0))]) hx hb dL_law_914 hl (k := 3) rfl rfl (by decide) rfl (fun ls hl => ?_)
    refine lv_goto (tgt := 18) hx hb dL_law_917 (by decide) ?_
    exact ih _ _ _ _ _ _ Z (lv_sub hl [1, 2, 3, 0] rfl) hf
  · rw [if_neg hc] at hf
    exact absurd (Option.some.inj hf) (by decide)
def f_law_15 (xs : Nat → Int32) (L : Nat) (k : Int32 → St → St → Option Int32) (x3 : Int32) (u v : St) : Option Int32 :=
  if oob (x3 + 1) L then none else
  if oob (x3 + 2) L then none else
  Option.bind (f_X7_most u (xs (Int32.toNatClampNeg (x3 + 1))) (xs (Int32.toNatClampNeg (x3 + 2)))) fun r540 =>
  Option.bind (f_X8_most v (xs (Int32.toNatClampNeg (x3 + 1))) (xs (Int32.toNatClampNeg (x3 + 2)))) fun r554 =>
  if r540 = r554 then
    k (x3 + 7) u v
  else some 0
set_option maxHeartbeats 4000000 in
set_option maxRecDepth 100000 in
theorem b_law_15 {p : Program} {l : Launch} {e : Env} {s : State} {m : MethodId} {below : List Frame} {meth : Method} {c : Code} {H : Heap} {locs : List Loc} {b L : Nat} {xs : Nat → Int32} {g g' : Gx} {u v : St} {ls : Array Slot} {x3 : Int32} {k : Int32 → St → St → Option Int32} (C : LC p s m meth c b L xs g g') (ih : ∀ (x3 : Int32) (u v : St) (H : Heap) (locs : List Loc) (ls : Array Slot), LZ s g g' H locs u v → lv_has ls 4 [(0, .ref b), (1, .ref (g.2.2 0)), (2, .ref (g'.2.2 0)), (3, .int x3)] → k x3 u v = some 1 → W p l e room_1 s m #[Value.ref b] below meth c H locs 600000 7302250 (lw_Z below #[Value.ref b] s) (F0 m 18 ls [])) (Z : LZ s g g' H locs u v) (hl : lv_has ls 4 [(0, .ref b), (1, .ref (g.2.2 0)), (2, .ref (g'.2.2 0)), (3, .int x3)]) (hf : f_law_15 xs L k x3 u v = some 1) : W p l e room_1 s m #[Value.ref b] below meth c H locs 600000 7302250 (lw_Z below #[Value.ref b] s) (F0 m 529 ls []) := by
  have hx := C.1.1
  have hb := C.1.2.1
  unfold f_law_15 at hf
  refine lv_aload_n hx hb dL_law_529 rfl (lv_at hl 1 rfl) ?_
  refine lv_aload_n hx hb dL_law_530 rfl (lv_at hl 0 rfl) ?_
  refine lv_iload_n hx hb dL_law_531 rfl (lv_at hl 3 rfl) ?_
  refine lv_iconst (v := 1) hx hb dL_law_532 (by decide +kernel) ?_
  refine lv_iadd hx hb dL_law_533 ?_
  by_cases ho534 : oob (x3 + 1) L = true
  · rw [if_pos ho534] at hf; cases hf
  rw [if_neg ho534] at hf
  refine law_sld C Z ho534 dL_law_534 ?_
  refine lv_aload_n hx hb dL_law_535 rfl (lv_at hl 0 rfl) ?_
  refine lv_iload_n hx hb dL_law_536 rfl (lv_at hl 3 rfl) ?_
  refine lv_iconst (v := 2) hx hb dL_law_537 (by decide +kernel) ?_
  refine lv_iadd hx hb dL_law_538 ?_
  by_cases ho539 : oob (x3 + 2) L = true
  · rw [if_pos ho539] at hf; cases hf
  rw [if_neg ho539] at hf
  refine law_sld C Z ho539 dL_law_539 ?_
  obtain ⟨r540, hr540, hf⟩ := Option.bind_eq_some_iff.mp hf
  refine law_ci (As := [.int (xs (Int32.toNatClampNeg (x3 + 1))), .int (xs (Int32.toNatClampNeg (x3 + 2)))]) (rest := []) C Z (c_X7_most l hr540) mf_X7_most mw_656 rfl (oC_0 _ _) rfl ⟨rfl, rfl, by decide, by decide⟩ rfl hl.1 (Nat.le_of_ble_eq_true rfl) dL_law_540 (fun H locs Z => ?_)
  refine lv_aload_n hx hb dL_law_543 rfl (lv_at hl 2 rfl) ?_
  refine lv_aload_n hx hb dL_law_544 rfl (lv_at hl 0 rfl) ?_
  refine lv_iload_n hx hb dL_law_545 rfl (lv_at hl 3 rfl) ?_
  refine lv_iconst (v := 1) hx hb dL_law_546 (by decide +kernel) ?_
  refine lv_iadd hx hb dL_law_547 ?_
  refine law_sld C Z ho534 dL_law_548 ?_
  refine lv_aload_n hx hb dL_law_549 rfl (lv_at hl 0 rfl) ?_
  refine lv_iload_n hx hb dL_law_550 rfl (lv_at hl 3 rfl) ?_
  refine lv_iconst (v := 2) hx hb dL_law_551 (by decide +kernel) ?_
  refine lv_iadd hx hb dL_law_552 ?_
  refine law_sld C Z ho539 dL_law_553 ?_
  obtain ⟨r554, hr554, hf⟩ := Option.bind_eq_some_iff.mp hf
  refine law_mi (As := [.int (xs (Int32.toNatClampNeg (x3 + 1))), .int (xs (Int32.toNatClampNeg (x3 + 2)))]) (rest := [.int r540]) C Z (c_X8_most l hr554) mf_X8_most mw_1127 rfl (oM_0 _ _) rfl ⟨rfl, rfl, by decide, by decide⟩ rfl hl.1 (Nat.le_of_ble_eq_true rfl) dL_law_554 (fun H locs Z => ?_)
  refine lv_icmp_eq (tgt := 914) hx hb dL_law_557 (by decide) (fun hc => ?_) (fun hc => ?_)
  · rw [if_pos hc] at hf
    refine lv_iinc (v := x3 + 7) (lv' := [(3, .int (x3 + 7)), (0, .ref b), (1, .ref (g.2.2 0)), (2, .ref (g'.2.2 0))]) hx hb dL_law_914 hl (k := 3) rfl rfl (by decide) rfl (fun ls hl => ?_)
    refine lv_goto (tgt := 18) hx hb dL_law_917 (by decide) ?_
    exact ih _ _ _ _ _ _ Z (lv_sub hl [1, 2, 3, 0] rfl) hf
  · rw [if_neg hc] at hf
    exact absurd (Option.some.inj hf) (by decide)
def f_law_16 (xs : Nat → Int32) (L : Nat) (k : Int32 → St → St → Option Int32) (x3 : Int32) (u v : St) : Option Int32 :=
  if oob (x3 + 1) L then none else
  if oob (x3 + 2) L then none else
  if oob (x3 + 3) L then none else
  if oob (x3 + 4) L then none else
  if oob (x3 + 5) L then none else
  if oob (x3 + 6) L then none else
  Option.bind (f_X7_odds u (xs (Int32.toNatClampNeg (x3 + 1))) (xs (Int32.toNatClampNeg (x3 + 2))) (xs (Int32.toNatClampNeg (x3 + 3))) (xs (Int32.toNatClampNeg (x3 + 4))) (xs (Int32.toNatClampNeg (x3 + 5))) (xs (Int32.toNatClampNeg (x3 + 6)))) fun r594 =>
  Option.bind (f_X8_odds v (xs (Int32.toNatClampNeg (x3 + 1))) (xs (Int32.toNatClampNeg (x3 + 2))) (xs (Int32.toNatClampNeg (x3 + 3))) (xs (Int32.toNatClampNeg (x3 + 4))) (xs (Int32.toNatClampNeg (x3 + 5))) (xs (Int32.toNatClampNeg (x3 + 6)))) fun r629 =>
  if r594 = r629 then
    k (x3 + 7) u v
  else some 0
set_option maxHeartbeats 4000000 in
set_option maxRecDepth 100000 in
theorem b_law_16 {p : Program} {l : Launch} {e : Env} {s : State} {m : MethodId} {below : List Frame} {meth : Method} {c : Code} {H : Heap} {locs : List Loc} {b L : Nat} {xs : Nat → Int32} {g g' : Gx} {u v : St} {ls : Array Slot} {x3 : Int32} {k : Int32 → St → St → Option Int32} (C : LC p s m meth c b L xs g g') (ih : ∀ (x3 : Int32) (u v : St) (H : Heap) (locs : List Loc) (ls : Array Slot), LZ s g g' H locs u v → lv_has ls 4 [(0, .ref b), (1, .ref (g.2.2 0)), (2, .ref (g'.2.2 0)), (3, .int x3)] → k x3 u v = some 1 → W p l e room_1 s m #[Value.ref b] below meth c H locs 600000 7302250 (lw_Z below #[Value.ref b] s) (F0 m 18 ls [])) (Z : LZ s g g' H locs u v) (hl : lv_has ls 4 [(0, .ref b), (1, .ref (g.2.2 0)), (2, .ref (g'.2.2 0)), (3, .int x3)]) (hf : f_law_16 xs L k x3 u v = some 1) : W p l e room_1 s m #[Value.ref b] below meth c H locs 600000 7302250 (lw_Z below #[Value.ref b] s) (F0 m 562 ls []) := by
  have hx := C.1.1
  have hb := C.1.2.1
  unfold f_law_16 at hf
  refine lv_aload_n hx hb dL_law_562 rfl (lv_at hl 1 rfl) ?_
  refine lv_aload_n hx hb dL_law_563 rfl (lv_at hl 0 rfl) ?_
  refine lv_iload_n hx hb dL_law_564 rfl (lv_at hl 3 rfl) ?_
  refine lv_iconst (v := 1) hx hb dL_law_565 (by decide +kernel) ?_
  refine lv_iadd hx hb dL_law_566 ?_
  by_cases ho567 : oob (x3 + 1) L = true
  · rw [if_pos ho567] at hf; cases hf
  rw [if_neg ho567] at hf
  refine law_sld C Z ho567 dL_law_567 ?_
  refine lv_aload_n hx hb dL_law_568 rfl (lv_at hl 0 rfl) ?_
  refine lv_iload_n hx hb dL_law_569 rfl (lv_at hl 3 rfl) ?_
  refine lv_iconst (v := 2) hx hb dL_law_570 (by decide +kernel) ?_
  refine lv_iadd hx hb dL_law_571 ?_
  by_cases ho572 : oob (x3 + 2) L = true
  · rw [if_pos ho572] at hf; cases hf
  rw [if_neg ho572] at hf
  refine law_sld C Z ho572 dL_law_572 ?_
  refine lv_aload_n hx hb dL_law_573 rfl (lv_at hl 0 rfl) ?_
  refine lv_iload_n hx hb dL_law_574 rfl (lv_at hl 3 rfl) ?_
  refine lv_iconst (v := 3) hx hb dL_law_575 (by decide +kernel) ?_
  refine lv_iadd hx hb dL_law_576 ?_
  by_cases ho577 : oob (x3 + 3) L = true
  · rw [if_pos ho577] at hf; cases hf
  rw [if_neg ho577] at hf
  refine law_sld C Z ho577 dL_law_577 ?_
  refine lv_aload_n hx hb dL_law_578 rfl (lv_at hl 0 rfl) ?_
  refine lv_iload_n hx hb dL_law_579 rfl (lv_at hl 3 rfl) ?_
  refine lv_iconst (v := 4) hx hb dL_law_580 (by decide +kernel) ?_
  refine lv_iadd hx hb dL_law_581 ?_
  by_cases ho582 : oob (x3 + 4) L = true
  · rw [if_pos ho582] at hf; cases hf
  rw [if_neg ho582] at hf
  refine law_sld C Z ho582 dL_law_582 ?_
  refine lv_aload_n hx hb dL_law_583 rfl (lv_at hl 0 rfl) ?_
  refine lv_iload_n hx hb dL_law_584 rfl (lv_at hl 3 rfl) ?_
  refine lv_iconst (v := 5) hx hb dL_law_585 (by decide +kernel) ?_
  refine lv_iadd hx hb dL_law_586 ?_
  by_cases ho587 : oob (x3 + 5) L = true
  · rw [if_pos ho587] at hf; cases hf
  rw [if_neg ho587] at hf
  refine law_sld C Z ho587 dL_law_587 ?_
  refine lv_aload_n hx hb dL_law_588 rfl (lv_at hl 0 rfl) ?_
  refine lv_iload_n hx hb dL_law_589 rfl (lv_at hl 3 rfl) ?_
  refine lv_bipush (v := 6) hx hb dL_law_590 (by decide +kernel) ?_
  refine lv_iadd hx hb dL_law_592 ?_
  by_cases ho593 : oob (x3 + 6) L = true
  · rw [if_pos ho593] at hf; cases hf
  rw [if_neg ho593] at hf
  refine law_sld C Z ho593 dL_law_593 ?_
  obtain ⟨r594, hr594, hf⟩ := Option.bind_eq_some_iff.mp hf
  refine law_ci (As := [.int (xs (Int32.toNatClampNeg (x3 + 1))), .int (xs (Int32.toNatClampNeg (x3 + 2))), .int (xs (Int32.toNatClampNeg (x3 + 3))), .int (xs (Int32.toNatClampNeg (x3 + 4))), .int (xs (Int32.toNatClampNeg (x3 + 5))), .int (xs (Int32.toNatClampNeg (x3 + 6)))]) (rest := []) C Z (c_X7_odds l hr594) mf_X7_odds mw_660 rfl (oC_0 _ _) rfl ⟨rfl, rfl, by decide, by decide⟩ rfl hl.1 (Nat.le_of_ble_eq_true rfl) dL_law_594 (fun H locs Z => ?_)
  refine lv_aload_n hx hb dL_law_597 rfl (lv_at hl 2 rfl) ?_
  refine lv_aload_n hx hb dL_law_598 rfl (lv_at hl 0 rfl) ?_
  refine lv_iload_n hx hb dL_law_599 rfl (lv_at hl 3 rfl) ?_
  refine lv_iconst (v := 1) hx hb dL_law_600 (by decide +kernel) ?_
  refine lv_iadd hx hb dL_law_601 ?_
  refine law_sld C Z ho567 dL_law_602 ?_
  refine lv_aload_n hx hb dL_law_603 rfl (lv_at hl 0 rfl) ?_
  refine lv_iload_n hx hb dL_law_604 rfl (lv_at hl 3 rfl) ?_
  refine lv_iconst (v := 2) hx hb dL_law_605 (by decide +kernel) ?_
  refine lv_iadd hx hb dL_law_606 ?_
  refine law_sld C Z ho572 dL_law_607 ?_
  refine lv_aload_n hx hb dL_law_608 rfl (lv_at hl 0 rfl) ?_
  refine lv_iload_n hx hb dL_law_609 rfl (lv_at hl 3 rfl) ?_
  refine lv_iconst (v := 3) hx hb dL_law_610 (by decide +kernel) ?_
  refine lv_iadd hx hb dL_law_611 ?_
  refine law_sld C Z ho577 dL_law_612 ?_
  refine lv_aload_n hx hb dL_law_613 rfl (lv_at hl 0 rfl) ?_
  refine lv_iload_n hx hb dL_law_614 rfl (lv_at hl 3 rfl) ?_
  refine lv_iconst (v := 4) hx hb dL_law_615 (by decide +kernel) ?_
  refine lv_iadd hx hb dL_law_616 ?_
  refine law_sld C Z ho582 dL_law_617 ?_
  refine lv_aload_n hx hb dL_law_618 rfl (lv_at hl 0 rfl) ?_
  refine lv_iload_n hx hb dL_law_619 rfl (lv_at hl 3 rfl) ?_
  refine lv_iconst (v := 5) hx hb dL_law_620 (by decide +kernel) ?_
  refine lv_iadd hx hb dL_law_621 ?_
  refine law_sld C Z ho587 dL_law_622 ?_
  refine lv_aload_n hx hb dL_law_623 rfl (lv_at hl 0 rfl) ?_
  refine lv_iload_n hx hb dL_law_624 rfl (lv_at hl 3 rfl) ?_
  refine lv_bipush (v := 6) hx hb dL_law_625 (by decide +kernel) ?_
  refine lv_iadd hx hb dL_law_627 ?_
  refine law_sld C Z ho593 dL_law_628 ?_
  obtain ⟨r629, hr629, hf⟩ := Option.bind_eq_some_iff.mp hf
  refine law_mi (As := [.int (xs (Int32.toNatClampNeg (x3 + 1))), .int (xs (Int32.toNatClampNeg (x3 + 2))), .int (xs (Int32.toNatClampNeg (x3 + 3))), .int (xs (Int32.toNatClampNeg (x3 + 4))), .int (xs (Int32.toNatClampNeg (x3 + 5))), .int (xs (Int32.toNatClampNeg (x3 + 6)))]) (rest := [.int r594]) C Z (c_X8_odds l hr629) mf_X8_odds mw_1135 rfl (oM_0 _ _) rfl ⟨rfl, rfl, by decide, by decide⟩ rfl hl.1 (Nat.le_of_ble_eq_true rfl) dL_law_629 (fun H locs Z => ?_)
  refine lv_icmp_eq (tgt := 914) hx hb dL_law_632 (by decide) (fun hc => ?_) (fun hc => ?_)
  · rw [if_pos hc] at hf
    refine lv_iinc (v := x3 + 7) (lv' := [(3, .int (x3 + 7)), (0, .ref b), (1, .ref (g.2.2 0)), (2, .ref (g'.2.2 0))]) hx hb dL_law_914 hl (k := 3) rfl rfl (by decide) rfl (fun ls hl => ?_)
    refine lv_goto (tgt := 18) hx hb dL_law_917 (by decide) ?_
    exact ih _ _ _ _ _ _ Z (lv_sub hl [1, 2, 3, 0] rfl) hf
  · rw [if_neg hc] at hf
    exact absurd (Option.some.inj hf) (by decide)
def f_law_17 (xs : Nat → Int32) (L : Nat) (k : Int32 → St → St → Option Int32) (x3 : Int32) (u v : St) : Option Int32 :=
  if oob (x3 + 1) L then none else
  if oob (x3 + 2) L then none else
  Option.bind (f_X7_faced u (xs (Int32.toNatClampNeg (x3 + 1))) (xs (Int32.toNatClampNeg (x3 + 2)))) fun r648 =>
  Option.bind (f_X8_faced v (xs (Int32.toNatClampNeg (x3 + 1))) (xs (Int32.toNatClampNeg (x3 + 2)))) fun r662 =>
  if r648.1 = r662.1 then
    k (x3 + 7) r648.2 r662.2
  else some 0
set_option maxHeartbeats 4000000 in
set_option maxRecDepth 100000 in
theorem b_law_17 {p : Program} {l : Launch} {e : Env} {s : State} {m : MethodId} {below : List Frame} {meth : Method} {c : Code} {H : Heap} {locs : List Loc} {b L : Nat} {xs : Nat → Int32} {g g' : Gx} {u v : St} {ls : Array Slot} {x3 : Int32} {k : Int32 → St → St → Option Int32} (C : LC p s m meth c b L xs g g') (ih : ∀ (x3 : Int32) (u v : St) (H : Heap) (locs : List Loc) (ls : Array Slot), LZ s g g' H locs u v → lv_has ls 4 [(0, .ref b), (1, .ref (g.2.2 0)), (2, .ref (g'.2.2 0)), (3, .int x3)] → k x3 u v = some 1 → W p l e room_1 s m #[Value.ref b] below meth c H locs 600000 7302250 (lw_Z below #[Value.ref b] s) (F0 m 18 ls [])) (Z : LZ s g g' H locs u v) (hl : lv_has ls 4 [(0, .ref b), (1, .ref (g.2.2 0)), (2, .ref (g'.2.2 0)), (3, .int x3)]) (hf : f_law_17 xs L k x3 u v = some 1) : W p l e room_1 s m #[Value.ref b] below meth c H locs 600000 7302250 (lw_Z below #[Value.ref b] s) (F0 m 637 ls []) := by
  have hx := C.1.1
  have hb := C.1.2.1
  unfold f_law_17 at hf
  refine lv_aload_n hx hb dL_law_637 rfl (lv_at hl 1 rfl) ?_
  refine lv_aload_n hx hb dL_law_638 rfl (lv_at hl 0 rfl) ?_
  refine lv_iload_n hx hb dL_law_639 rfl (lv_at hl 3 rfl) ?_
  refine lv_iconst (v := 1) hx hb dL_law_640 (by decide +kernel) ?_
  refine lv_iadd hx hb dL_law_641 ?_
  by_cases ho642 : oob (x3 + 1) L = true
  · rw [if_pos ho642] at hf; cases hf
  rw [if_neg ho642] at hf
  refine law_sld C Z ho642 dL_law_642 ?_
  refine lv_aload_n hx hb dL_law_643 rfl (lv_at hl 0 rfl) ?_
  refine lv_iload_n hx hb dL_law_644 rfl (lv_at hl 3 rfl) ?_
  refine lv_iconst (v := 2) hx hb dL_law_645 (by decide +kernel) ?_
  refine lv_iadd hx hb dL_law_646 ?_
  by_cases ho647 : oob (x3 + 2) L = true
  · rw [if_pos ho647] at hf; cases hf
  rw [if_neg ho647] at hf
  refine law_sld C Z ho647 dL_law_647 ?_
  obtain ⟨r648, hr648, hf⟩ := Option.bind_eq_some_iff.mp hf
  refine law_ci (As := [.int (xs (Int32.toNatClampNeg (x3 + 1))), .int (xs (Int32.toNatClampNeg (x3 + 2)))]) (rest := []) C Z (c_X7_faced l hr648) mf_X7_faced mw_674 rfl (oC_0 _ _) rfl ⟨rfl, rfl, by decide, by decide⟩ rfl hl.1 (Nat.le_of_ble_eq_true rfl) dL_law_648 (fun H locs Z => ?_)
  refine lv_aload_n hx hb dL_law_651 rfl (lv_at hl 2 rfl) ?_
  refine lv_aload_n hx hb dL_law_652 rfl (lv_at hl 0 rfl) ?_
  refine lv_iload_n hx hb dL_law_653 rfl (lv_at hl 3 rfl) ?_
  refine lv_iconst (v := 1) hx hb dL_law_654 (by decide +kernel) ?_
  refine lv_iadd hx hb dL_law_655 ?_
  refine law_sld C Z ho642 dL_law_656 ?_
  refine lv_aload_n hx hb dL_law_657 rfl (lv_at hl 0 rfl) ?_
  refine lv_iload_n hx hb dL_law_658 rfl (lv_at hl 3 rfl) ?_
  refine lv_iconst (v := 2) hx hb dL_law_659 (by decide +kernel) ?_
  refine lv_iadd hx hb dL_law_660 ?_
  refine law_sld C Z ho647 dL_law_661 ?_
  obtain ⟨r662, hr662, hf⟩ := Option.bind_eq_some_iff.mp hf
  refine law_mi (As := [.int (xs (Int32.toNatClampNeg (x3 + 1))), .int (xs (Int32.toNatClampNeg (x3 + 2)))]) (rest := [.int r648.1]) C Z (c_X8_faced l hr662) mf_X8_faced mw_1142 rfl (oM_0 _ _) rfl ⟨rfl, rfl, by decide, by decide⟩ rfl hl.1 (Nat.le_of_ble_eq_true rfl) dL_law_662 (fun H locs Z => ?_)
  refine lv_icmp_eq (tgt := 914) hx hb dL_law_665 (by decide) (fun hc => ?_) (fun hc => ?_)
  · rw [if_pos hc] at hf
    refine lv_iinc (v := x3 + 7) (lv' := [(3, .int (x3 + 7)), (0, .ref b), (1, .ref (g.2.2 0)), (2, .ref (g'.2.2 0))]) hx hb dL_law_914 hl (k := 3) rfl rfl (by decide) rfl (fun ls hl => ?_)
    refine lv_goto (tgt := 18) hx hb dL_law_917 (by decide) ?_
    exact ih _ _ _ _ _ _ Z (lv_sub hl [1, 2, 3, 0] rfl) hf
  · rw [if_neg hc] at hf
    exact absurd (Option.some.inj hf) (by decide)
def f_law_18 (xs : Nat → Int32) (L : Nat) (k : Int32 → St → St → Option Int32) (x3 : Int32) (u v : St) : Option Int32 :=
  if oob (x3 + 1) L then none else
  Option.bind (f_X7_laws u (xs (Int32.toNatClampNeg (x3 + 1)))) fun r676 =>
  Option.bind (f_X8_laws v (xs (Int32.toNatClampNeg (x3 + 1)))) fun r685 =>
  if r676 = r685 then
    k (x3 + 7) u v
  else some 0
set_option maxHeartbeats 4000000 in
set_option maxRecDepth 100000 in
theorem b_law_18 {p : Program} {l : Launch} {e : Env} {s : State} {m : MethodId} {below : List Frame} {meth : Method} {c : Code} {H : Heap} {locs : List Loc} {b L : Nat} {xs : Nat → Int32} {g g' : Gx} {u v : St} {ls : Array Slot} {x3 : Int32} {k : Int32 → St → St → Option Int32} (C : LC p s m meth c b L xs g g') (ih : ∀ (x3 : Int32) (u v : St) (H : Heap) (locs : List Loc) (ls : Array Slot), LZ s g g' H locs u v → lv_has ls 4 [(0, .ref b), (1, .ref (g.2.2 0)), (2, .ref (g'.2.2 0)), (3, .int x3)] → k x3 u v = some 1 → W p l e room_1 s m #[Value.ref b] below meth c H locs 600000 7302250 (lw_Z below #[Value.ref b] s) (F0 m 18 ls [])) (Z : LZ s g g' H locs u v) (hl : lv_has ls 4 [(0, .ref b), (1, .ref (g.2.2 0)), (2, .ref (g'.2.2 0)), (3, .int x3)]) (hf : f_law_18 xs L k x3 u v = some 1) : W p l e room_1 s m #[Value.ref b] below meth c H locs 600000 7302250 (lw_Z below #[Value.ref b] s) (F0 m 670 ls []) := by
  have hx := C.1.1
  have hb := C.1.2.1
  unfold f_law_18 at hf
  refine lv_aload_n hx hb dL_law_670 rfl (lv_at hl 1 rfl) ?_
  refine lv_aload_n hx hb dL_law_671 rfl (lv_at hl 0 rfl) ?_
  refine lv_iload_n hx hb dL_law_672 rfl (lv_at hl 3 rfl) ?_
  refine lv_iconst (v := 1) hx hb dL_law_673 (by decide +kernel) ?_
  refine lv_iadd hx hb dL_law_674 ?_
  by_cases ho675 : oob (x3 + 1) L = true
  · rw [if_pos ho675] at hf; cases hf
  rw [if_neg ho675] at hf
  refine law_sld C Z ho675 dL_law_675 ?_
  obtain ⟨r676, hr676, hf⟩ := Option.bind_eq_some_iff.mp hf
  refine law_ci (As := [.int (xs (Int32.toNatClampNeg (x3 + 1)))]) (rest := []) C Z (c_X7_laws l hr676) mf_X7_laws mw_682 rfl (oC_0 _ _) rfl ⟨rfl, rfl, by decide, by decide⟩ rfl hl.1 (Nat.le_of_ble_eq_true rfl) dL_law_676 (fun H locs Z => ?_)
  refine lv_aload_n hx hb dL_law_679 rfl (lv_at hl 2 rfl) ?_
  refine lv_aload_n hx hb dL_law_680 rfl (lv_at hl 0 rfl) ?_
  refine lv_iload_n hx hb dL_law_681 rfl (lv_at hl 3 rfl) ?_
  refine lv_iconst (v := 1) hx hb dL_law_682 (by decide +kernel) ?_
  refine lv_iadd hx hb dL_law_683 ?_
  refine law_sld C Z ho675 dL_law_684 ?_
  obtain ⟨r685, hr685, hf⟩ := Option.bind_eq_some_iff.mp hf
  refine law_mi (As := [.int (xs (Int32.toNatClampNeg (x3 + 1)))]) (rest := [.int r676]) C Z (c_X8_laws l hr685) mf_X8_laws mw_1146 rfl (oM_0 _ _) rfl ⟨rfl, rfl, by decide, by decide⟩ rfl hl.1 (Nat.le_of_ble_eq_true rfl) dL_law_685 (fun H locs Z => ?_)
  refine lv_icmp_eq (tgt := 914) hx hb dL_law_688 (by decide) (fun hc => ?_) (fun hc => ?_)
  · rw [if_pos hc] at hf
    refine lv_iinc (v := x3 + 7) (lv' := [(3, .int (x3 + 7)), (0, .ref b), (1, .ref (g.2.2 0)), (2, .ref (g'.2.2 0))]) hx hb dL_law_914 hl (k := 3) rfl rfl (by decide) rfl (fun ls hl => ?_)
    refine lv_goto (tgt := 18) hx hb dL_law_917 (by decide) ?_
    exact ih _ _ _ _ _ _ Z (lv_sub hl [1, 2, 3, 0] rfl) hf
  · rw [if_neg hc] at hf
    exact absurd (Option.some.inj hf) (by decide)
def f_law_19 (xs : Nat → Int32) (L : Nat) (k : Int32 → St → St → Option Int32) (x3 : Int32) (u v : St) : Option Int32 :=
  Option.bind (f_X7_tryNext u) fun r694 =>
  Option.bind (f_X8_tryNext v) fun r698 =>
  if r694 = r698 then
    k (x3 + 7) u v
  else some 0
set_option maxHeartbeats 4000000 in
set_option maxRecDepth 100000 in
theorem b_law_19 {p : Program} {l : Launch} {e : Env} {s : State} {m : MethodId} {below : List Frame} {meth : Method} {c : Code} {H : Heap} {locs : List Loc} {b L : Nat} {xs : Nat → Int32} {g g' : Gx} {u v : St} {ls : Array Slot} {x3 : Int32} {k : Int32 → St → St → Option Int32} (C : LC p s m meth c b L xs g g') (ih : ∀ (x3 : Int32) (u v : St) (H : Heap) (locs : List Loc) (ls : Array Slot), LZ s g g' H locs u v → lv_has ls 4 [(0, .ref b), (1, .ref (g.2.2 0)), (2, .ref (g'.2.2 0)), (3, .int x3)] → k x3 u v = some 1 → W p l e room_1 s m #[Value.ref b] below meth c H locs 600000 7302250 (lw_Z below #[Value.ref b] s) (F0 m 18 ls [])) (Z : LZ s g g' H locs u v) (hl : lv_has ls 4 [(0, .ref b), (1, .ref (g.2.2 0)), (2, .ref (g'.2.2 0)), (3, .int x3)]) (hf : f_law_19 xs L k x3 u v = some 1) : W p l e room_1 s m #[Value.ref b] below meth c H locs 600000 7302250 (lw_Z below #[Value.ref b] s) (F0 m 693 ls []) := by
  have hx := C.1.1
  have hb := C.1.2.1
  unfold f_law_19 at hf
  refine lv_aload_n hx hb dL_law_693 rfl (lv_at hl 1 rfl) ?_
  obtain ⟨r694, hr694, hf⟩ := Option.bind_eq_some_iff.mp hf
  refine law_ci (As := []) (rest := []) C Z (c_X7_tryNext l hr694) mf_X7_tryNext mw_703 rfl (oC_0 _ _) rfl ⟨rfl, rfl, by decide, by decide⟩ rfl hl.1 (Nat.le_of_ble_eq_true rfl) dL_law_694 (fun H locs Z => ?_)
  refine lv_aload_n hx hb dL_law_697 rfl (lv_at hl 2 rfl) ?_
  obtain ⟨r698, hr698, hf⟩ := Option.bind_eq_some_iff.mp hf
  refine law_mi (As := []) (rest := [.int r694]) C Z (c_X8_tryNext l hr698) mf_X8_tryNext mw_1154 rfl (oM_0 _ _) rfl ⟨rfl, rfl, by decide, by decide⟩ rfl hl.1 (Nat.le_of_ble_eq_true rfl) dL_law_698 (fun H locs Z => ?_)
  refine lv_icmp_eq (tgt := 914) hx hb dL_law_701 (by decide) (fun hc => ?_) (fun hc => ?_)
  · rw [if_pos hc] at hf
    refine lv_iinc (v := x3 + 7) (lv' := [(3, .int (x3 + 7)), (0, .ref b), (1, .ref (g.2.2 0)), (2, .ref (g'.2.2 0))]) hx hb dL_law_914 hl (k := 3) rfl rfl (by decide) rfl (fun ls hl => ?_)
    refine lv_goto (tgt := 18) hx hb dL_law_917 (by decide) ?_
    exact ih _ _ _ _ _ _ Z (lv_sub hl [1, 2, 3, 0] rfl) hf
  · rw [if_neg hc] at hf
    exact absurd (Option.some.inj hf) (by decide)
def f_law_20 (xs : Nat → Int32) (L : Nat) (k : Int32 → St → St → Option Int32) (x3 : Int32) (u v : St) : Option Int32 :=
  if oob (x3 + 1) L then none else
  if oob (x3 + 2) L then none else
  Option.bind (f_X7_met u (xs (Int32.toNatClampNeg (x3 + 1))) (xs (Int32.toNatClampNeg (x3 + 2)))) fun r717 =>
  Option.bind (f_X8_met v (xs (Int32.toNatClampNeg (x3 + 1))) (xs (Int32.toNatClampNeg (x3 + 2)))) fun r731 =>
  if r717.1 = r731.1 then
    k (x3 + 7) r717.2 r731.2
  else some 0
set_option maxHeartbeats 4000000 in
set_option maxRecDepth 100000 in
theorem b_law_20 {p : Program} {l : Launch} {e : Env} {s : State} {m : MethodId} {below : List Frame} {meth : Method} {c : Code} {H : Heap} {locs : List Loc} {b L : Nat} {xs : Nat → Int32} {g g' : Gx} {u v : St} {ls : Array Slot} {x3 : Int32} {k : Int32 → St → St → Option Int32} (C : LC p s m meth c b L xs g g') (ih : ∀ (x3 : Int32) (u v : St) (H : Heap) (locs : List Loc) (ls : Array Slot), LZ s g g' H locs u v → lv_has ls 4 [(0, .ref b), (1, .ref (g.2.2 0)), (2, .ref (g'.2.2 0)), (3, .int x3)] → k x3 u v = some 1 → W p l e room_1 s m #[Value.ref b] below meth c H locs 600000 7302250 (lw_Z below #[Value.ref b] s) (F0 m 18 ls [])) (Z : LZ s g g' H locs u v) (hl : lv_has ls 4 [(0, .ref b), (1, .ref (g.2.2 0)), (2, .ref (g'.2.2 0)), (3, .int x3)]) (hf : f_law_20 xs L k x3 u v = some 1) : W p l e room_1 s m #[Value.ref b] below meth c H locs 600000 7302250 (lw_Z below #[Value.ref b] s) (F0 m 706 ls []) := by
  have hx := C.1.1
  have hb := C.1.2.1
  unfold f_law_20 at hf
  refine lv_aload_n hx hb dL_law_706 rfl (lv_at hl 1 rfl) ?_
  refine lv_aload_n hx hb dL_law_707 rfl (lv_at hl 0 rfl) ?_
  refine lv_iload_n hx hb dL_law_708 rfl (lv_at hl 3 rfl) ?_
  refine lv_iconst (v := 1) hx hb dL_law_709 (by decide +kernel) ?_
  refine lv_iadd hx hb dL_law_710 ?_
  by_cases ho711 : oob (x3 + 1) L = true
  · rw [if_pos ho711] at hf; cases hf
  rw [if_neg ho711] at hf
  refine law_sld C Z ho711 dL_law_711 ?_
  refine lv_aload_n hx hb dL_law_712 rfl (lv_at hl 0 rfl) ?_
  refine lv_iload_n hx hb dL_law_713 rfl (lv_at hl 3 rfl) ?_
  refine lv_iconst (v := 2) hx hb dL_law_714 (by decide +kernel) ?_
  refine lv_iadd hx hb dL_law_715 ?_
  by_cases ho716 : oob (x3 + 2) L = true
  · rw [if_pos ho716] at hf; cases hf
  rw [if_neg ho716] at hf
  refine law_sld C Z ho716 dL_law_716 ?_
  obtain ⟨r717, hr717, hf⟩ := Option.bind_eq_some_iff.mp hf
  refine law_ci (As := [.int (xs (Int32.toNatClampNeg (x3 + 1))), .int (xs (Int32.toNatClampNeg (x3 + 2)))]) (rest := []) C Z (c_X7_met l hr717) mf_X7_met mw_715 rfl (oC_0 _ _) rfl ⟨rfl, rfl, by decide, by decide⟩ rfl hl.1 (Nat.le_of_ble_eq_true rfl) dL_law_717 (fun H locs Z => ?_)
  refine lv_aload_n hx hb dL_law_720 rfl (lv_at hl 2 rfl) ?_
  refine lv_aload_n hx hb dL_law_721 rfl (lv_at hl 0 rfl) ?_
  refine lv_iload_n hx hb dL_law_722 rfl (lv_at hl 3 rfl) ?_
  refine lv_iconst (v := 1) hx hb dL_law_723 (by decide +kernel) ?_
  refine lv_iadd hx hb dL_law_724 ?_
  refine law_sld C Z ho711 dL_law_725 ?_
  refine lv_aload_n hx hb dL_law_726 rfl (lv_at hl 0 rfl) ?_
  refine lv_iload_n hx hb dL_law_727 rfl (lv_at hl 3 rfl) ?_
  refine lv_iconst (v := 2) hx hb dL_law_728 (by decide +kernel) ?_
  refine lv_iadd hx hb dL_law_729 ?_
  refine law_sld C Z ho716 dL_law_730 ?_
  obtain ⟨r731, hr731, hf⟩ := Option.bind_eq_some_iff.mp hf
  refine law_mi (As := [.int (xs (Int32.toNatClampNeg (x3 + 1))), .int (xs (Int32.toNatClampNeg (x3 + 2)))]) (rest := [.int r717.1]) C Z (c_X8_met l hr731) mf_X8_met mw_1159 rfl (oM_0 _ _) rfl ⟨rfl, rfl, by decide, by decide⟩ rfl hl.1 (Nat.le_of_ble_eq_true rfl) dL_law_731 (fun H locs Z => ?_)
  refine lv_icmp_eq (tgt := 914) hx hb dL_law_734 (by decide) (fun hc => ?_) (fun hc => ?_)
  · rw [if_pos hc] at hf
    refine lv_iinc (v := x3 + 7) (lv' := [(3, .int (x3 + 7)), (0, .ref b), (1, .ref (g.2.2 0)), (2, .ref (g'.2.2 0))]) hx hb dL_law_914 hl (k := 3) rfl rfl (by decide) rfl (fun ls hl => ?_)
    refine lv_goto (tgt := 18) hx hb dL_law_917 (by decide) ?_
    exact ih _ _ _ _ _ _ Z (lv_sub hl [1, 2, 3, 0] rfl) hf
  · rw [if_neg hc] at hf
    exact absurd (Option.some.inj hf) (by decide)
def f_law_21 (xs : Nat → Int32) (L : Nat) (k : Int32 → St → St → Option Int32) (x3 : Int32) (u v : St) : Option Int32 :=
  if oob (x3 + 1) L then none else
  Option.bind (f_X7_ways u (xs (Int32.toNatClampNeg (x3 + 1)))) fun r745 =>
  Option.bind (f_X8_ways v (xs (Int32.toNatClampNeg (x3 + 1)))) fun r754 =>
  if r745 = r754 then
    k (x3 + 7) u v
  else some 0
set_option maxHeartbeats 4000000 in
set_option maxRecDepth 100000 in
theorem b_law_21 {p : Program} {l : Launch} {e : Env} {s : State} {m : MethodId} {below : List Frame} {meth : Method} {c : Code} {H : Heap} {locs : List Loc} {b L : Nat} {xs : Nat → Int32} {g g' : Gx} {u v : St} {ls : Array Slot} {x3 : Int32} {k : Int32 → St → St → Option Int32} (C : LC p s m meth c b L xs g g') (ih : ∀ (x3 : Int32) (u v : St) (H : Heap) (locs : List Loc) (ls : Array Slot), LZ s g g' H locs u v → lv_has ls 4 [(0, .ref b), (1, .ref (g.2.2 0)), (2, .ref (g'.2.2 0)), (3, .int x3)] → k x3 u v = some 1 → W p l e room_1 s m #[Value.ref b] below meth c H locs 600000 7302250 (lw_Z below #[Value.ref b] s) (F0 m 18 ls [])) (Z : LZ s g g' H locs u v) (hl : lv_has ls 4 [(0, .ref b), (1, .ref (g.2.2 0)), (2, .ref (g'.2.2 0)), (3, .int x3)]) (hf : f_law_21 xs L k x3 u v = some 1) : W p l e room_1 s m #[Value.ref b] below meth c H locs 600000 7302250 (lw_Z below #[Value.ref b] s) (F0 m 739 ls []) := by
  have hx := C.1.1
  have hb := C.1.2.1
  unfold f_law_21 at hf
  refine lv_aload_n hx hb dL_law_739 rfl (lv_at hl 1 rfl) ?_
  refine lv_aload_n hx hb dL_law_740 rfl (lv_at hl 0 rfl) ?_
  refine lv_iload_n hx hb dL_law_741 rfl (lv_at hl 3 rfl) ?_
  refine lv_iconst (v := 1) hx hb dL_law_742 (by decide +kernel) ?_
  refine lv_iadd hx hb dL_law_743 ?_
  by_cases ho744 : oob (x3 + 1) L = true
  · rw [if_pos ho744] at hf; cases hf
  rw [if_neg ho744] at hf
  refine law_sld C Z ho744 dL_law_744 ?_
  obtain ⟨r745, hr745, hf⟩ := Option.bind_eq_some_iff.mp hf
  refine law_ci (As := [.int (xs (Int32.toNatClampNeg (x3 + 1)))]) (rest := []) C Z (c_X7_ways l hr745) mf_X7_ways mw_723 rfl (oC_0 _ _) rfl ⟨rfl, rfl, by decide, by decide⟩ rfl hl.1 (Nat.le_of_ble_eq_true rfl) dL_law_745 (fun H locs Z => ?_)
  refine lv_aload_n hx hb dL_law_748 rfl (lv_at hl 2 rfl) ?_
  refine lv_aload_n hx hb dL_law_749 rfl (lv_at hl 0 rfl) ?_
  refine lv_iload_n hx hb dL_law_750 rfl (lv_at hl 3 rfl) ?_
  refine lv_iconst (v := 1) hx hb dL_law_751 (by decide +kernel) ?_
  refine lv_iadd hx hb dL_law_752 ?_
  refine law_sld C Z ho744 dL_law_753 ?_
  obtain ⟨r754, hr754, hf⟩ := Option.bind_eq_some_iff.mp hf
  refine law_mi (As := [.int (xs (Int32.toNatClampNeg (x3 + 1)))]) (rest := [.int r745]) C Z (c_X8_ways l hr754) mf_X8_ways mw_1163 rfl (oM_0 _ _) rfl ⟨rfl, rfl, by decide, by decide⟩ rfl hl.1 (Nat.le_of_ble_eq_true rfl) dL_law_754 (fun H locs Z => ?_)
  refine lv_icmp_eq (tgt := 914) hx hb dL_law_757 (by decide) (fun hc => ?_) (fun hc => ?_)
  · rw [if_pos hc] at hf
    refine lv_iinc (v := x3 + 7) (lv' := [(3, .int (x3 + 7)), (0, .ref b), (1, .ref (g.2.2 0)), (2, .ref (g'.2.2 0))]) hx hb dL_law_914 hl (k := 3) rfl rfl (by decide) rfl (fun ls hl => ?_)
    refine lv_goto (tgt := 18) hx hb dL_law_917 (by decide) ?_
    exact ih _ _ _ _ _ _ Z (lv_sub hl [1, 2, 3, 0] rfl) hf
  · rw [if_neg hc] at hf
    exact absurd (Option.some.inj hf) (by decide)
def f_law_22 (xs : Nat → Int32) (L : Nat) (k : Int32 → St → St → Option Int32) (x3 : Int32) (u v : St) : Option Int32 :=
  if oob (x3 + 1) L then none else
  Option.bind (f_X7_falses u (xs (Int32.toNatClampNeg (x3 + 1)))) fun r768 =>
  Option.bind (f_X8_falses v (xs (Int32.toNatClampNeg (x3 + 1)))) fun r777 =>
  if r768 = r777 then
    k (x3 + 7) u v
  else some 0
set_option maxHeartbeats 4000000 in
set_option maxRecDepth 100000 in
theorem b_law_22 {p : Program} {l : Launch} {e : Env} {s : State} {m : MethodId} {below : List Frame} {meth : Method} {c : Code} {H : Heap} {locs : List Loc} {b L : Nat} {xs : Nat → Int32} {g g' : Gx} {u v : St} {ls : Array Slot} {x3 : Int32} {k : Int32 → St → St → Option Int32} (C : LC p s m meth c b L xs g g') (ih : ∀ (x3 : Int32) (u v : St) (H : Heap) (locs : List Loc) (ls : Array Slot), LZ s g g' H locs u v → lv_has ls 4 [(0, .ref b), (1, .ref (g.2.2 0)), (2, .ref (g'.2.2 0)), (3, .int x3)] → k x3 u v = some 1 → W p l e room_1 s m #[Value.ref b] below meth c H locs 600000 7302250 (lw_Z below #[Value.ref b] s) (F0 m 18 ls [])) (Z : LZ s g g' H locs u v) (hl : lv_has ls 4 [(0, .ref b), (1, .ref (g.2.2 0)), (2, .ref (g'.2.2 0)), (3, .int x3)]) (hf : f_law_22 xs L k x3 u v = some 1) : W p l e room_1 s m #[Value.ref b] below meth c H locs 600000 7302250 (lw_Z below #[Value.ref b] s) (F0 m 762 ls []) := by
  have hx := C.1.1
  have hb := C.1.2.1
  unfold f_law_22 at hf
  refine lv_aload_n hx hb dL_law_762 rfl (lv_at hl 1 rfl) ?_
  refine lv_aload_n hx hb dL_law_763 rfl (lv_at hl 0 rfl) ?_
  refine lv_iload_n hx hb dL_law_764 rfl (lv_at hl 3 rfl) ?_
  refine lv_iconst (v := 1) hx hb dL_law_765 (by decide +kernel) ?_
  refine lv_iadd hx hb dL_law_766 ?_
  by_cases ho767 : oob (x3 + 1) L = true
  · rw [if_pos ho767] at hf; cases hf
  rw [if_neg ho767] at hf
  refine law_sld C Z ho767 dL_law_767 ?_
  obtain ⟨r768, hr768, hf⟩ := Option.bind_eq_some_iff.mp hf
  refine law_ci (As := [.int (xs (Int32.toNatClampNeg (x3 + 1)))]) (rest := []) C Z (c_X7_falses l hr768) mf_X7_falses mw_741 rfl (oC_0 _ _) rfl ⟨rfl, rfl, by decide, by decide⟩ rfl hl.1 (Nat.le_of_ble_eq_true rfl) dL_law_768 (fun H locs Z => ?_)
  refine lv_aload_n hx hb dL_law_771 rfl (lv_at hl 2 rfl) ?_
  refine lv_aload_n hx hb dL_law_772 rfl (lv_at hl 0 rfl) ?_
  refine lv_iload_n hx hb dL_law_773 rfl (lv_at hl 3 rfl) ?_
  refine lv_iconst (v := 1) hx hb dL_law_774 (by decide +kernel) ?_
  refine lv_iadd hx hb dL_law_775 ?_
  refine law_sld C Z ho767 dL_law_776 ?_
  obtain ⟨r777, hr777, hf⟩ := Option.bind_eq_some_iff.mp hf
  refine law_mi (As := [.int (xs (Int32.toNatClampNeg (x3 + 1)))]) (rest := [.int r768]) C Z (c_X8_falses l hr777) mf_X8_falses mw_1174 rfl (oM_0 _ _) rfl ⟨rfl, rfl, by decide, by decide⟩ rfl hl.1 (Nat.le_of_ble_eq_true rfl) dL_law_777 (fun H locs Z => ?_)
  refine lv_icmp_eq (tgt := 914) hx hb dL_law_780 (by decide) (fun hc => ?_) (fun hc => ?_)
  · rw [if_pos hc] at hf
    refine lv_iinc (v := x3 + 7) (lv' := [(3, .int (x3 + 7)), (0, .ref b), (1, .ref (g.2.2 0)), (2, .ref (g'.2.2 0))]) hx hb dL_law_914 hl (k := 3) rfl rfl (by decide) rfl (fun ls hl => ?_)
    refine lv_goto (tgt := 18) hx hb dL_law_917 (by decide) ?_
    exact ih _ _ _ _ _ _ Z (lv_sub hl [1, 2, 3, 0] rfl) hf
  · rw [if_neg hc] at hf
    exact absurd (Option.some.inj hf) (by decide)
def f_law_23 (xs : Nat → Int32) (L : Nat) (k : Int32 → St → St → Option Int32) (x3 : Int32) (u v : St) : Option Int32 :=
  Option.bind (f_X7_forget u) fun r786 =>
  Option.bind (f_X8_forget v) fun r790 =>
  if r786.1 = r790.1 then
    k (x3 + 7) r786.2 r790.2
  else some 0
set_option maxHeartbeats 4000000 in
set_option maxRecDepth 100000 in
theorem b_law_23 {p : Program} {l : Launch} {e : Env} {s : State} {m : MethodId} {below : List Frame} {meth : Method} {c : Code} {H : Heap} {locs : List Loc} {b L : Nat} {xs : Nat → Int32} {g g' : Gx} {u v : St} {ls : Array Slot} {x3 : Int32} {k : Int32 → St → St → Option Int32} (C : LC p s m meth c b L xs g g') (ih : ∀ (x3 : Int32) (u v : St) (H : Heap) (locs : List Loc) (ls : Array Slot), LZ s g g' H locs u v → lv_has ls 4 [(0, .ref b), (1, .ref (g.2.2 0)), (2, .ref (g'.2.2 0)), (3, .int x3)] → k x3 u v = some 1 → W p l e room_1 s m #[Value.ref b] below meth c H locs 600000 7302250 (lw_Z below #[Value.ref b] s) (F0 m 18 ls [])) (Z : LZ s g g' H locs u v) (hl : lv_has ls 4 [(0, .ref b), (1, .ref (g.2.2 0)), (2, .ref (g'.2.2 0)), (3, .int x3)]) (hf : f_law_23 xs L k x3 u v = some 1) : W p l e room_1 s m #[Value.ref b] below meth c H locs 600000 7302250 (lw_Z below #[Value.ref b] s) (F0 m 785 ls []) := by
  have hx := C.1.1
  have hb := C.1.2.1
  unfold f_law_23 at hf
  refine lv_aload_n hx hb dL_law_785 rfl (lv_at hl 1 rfl) ?_
  obtain ⟨r786, hr786, hf⟩ := Option.bind_eq_some_iff.mp hf
  refine law_ci (As := []) (rest := []) C Z (c_X7_forget l hr786) mf_X7_forget mw_745 rfl (oC_0 _ _) rfl ⟨rfl, rfl, by decide, by decide⟩ rfl hl.1 (Nat.le_of_ble_eq_true rfl) dL_law_786 (fun H locs Z => ?_)
  refine lv_aload_n hx hb dL_law_789 rfl (lv_at hl 2 rfl) ?_
  obtain ⟨r790, hr790, hf⟩ := Option.bind_eq_some_iff.mp hf
  refine law_mi (As := []) (rest := [.int r786.1]) C Z (c_X8_forget l hr790) mf_X8_forget mw_1178 rfl (oM_0 _ _) rfl ⟨rfl, rfl, by decide, by decide⟩ rfl hl.1 (Nat.le_of_ble_eq_true rfl) dL_law_790 (fun H locs Z => ?_)
  refine lv_icmp_eq (tgt := 914) hx hb dL_law_793 (by decide) (fun hc => ?_) (fun hc => ?_)
  · rw [if_pos hc] at hf
    refine lv_iinc (v := x3 + 7) (lv' := [(3, .int (x3 + 7)), (0, .ref b), (1, .ref (g.2.2 0)), (2, .ref (g'.2.2 0))]) hx hb dL_law_914 hl (k := 3) rfl rfl (by decide) rfl (fun ls hl => ?_)
    refine lv_goto (tgt := 18) hx hb dL_law_917 (by decide) ?_
    exact ih _ _ _ _ _ _ Z (lv_sub hl [1, 2, 3, 0] rfl) hf
  · rw [if_neg hc] at hf
    exact absurd (Option.some.inj hf) (by decide)
def f_law_24 (xs : Nat → Int32) (L : Nat) (k : Int32 → St → St → Option Int32) (x3 : Int32) (u v : St) : Option Int32 :=
  if oob (x3 + 1) L then none else
  if oob (x3 + 2) L then none else
  Option.bind (f_X7_mark u (xs (Int32.toNatClampNeg (x3 + 1))) (xs (Int32.toNatClampNeg (x3 + 2)))) fun r809 =>
  Option.bind (f_X8_mark v (xs (Int32.toNatClampNeg (x3 + 1))) (xs (Int32.toNatClampNeg (x3 + 2)))) fun r823 =>
  if r809.1 = r823.1 then
    k (x3 + 7) r809.2 r823.2
  else some 0
set_option maxHeartbeats 4000000 in
set_option maxRecDepth 100000 in
theorem b_law_24 {p : Program} {l : Launch} {e : Env} {s : State} {m : MethodId} {below : List Frame} {meth : Method} {c : Code} {H : Heap} {locs : List Loc} {b L : Nat} {xs : Nat → Int32} {g g' : Gx} {u v : St} {ls : Array Slot} {x3 : Int32} {k : Int32 → St → St → Option Int32} (C : LC p s m meth c b L xs g g') (ih : ∀ (x3 : Int32) (u v : St) (H : Heap) (locs : List Loc) (ls : Array Slot), LZ s g g' H locs u v → lv_has ls 4 [(0, .ref b), (1, .ref (g.2.2 0)), (2, .ref (g'.2.2 0)), (3, .int x3)] → k x3 u v = some 1 → W p l e room_1 s m #[Value.ref b] below meth c H locs 600000 7302250 (lw_Z below #[Value.ref b] s) (F0 m 18 ls [])) (Z : LZ s g g' H locs u v) (hl : lv_has ls 4 [(0, .ref b), (1, .ref (g.2.2 0)), (2, .ref (g'.2.2 0)), (3, .int x3)]) (hf : f_law_24 xs L k x3 u v = some 1) : W p l e room_1 s m #[Value.ref b] below meth c H locs 600000 7302250 (lw_Z below #[Value.ref b] s) (F0 m 798 ls []) := by
  have hx := C.1.1
  have hb := C.1.2.1
  unfold f_law_24 at hf
  refine lv_aload_n hx hb dL_law_798 rfl (lv_at hl 1 rfl) ?_
  refine lv_aload_n hx hb dL_law_799 rfl (lv_at hl 0 rfl) ?_
  refine lv_iload_n hx hb dL_law_800 rfl (lv_at hl 3 rfl) ?_
  refine lv_iconst (v := 1) hx hb dL_law_801 (by decide +kernel) ?_
  refine lv_iadd hx hb dL_law_802 ?_
  by_cases ho803 : oob (x3 + 1) L = true
  · rw [if_pos ho803] at hf; cases hf
  rw [if_neg ho803] at hf
  refine law_sld C Z ho803 dL_law_803 ?_
  refine lv_aload_n hx hb dL_law_804 rfl (lv_at hl 0 rfl) ?_
  refine lv_iload_n hx hb dL_law_805 rfl (lv_at hl 3 rfl) ?_
  refine lv_iconst (v := 2) hx hb dL_law_806 (by decide +kernel) ?_
  refine lv_iadd hx hb dL_law_807 ?_
  by_cases ho808 : oob (x3 + 2) L = true
  · rw [if_pos ho808] at hf; cases hf
  rw [if_neg ho808] at hf
  refine law_sld C Z ho808 dL_law_808 ?_
  obtain ⟨r809, hr809, hf⟩ := Option.bind_eq_some_iff.mp hf
  refine law_ci (As := [.int (xs (Int32.toNatClampNeg (x3 + 1))), .int (xs (Int32.toNatClampNeg (x3 + 2)))]) (rest := []) C Z (c_X7_mark l hr809) mf_X7_mark mw_749 rfl (oC_0 _ _) rfl ⟨rfl, rfl, by decide, by decide⟩ rfl hl.1 (Nat.le_of_ble_eq_true rfl) dL_law_809 (fun H locs Z => ?_)
  refine lv_aload_n hx hb dL_law_812 rfl (lv_at hl 2 rfl) ?_
  refine lv_aload_n hx hb dL_law_813 rfl (lv_at hl 0 rfl) ?_
  refine lv_iload_n hx hb dL_law_814 rfl (lv_at hl 3 rfl) ?_
  refine lv_iconst (v := 1) hx hb dL_law_815 (by decide +kernel) ?_
  refine lv_iadd hx hb dL_law_816 ?_
  refine law_sld C Z ho803 dL_law_817 ?_
  refine lv_aload_n hx hb dL_law_818 rfl (lv_at hl 0 rfl) ?_
  refine lv_iload_n hx hb dL_law_819 rfl (lv_at hl 3 rfl) ?_
  refine lv_iconst (v := 2) hx hb dL_law_820 (by decide +kernel) ?_
  refine lv_iadd hx hb dL_law_821 ?_
  refine law_sld C Z ho808 dL_law_822 ?_
  obtain ⟨r823, hr823, hf⟩ := Option.bind_eq_some_iff.mp hf
  refine law_mi (As := [.int (xs (Int32.toNatClampNeg (x3 + 1))), .int (xs (Int32.toNatClampNeg (x3 + 2)))]) (rest := [.int r809.1]) C Z (c_X8_mark l hr823) mf_X8_mark mw_1182 rfl (oM_0 _ _) rfl ⟨rfl, rfl, by decide, by decide⟩ rfl hl.1 (Nat.le_of_ble_eq_true rfl) dL_law_823 (fun H locs Z => ?_)
  refine lv_icmp_eq (tgt := 914) hx hb dL_law_826 (by decide) (fun hc => ?_) (fun hc => ?_)
  · rw [if_pos hc] at hf
    refine lv_iinc (v := x3 + 7) (lv' := [(3, .int (x3 + 7)), (0, .ref b), (1, .ref (g.2.2 0)), (2, .ref (g'.2.2 0))]) hx hb dL_law_914 hl (k := 3) rfl rfl (by decide) rfl (fun ls hl => ?_)
    refine lv_goto (tgt := 18) hx hb dL_law_917 (by decide) ?_
    exact ih _ _ _ _ _ _ Z (lv_sub hl [1, 2, 3, 0] rfl) hf
  · rw [if_neg hc] at hf
    exact absurd (Option.some.inj hf) (by decide)
def f_law_25 (xs : Nat → Int32) (L : Nat) (k : Int32 → St → St → Option Int32) (x3 : Int32) (u v : St) : Option Int32 :=
  if oob (x3 + 1) L then none else
  Option.bind (f_X7_keep u (xs (Int32.toNatClampNeg (x3 + 1)))) fun r837 =>
  Option.bind (f_X8_keep v (xs (Int32.toNatClampNeg (x3 + 1)))) fun r846 =>
  if r837.1 = r846.1 then
    k (x3 + 7) r837.2 r846.2
  else some 0
set_option maxHeartbeats 4000000 in
set_option maxRecDepth 100000 in
theorem b_law_25 {p : Program} {l : Launch} {e : Env} {s : State} {m : MethodId} {below : List Frame} {meth : Method} {c : Code} {H : Heap} {locs : List Loc} {b L : Nat} {xs : Nat → Int32} {g g' : Gx} {u v : St} {ls : Array Slot} {x3 : Int32} {k : Int32 → St → St → Option Int32} (C : LC p s m meth c b L xs g g') (ih : ∀ (x3 : Int32) (u v : St) (H : Heap) (locs : List Loc) (ls : Array Slot), LZ s g g' H locs u v → lv_has ls 4 [(0, .ref b), (1, .ref (g.2.2 0)), (2, .ref (g'.2.2 0)), (3, .int x3)] → k x3 u v = some 1 → W p l e room_1 s m #[Value.ref b] below meth c H locs 600000 7302250 (lw_Z below #[Value.ref b] s) (F0 m 18 ls [])) (Z : LZ s g g' H locs u v) (hl : lv_has ls 4 [(0, .ref b), (1, .ref (g.2.2 0)), (2, .ref (g'.2.2 0)), (3, .int x3)]) (hf : f_law_25 xs L k x3 u v = some 1) : W p l e room_1 s m #[Value.ref b] below meth c H locs 600000 7302250 (lw_Z below #[Value.ref b] s) (F0 m 831 ls []) := by
  have hx := C.1.1
  have hb := C.1.2.1
  unfold f_law_25 at hf
  refine lv_aload_n hx hb dL_law_831 rfl (lv_at hl 1 rfl) ?_
  refine lv_aload_n hx hb dL_law_832 rfl (lv_at hl 0 rfl) ?_
  refine lv_iload_n hx hb dL_law_833 rfl (lv_at hl 3 rfl) ?_
  refine lv_iconst (v := 1) hx hb dL_law_834 (by decide +kernel) ?_
  refine lv_iadd hx hb dL_law_835 ?_
  by_cases ho836 : oob (x3 + 1) L = true
  · rw [if_pos ho836] at hf; cases hf
  rw [if_neg ho836] at hf
  refine law_sld C Z ho836 dL_law_836 ?_
  obtain ⟨r837, hr837, hf⟩ := Option.bind_eq_some_iff.mp hf
  refine law_ci (As := [.int (xs (Int32.toNatClampNeg (x3 + 1)))]) (rest := []) C Z (c_X7_keep l hr837) mf_X7_keep mw_789 rfl (oC_0 _ _) rfl ⟨rfl, rfl, by decide, by decide⟩ rfl hl.1 (Nat.le_of_ble_eq_true rfl) dL_law_837 (fun H locs Z => ?_)
  refine lv_aload_n hx hb dL_law_840 rfl (lv_at hl 2 rfl) ?_
  refine lv_aload_n hx hb dL_law_841 rfl (lv_at hl 0 rfl) ?_
  refine lv_iload_n hx hb dL_law_842 rfl (lv_at hl 3 rfl) ?_
  refine lv_iconst (v := 1) hx hb dL_law_843 (by decide +kernel) ?_
  refine lv_iadd hx hb dL_law_844 ?_
  refine law_sld C Z ho836 dL_law_845 ?_
  obtain ⟨r846, hr846, hf⟩ := Option.bind_eq_some_iff.mp hf
  refine law_mi (As := [.int (xs (Int32.toNatClampNeg (x3 + 1)))]) (rest := [.int r837.1]) C Z (c_X8_keep l hr846) mf_X8_keep mw_1191 rfl (oM_0 _ _) rfl ⟨rfl, rfl, by decide, by decide⟩ rfl hl.1 (Nat.le_of_ble_eq_true rfl) dL_law_846 (fun H locs Z => ?_)
  refine lv_icmp_eq (tgt := 914) hx hb dL_law_849 (by decide) (fun hc => ?_) (fun hc => ?_)
  · rw [if_pos hc] at hf
    refine lv_iinc (v := x3 + 7) (lv' := [(3, .int (x3 + 7)), (0, .ref b), (1, .ref (g.2.2 0)), (2, .ref (g'.2.2 0))]) hx hb dL_law_914 hl (k := 3) rfl rfl (by decide) rfl (fun ls hl => ?_)
    refine lv_goto (tgt := 18) hx hb dL_law_917 (by decide) ?_
    exact ih _ _ _ _ _ _ Z (lv_sub hl [1, 2, 3, 0] rfl) hf
  · rw [if_neg hc] at hf
    exact absurd (Option.some.inj hf) (by decide)
def f_law_26 (xs : Nat → Int32) (L : Nat) (k : Int32 → St → St → Option Int32) (x3 : Int32) (u v : St) : Option Int32 :=
  if oob (x3 + 1) L then none else
  Option.bind (f_X7_back u (xs (Int32.toNatClampNeg (x3 + 1)))) fun r860 =>
  Option.bind (f_X8_back v (xs (Int32.toNatClampNeg (x3 + 1)))) fun r869 =>
  if r860.1 = r869.1 then
    k (x3 + 7) r860.2 r869.2
  else some 0
set_option maxHeartbeats 4000000 in
set_option maxRecDepth 100000 in
theorem b_law_26 {p : Program} {l : Launch} {e : Env} {s : State} {m : MethodId} {below : List Frame} {meth : Method} {c : Code} {H : Heap} {locs : List Loc} {b L : Nat} {xs : Nat → Int32} {g g' : Gx} {u v : St} {ls : Array Slot} {x3 : Int32} {k : Int32 → St → St → Option Int32} (C : LC p s m meth c b L xs g g') (ih : ∀ (x3 : Int32) (u v : St) (H : Heap) (locs : List Loc) (ls : Array Slot), LZ s g g' H locs u v → lv_has ls 4 [(0, .ref b), (1, .ref (g.2.2 0)), (2, .ref (g'.2.2 0)), (3, .int x3)] → k x3 u v = some 1 → W p l e room_1 s m #[Value.ref b] below meth c H locs 600000 7302250 (lw_Z below #[Value.ref b] s) (F0 m 18 ls [])) (Z : LZ s g g' H locs u v) (hl : lv_has ls 4 [(0, .ref b), (1, .ref (g.2.2 0)), (2, .ref (g'.2.2 0)), (3, .int x3)]) (hf : f_law_26 xs L k x3 u v = some 1) : W p l e room_1 s m #[Value.ref b] below meth c H locs 600000 7302250 (lw_Z below #[Value.ref b] s) (F0 m 854 ls []) := by
  have hx := C.1.1
  have hb := C.1.2.1
  unfold f_law_26 at hf
  refine lv_aload_n hx hb dL_law_854 rfl (lv_at hl 1 rfl) ?_
  refine lv_aload_n hx hb dL_law_855 rfl (lv_at hl 0 rfl) ?_
  refine lv_iload_n hx hb dL_law_856 rfl (lv_at hl 3 rfl) ?_
  refine lv_iconst (v := 1) hx hb dL_law_857 (by decide +kernel) ?_
  refine lv_iadd hx hb dL_law_858 ?_
  by_cases ho859 : oob (x3 + 1) L = true
  · rw [if_pos ho859] at hf; cases hf
  rw [if_neg ho859] at hf
  refine law_sld C Z ho859 dL_law_859 ?_
  obtain ⟨r860, hr860, hf⟩ := Option.bind_eq_some_iff.mp hf
  refine law_ci (As := [.int (xs (Int32.toNatClampNeg (x3 + 1)))]) (rest := []) C Z (c_X7_back l hr860) mf_X7_back mw_798 rfl (oC_0 _ _) rfl ⟨rfl, rfl, by decide, by decide⟩ rfl hl.1 (Nat.le_of_ble_eq_true rfl) dL_law_860 (fun H locs Z => ?_)
  refine lv_aload_n hx hb dL_law_863 rfl (lv_at hl 2 rfl) ?_
  refine lv_aload_n hx hb dL_law_864 rfl (lv_at hl 0 rfl) ?_
  refine lv_iload_n hx hb dL_law_865 rfl (lv_at hl 3 rfl) ?_
  refine lv_iconst (v := 1) hx hb dL_law_866 (by decide +kernel) ?_
  refine lv_iadd hx hb dL_law_867 ?_
  refine law_sld C Z ho859 dL_law_868 ?_
  obtain ⟨r869, hr869, hf⟩ := Option.bind_eq_some_iff.mp hf
  refine law_mi (As := [.int (xs (Int32.toNatClampNeg (x3 + 1)))]) (rest := [.int r860.1]) C Z (c_X8_back l hr869) mf_X8_back mw_1195 rfl (oM_0 _ _) rfl ⟨rfl, rfl, by decide, by decide⟩ rfl hl.1 (Nat.le_of_ble_eq_true rfl) dL_law_869 (fun H locs Z => ?_)
  refine lv_icmp_eq (tgt := 914) hx hb dL_law_872 (by decide) (fun hc => ?_) (fun hc => ?_)
  · rw [if_pos hc] at hf
    refine lv_iinc (v := x3 + 7) (lv' := [(3, .int (x3 + 7)), (0, .ref b), (1, .ref (g.2.2 0)), (2, .ref (g'.2.2 0))]) hx hb dL_law_914 hl (k := 3) rfl rfl (by decide) rfl (fun ls hl => ?_)
    refine lv_goto (tgt := 18) hx hb dL_law_917 (by decide) ?_
    exact ih _ _ _ _ _ _ Z (lv_sub hl [1, 2, 3, 0] rfl) hf
  · rw [if_neg hc] at hf
    exact absurd (Option.some.inj hf) (by decide)
def f_law_27 (xs : Nat → Int32) (L : Nat) (k : Int32 → St → St → Option Int32) (x3 : Int32) (u v : St) : Option Int32 :=
  if oob (x3 + 1) L then none else
  Option.bind (f_X7_count u (xs (Int32.toNatClampNeg (x3 + 1)))) fun r883 =>
  Option.bind (f_X8_count v (xs (Int32.toNatClampNeg (x3 + 1)))) fun r892 =>
  if r883 = r892 then
    k (x3 + 7) u v
  else some 0
set_option maxHeartbeats 4000000 in
set_option maxRecDepth 100000 in
theorem b_law_27 {p : Program} {l : Launch} {e : Env} {s : State} {m : MethodId} {below : List Frame} {meth : Method} {c : Code} {H : Heap} {locs : List Loc} {b L : Nat} {xs : Nat → Int32} {g g' : Gx} {u v : St} {ls : Array Slot} {x3 : Int32} {k : Int32 → St → St → Option Int32} (C : LC p s m meth c b L xs g g') (ih : ∀ (x3 : Int32) (u v : St) (H : Heap) (locs : List Loc) (ls : Array Slot), LZ s g g' H locs u v → lv_has ls 4 [(0, .ref b), (1, .ref (g.2.2 0)), (2, .ref (g'.2.2 0)), (3, .int x3)] → k x3 u v = some 1 → W p l e room_1 s m #[Value.ref b] below meth c H locs 600000 7302250 (lw_Z below #[Value.ref b] s) (F0 m 18 ls [])) (Z : LZ s g g' H locs u v) (hl : lv_has ls 4 [(0, .ref b), (1, .ref (g.2.2 0)), (2, .ref (g'.2.2 0)), (3, .int x3)]) (hf : f_law_27 xs L k x3 u v = some 1) : W p l e room_1 s m #[Value.ref b] below meth c H locs 600000 7302250 (lw_Z below #[Value.ref b] s) (F0 m 877 ls []) := by
  have hx := C.1.1
  have hb := C.1.2.1
  unfold f_law_27 at hf
  refine lv_aload_n hx hb dL_law_877 rfl (lv_at hl 1 rfl) ?_
  refine lv_aload_n hx hb dL_law_878 rfl (lv_at hl 0 rfl) ?_
  refine lv_iload_n hx hb dL_law_879 rfl (lv_at hl 3 rfl) ?_
  refine lv_iconst (v := 1) hx hb dL_law_880 (by decide +kernel) ?_
  refine lv_iadd hx hb dL_law_881 ?_
  by_cases ho882 : oob (x3 + 1) L = true
  · rw [if_pos ho882] at hf; cases hf
  rw [if_neg ho882] at hf
  refine law_sld C Z ho882 dL_law_882 ?_
  obtain ⟨r883, hr883, hf⟩ := Option.bind_eq_some_iff.mp hf
  refine law_ci (As := [.int (xs (Int32.toNatClampNeg (x3 + 1)))]) (rest := []) C Z (c_X7_count l hr883) mf_X7_count mw_803 rfl (oC_0 _ _) rfl ⟨rfl, rfl, by decide, by decide⟩ rfl hl.1 (Nat.le_of_ble_eq_true rfl) dL_law_883 (fun H locs Z => ?_)
  refine lv_aload_n hx hb dL_law_886 rfl (lv_at hl 2 rfl) ?_
  refine lv_aload_n hx hb dL_law_887 rfl (lv_at hl 0 rfl) ?_
  refine lv_iload_n hx hb dL_law_888 rfl (lv_at hl 3 rfl) ?_
  refine lv_iconst (v := 1) hx hb dL_law_889 (by decide +kernel) ?_
  refine lv_iadd hx hb dL_law_890 ?_
  refine law_sld C Z ho882 dL_law_891 ?_
  obtain ⟨r892, hr892, hf⟩ := Option.bind_eq_some_iff.mp hf
  refine law_mi (As := [.int (xs (Int32.toNatClampNeg (x3 + 1)))]) (rest := [.int r883]) C Z (c_X8_count l hr892) mf_X8_count mw_1199 rfl (oM_0 _ _) rfl ⟨rfl, rfl, by decide, by decide⟩ rfl hl.1 (Nat.le_of_ble_eq_true rfl) dL_law_892 (fun H locs Z => ?_)
  refine lv_icmp_eq (tgt := 914) hx hb dL_law_895 (by decide) (fun hc => ?_) (fun hc => ?_)
  · rw [if_pos hc] at hf
    refine lv_iinc (v := x3 + 7) (lv' := [(3, .int (x3 + 7)), (0, .ref b), (1, .ref (g.2.2 0)), (2, .ref (g'.2.2 0))]) hx hb dL_law_914 hl (k := 3) rfl rfl (by decide) rfl (fun ls hl => ?_)
    refine lv_goto (tgt := 18) hx hb dL_law_917 (by decide) ?_
    exact ih _ _ _ _ _ _ Z (lv_sub hl [1, 2, 3, 0] rfl) hf
  · rw [if_neg hc] at hf
    exact absurd (Option.some.inj hf) (by decide)
def f_law_28 (xs : Nat → Int32) (L : Nat) (k : Int32 → St → St → Option Int32) (x3 : Int32) (u v : St) : Option Int32 :=
  Option.bind (f_X7_trace u) fun r901 =>
  Option.bind (f_X8_trace v) fun r905 =>
  if (lg_cmp r901 r905) = 0 then
    k (x3 + 7) u v
  else some 0
set_option maxHeartbeats 4000000 in
set_option maxRecDepth 100000 in
theorem b_law_28 {p : Program} {l : Launch} {e : Env} {s : State} {m : MethodId} {below : List Frame} {meth : Method} {c : Code} {H : Heap} {locs : List Loc} {b L : Nat} {xs : Nat → Int32} {g g' : Gx} {u v : St} {ls : Array Slot} {x3 : Int32} {k : Int32 → St → St → Option Int32} (C : LC p s m meth c b L xs g g') (ih : ∀ (x3 : Int32) (u v : St) (H : Heap) (locs : List Loc) (ls : Array Slot), LZ s g g' H locs u v → lv_has ls 4 [(0, .ref b), (1, .ref (g.2.2 0)), (2, .ref (g'.2.2 0)), (3, .int x3)] → k x3 u v = some 1 → W p l e room_1 s m #[Value.ref b] below meth c H locs 600000 7302250 (lw_Z below #[Value.ref b] s) (F0 m 18 ls [])) (Z : LZ s g g' H locs u v) (hl : lv_has ls 4 [(0, .ref b), (1, .ref (g.2.2 0)), (2, .ref (g'.2.2 0)), (3, .int x3)]) (hf : f_law_28 xs L k x3 u v = some 1) : W p l e room_1 s m #[Value.ref b] below meth c H locs 600000 7302250 (lw_Z below #[Value.ref b] s) (F0 m 900 ls []) := by
  have hx := C.1.1
  have hb := C.1.2.1
  unfold f_law_28 at hf
  refine lv_aload_n hx hb dL_law_900 rfl (lv_at hl 1 rfl) ?_
  obtain ⟨r901, hr901, hf⟩ := Option.bind_eq_some_iff.mp hf
  refine law_cj (As := []) (rest := []) C Z (c_X7_trace l hr901) mf_X7_trace mw_807 rfl (oC_0 _ _) rfl ⟨rfl, rfl, by decide, by decide⟩ rfl hl.1 (Nat.le_of_ble_eq_true rfl) dL_law_901 (fun H locs Z => ?_)
  refine lv_aload_n hx hb dL_law_904 rfl (lv_at hl 2 rfl) ?_
  obtain ⟨r905, hr905, hf⟩ := Option.bind_eq_some_iff.mp hf
  refine law_mj (As := []) (rest := [.long r901]) C Z (c_X8_trace l hr905) mf_X8_trace mw_1203 rfl (oM_0 _ _) rfl ⟨rfl, rfl, by decide, by decide⟩ rfl hl.1 (Nat.le_of_ble_eq_true rfl) dL_law_905 (fun H locs Z => ?_)
  refine W.lcmp hx hb dL_law_908 ?_
  refine lv_if_eq (tgt := 914) hx hb dL_law_909 (by decide) (fun hc => ?_) (fun hc => ?_)
  · rw [if_pos hc] at hf
    refine lv_iinc (v := x3 + 7) (lv' := [(3, .int (x3 + 7)), (0, .ref b), (1, .ref (g.2.2 0)), (2, .ref (g'.2.2 0))]) hx hb dL_law_914 hl (k := 3) rfl rfl (by decide) rfl (fun ls hl => ?_)
    refine lv_goto (tgt := 18) hx hb dL_law_917 (by decide) ?_
    exact ih _ _ _ _ _ _ Z (lv_sub hl [1, 2, 3, 0] rfl) hf
  · rw [if_neg hc] at hf
    exact absurd (Option.some.inj hf) (by decide)
def f_law (xs : Nat → Int32) (L : Nat) : Nat → Int32 → St → St → Option Int32
  | 0, _, _, _ => none
  | n + 1, x3, u, v =>
    if Int32.ofNat L - 7 < x3 then some 1 else
    if oob x3 L then none else
    if (xs (Int32.toNatClampNeg x3) &&& 31) = 0 then f_law_0 xs L (f_law xs L n) x3 u v else
    if (xs (Int32.toNatClampNeg x3) &&& 31) = 1 then f_law_1 xs L (f_law xs L n) x3 u v else
    if (xs (Int32.toNatClampNeg x3) &&& 31) = 2 then f_law_2 xs L (f_law xs L n) x3 u v else
    if (xs (Int32.toNatClampNeg x3) &&& 31) = 3 then f_law_3 xs L (f_law xs L n) x3 u v else
    if (xs (Int32.toNatClampNeg x3) &&& 31) = 4 then f_law_4 xs L (f_law xs L n) x3 u v else
    if (xs (Int32.toNatClampNeg x3) &&& 31) = 5 then f_law_5 xs L (f_law xs L n) x3 u v else
    if (xs (Int32.toNatClampNeg x3) &&& 31) = 6 then f_law_6 xs L (f_law xs L n) x3 u v else
    if (xs (Int32.toNatClampNeg x3) &&& 31) = 7 then f_law_7 xs L (f_law xs L n) x3 u v else
    if (xs (Int32.toNatClampNeg x3) &&& 31) = 8 then f_law_8 xs L (f_law xs L n) x3 u v else
    if (xs (Int32.toNatClampNeg x3) &&& 31) = 9 then f_law_9 xs L (f_law xs L n) x3 u v else
    if (xs (Int32.toNatClampNeg x3) &&& 31) = 10 then f_law_10 xs L (f_law xs L n) x3 u v else
    if (xs (Int32.toNatClampNeg x3) &&& 31) = 11 then f_law_11 xs L (f_law xs L n) x3 u v else
    if (xs (Int32.toNatClampNeg x3) &&& 31) = 12 then f_law_12 xs L (f_law xs L n) x3 u v else
    if (xs (Int32.toNatClampNeg x3) &&& 31) = 13 then f_law_13 xs L (f_law xs L n) x3 u v else
    if (xs (Int32.toNatClampNeg x3) &&& 31) = 14 then f_law_14 xs L (f_law xs L n) x3 u v else
    if (xs (Int32.toNatClampNeg x3) &&& 31) = 15 then f_law_15 xs L (f_law xs L n) x3 u v else
    if (xs (Int32.toNatClampNeg x3) &&& 31) = 16 then f_law_16 xs L (f_law xs L n) x3 u v else
    if (xs (Int32.toNatClampNeg x3) &&& 31) = 17 then f_law_17 xs L (f_law xs L n) x3 u v else
    if (xs (Int32.toNatClampNeg x3) &&& 31) = 18 then f_law_18 xs L (f_law xs L n) x3 u v else
    if (xs (Int32.toNatClampNeg x3) &&& 31) = 19 then f_law_19 xs L (f_law xs L n) x3 u v else
    if (xs (Int32.toNatClampNeg x3) &&& 31) = 20 then f_law_20 xs L (f_law xs L n) x3 u v else
    if (xs (Int32.toNatClampNeg x3) &&& 31) = 21 then f_law_21 xs L (f_law xs L n) x3 u v else
    if (xs (Int32.toNatClampNeg x3) &&& 31) = 22 then f_law_22 xs L (f_law xs L n) x3 u v else
    if (xs (Int32.toNatClampNeg x3) &&& 31) = 23 then f_law_23 xs L (f_law xs L n) x3 u v else
    if (xs (Int32.toNatClampNeg x3) &&& 31) = 24 then f_law_24 xs L (f_law xs L n) x3 u v else
    if (xs (Int32.toNatClampNeg x3) &&& 31) = 25 then f_law_25 xs L (f_law xs L n) x3 u v else
    if (xs (Int32.toNatClampNeg x3) &&& 31) = 26 then f_law_26 xs L (f_law xs L n) x3 u v else
    if (xs (Int32.toNatClampNeg x3) &&& 31) = 27 then f_law_27 xs L (f_law xs L n) x3 u v else
    if (xs (Int32.toNatClampNeg x3) &&& 31) = 28 then f_law_28 xs L (f_law xs L n) x3 u v else
    f_law xs L n (x3 + 7) u v
set_option maxHeartbeats 8000000 in
set_option maxRecDepth 100000 in
theorem b_law {p : Program} {l : Launch} {e : Env} {s : State} {m : MethodId} {below : List Frame} {meth : Method} {c : Code} {b L : Nat} {xs : Nat → Int32} {g g' : Gx} (C : LC p s m meth c b L xs g g') : ∀ (n : Nat) (x3 : Int32) (u v : St) (H : Heap) (locs : List Loc) (ls : Array Slot), LZ s g g' H locs u v → lv_has ls 4 [(0, .ref b), (1, .ref (g.2.2 0)), (2, .ref (g'.2.2 0)), (3, .int x3)] → f_law xs L n x3 u v = some 1 → W p l e room_1 s m #[Value.ref b] below meth c H locs 600000 7302250 (lw_Z below #[Value.ref b] s) (F0 m 18 ls []) := by
  have hx := C.1.1
  have hb := C.1.2.1
  intro n
  induction n with
  | zero =>
    intro x3 u v H locs ls Z hl hf
    rw [f_law.eq_1] at hf
    cases hf
  | succ n ih =>
    intro x3 u v H locs ls Z hl hf
    rw [f_law.eq_2] at hf
    refine lv_iload_n hx hb dL_law_18 rfl (lv_at hl 3 rfl) ?_
    refine lv_aload_n hx hb dL_law_19 rfl (lv_at hl 0 rfl) ?_
    refine law_slen C Z dL_law_20 ?_
    refine lv_bipush (v := 7) hx hb dL_law_21 (by decide +kernel) ?_
    refine lv_isub hx hb dL_law_23 ?_
    refine lv_icmp_gt (tgt := 920) hx hb dL_law_24 (by decide) (fun hc24 => ?_) (fun hc24 => ?_)
    · refine lv_iconst (v := 1) hx hb dL_law_920 (by decide +kernel) ?_
      exact law_end C Z dL_law_921
    · rw [if_neg hc24] at hf
      refine lv_aload_n hx hb dL_law_27 rfl (lv_at hl 0 rfl) ?_
      refine lv_iload_n hx hb dL_law_28 rfl (lv_at hl 3 rfl) ?_
      by_cases ho29 : oob x3 L = true
      · rw [if_pos ho29] at hf; cases hf
      rw [if_neg ho29] at hf
      refine law_sld C Z ho29 dL_law_29 ?_
      refine lv_bipush (v := 31) hx hb dL_law_30 (by decide +kernel) ?_
      refine lv_iand hx hb dL_law_32 ?_
      by_cases hs0 : (xs (Int32.toNatClampNeg x3) &&& 31) = 0
      · rw [if_pos hs0] at hf
        refine lv_tableIn (tgt := 164) hx hb dL_law_33 (by rw [hs0]; decide) (by rw [hs0]; decide) (by rw [hs0]; first | done | rfl) (by decide) ?_
        exact b_law_0 C ih Z hl hf
      rw [if_neg hs0] at hf
      by_cases hs1 : (xs (Int32.toNatClampNeg x3) &&& 31) = 1
      · rw [if_pos hs1] at hf
        refine lv_tableIn (tgt := 187) hx hb dL_law_33 (by rw [hs1]; decide) (by rw [hs1]; decide) (by rw [hs1]; first | done | rfl) (by decide) ?_
        exact b_law_1 C ih Z hl hf
      rw [if_neg hs1] at hf
      by_cases hs2 : (xs (Int32.toNatClampNeg x3) &&& 31) = 2
      · rw [if_pos hs2] at hf
        refine lv_tableIn (tgt := 200) hx hb dL_law_33 (by rw [hs2]; decide) (by rw [hs2]; decide) (by rw [hs2]; first | done | rfl) (by decide) ?_
        exact b_law_2 C ih Z hl hf
      rw [if_neg hs2] at hf
      by_cases hs3 : (xs (Int32.toNatClampNeg x3) &&& 31) = 3
      · rw [if_pos hs3] at hf
        refine lv_tableIn (tgt := 213) hx hb dL_law_33 (by rw [hs3]; decide) (by rw [hs3]; decide) (by rw [hs3]; first | done | rfl) (by decide) ?_
        exact b_law_3 C ih Z hl hf
      rw [if_neg hs3] at hf
      by_cases hs4 : (xs (Int32.toNatClampNeg x3) &&& 31) = 4
      · rw [if_pos hs4] at hf
        refine lv_tableIn (tgt := 236) hx hb dL_law_33 (by rw [hs4]; decide) (by rw [hs4]; decide) (by rw [hs4]; first | done | rfl) (by decide) ?_
        exact b_law_4 C ih Z hl hf
      rw [if_neg hs4] at hf
      by_cases hs5 : (xs (Int32.toNatClampNeg x3) &&& 31) = 5
      · rw [if_pos hs5] at hf
        refine lv_tableIn (tgt := 269) hx hb dL_law_33 (by rw [hs5]; decide) (by rw [hs5]; decide) (by rw [hs5]; first | done | rfl) (by decide) ?_
        exact b_law_5 C ih Z hl hf
      rw [if_neg hs5] at hf
      by_cases hs6 : (xs (Int32.toNatClampNeg x3) &&& 31) = 6
      · rw [if_pos hs6] at hf
        refine lv_tableIn (tgt := 302) hx hb dL_law_33 (by rw [hs6]; decide) (by rw [hs6]; decide) (by rw [hs6]; first | done | rfl) (by decide) ?_
        exact b_law_6 C ih Z hl hf
      rw [if_neg hs6] at hf
      by_cases hs7 : (xs (Int32.toNatClampNeg x3) &&& 31) = 7
      · rw [if_pos hs7] at hf
        refine lv_tableIn (tgt := 335) hx hb dL_law_33 (by rw [hs7]; decide) (by rw [hs7]; decide) (by rw [hs7]; first | done | rfl) (by decide) ?_
        exact b_law_7 C ih Z hl hf
      rw [if_neg hs7] at hf
      by_cases hs8 : (xs (Int32.toNatClampNeg x3) &&& 31) = 8
      · rw [if_pos hs8] at hf
        refine lv_tableIn (tgt := 358) hx hb dL_law_33 (by rw [hs8]; decide) (by rw [hs8]; decide) (by rw [hs8]; first | done | rfl) (by decide) ?_
        exact b_law_8 C ih Z hl hf
      rw [if_neg hs8] at hf
      by_cases hs9 : (xs (Int32.toNatClampNeg x3) &&& 31) = 9
      · rw [if_pos hs9] at hf
        refine lv_tableIn (tgt := 381) hx hb dL_law_33 (by rw [hs9]; decide) (by rw [hs9]; decide) (by rw [hs9]; first | done | rfl) (by decide) ?_
        exact b_law_9 C ih Z hl hf
      rw [if_neg hs9] at hf
      by_cases hs10 : (xs (Int32.toNatClampNeg x3) &&& 31) = 10
      · rw [if_pos hs10] at hf
        refine lv_tableIn (tgt := 414) hx hb dL_law_33 (by rw [hs10]; decide) (by rw [hs10]; decide) (by rw [hs10]; first | done | rfl) (by decide) ?_
        exact b_law_10 C ih Z hl hf
      rw [if_neg hs10] at hf
      by_cases hs11 : (xs (Int32.toNatClampNeg x3) &&& 31) = 11
      · rw [if_pos hs11] at hf
        refine lv_tableIn (tgt := 437) hx hb dL_law_33 (by rw [hs11]; decide) (by rw [hs11]; decide) (by rw [hs11]; first | done | rfl) (by decide) ?_
        exact b_law_11 C ih Z hl hf
      rw [if_neg hs11] at hf
      by_cases hs12 : (xs (Int32.toNatClampNeg x3) &&& 31) = 12
      · rw [if_pos hs12] at hf
        refine lv_tableIn (tgt := 450) hx hb dL_law_33 (by rw [hs12]; decide) (by rw [hs12]; decide) (by rw [hs12]; first | done | rfl) (by decide) ?_
        exact b_law_12 C ih Z hl hf
      rw [if_neg hs12] at hf
      by_cases hs13 : (xs (Int32.toNatClampNeg x3) &&& 31) = 13
      · rw [if_pos hs13] at hf
        refine lv_tableIn (tgt := 473) hx hb dL_law_33 (by rw [hs13]; decide) (by rw [hs13]; decide) (by rw [hs13]; first | done | rfl) (by decide) ?_
        exact b_law_13 C ih Z hl hf
      rw [if_neg hs13] at hf
      by_cases hs14 : (xs (Int32.toNatClampNeg x3) &&& 31) = 14
      · rw [if_pos hs14] at hf
        refine lv_tableIn (tgt := 506) hx hb dL_law_33 (by rw [hs14]; decide) (by rw [hs14]; decide) (by rw [hs14]; first | done | rfl) (by decide) ?_
        exact b_law_14 C ih Z hl hf
      rw [if_neg hs14] at hf
      by_cases hs15 : (xs (Int32.toNatClampNeg x3) &&& 31) = 15
      · rw [if_pos hs15] at hf
        refine lv_tableIn (tgt := 529) hx hb dL_law_33 (by rw [hs15]; decide) (by rw [hs15]; decide) (by rw [hs15]; first | done | rfl) (by decide) ?_
        exact b_law_15 C ih Z hl hf
      rw [if_neg hs15] at hf
      by_cases hs16 : (xs (Int32.toNatClampNeg x3) &&& 31) = 16
      · rw [if_pos hs16] at hf
        refine lv_tableIn (tgt := 562) hx hb dL_law_33 (by rw [hs16]; decide) (by rw [hs16]; decide) (by rw [hs16]; first | done | rfl) (by decide) ?_
        exact b_law_16 C ih Z hl hf
      rw [if_neg hs16] at hf
      by_cases hs17 : (xs (Int32.toNatClampNeg x3) &&& 31) = 17
      · rw [if_pos hs17] at hf
        refine lv_tableIn (tgt := 637) hx hb dL_law_33 (by rw [hs17]; decide) (by rw [hs17]; decide) (by rw [hs17]; first | done | rfl) (by decide) ?_
        exact b_law_17 C ih Z hl hf
      rw [if_neg hs17] at hf
      by_cases hs18 : (xs (Int32.toNatClampNeg x3) &&& 31) = 18
      · rw [if_pos hs18] at hf
        refine lv_tableIn (tgt := 670) hx hb dL_law_33 (by rw [hs18]; decide) (by rw [hs18]; decide) (by rw [hs18]; first | done | rfl) (by decide) ?_
        exact b_law_18 C ih Z hl hf
      rw [if_neg hs18] at hf
      by_cases hs19 : (xs (Int32.toNatClampNeg x3) &&& 31) = 19
      · rw [if_pos hs19] at hf
        refine lv_tableIn (tgt := 693) hx hb dL_law_33 (by rw [hs19]; decide) (by rw [hs19]; decide) (by rw [hs19]; first | done | rfl) (by decide) ?_
        exact b_law_19 C ih Z hl hf
      rw [if_neg hs19] at hf
      by_cases hs20 : (xs (Int32.toNatClampNeg x3) &&& 31) = 20
      · rw [if_pos hs20] at hf
        refine lv_tableIn (tgt := 706) hx hb dL_law_33 (by rw [hs20]; decide) (by rw [hs20]; decide) (by rw [hs20]; first | done | rfl) (by decide) ?_
        exact b_law_20 C ih Z hl hf
      rw [if_neg hs20] at hf
      by_cases hs21 : (xs (Int32.toNatClampNeg x3) &&& 31) = 21
      · rw [if_pos hs21] at hf
        refine lv_tableIn (tgt := 739) hx hb dL_law_33 (by rw [hs21]; decide) (by rw [hs21]; decide) (by rw [hs21]; first | done | rfl) (by decide) ?_
        exact b_law_21 C ih Z hl hf
      rw [if_neg hs21] at hf
      by_cases hs22 : (xs (Int32.toNatClampNeg x3) &&& 31) = 22
      · rw [if_pos hs22] at hf
        refine lv_tableIn (tgt := 762) hx hb dL_law_33 (by rw [hs22]; decide) (by rw [hs22]; decide) (by rw [hs22]; first | done | rfl) (by decide) ?_
        exact b_law_22 C ih Z hl hf
      rw [if_neg hs22] at hf
      by_cases hs23 : (xs (Int32.toNatClampNeg x3) &&& 31) = 23
      · rw [if_pos hs23] at hf
        refine lv_tableIn (tgt := 785) hx hb dL_law_33 (by rw [hs23]; decide) (by rw [hs23]; decide) (by rw [hs23]; first | done | rfl) (by decide) ?_
        exact b_law_23 C ih Z hl hf
      rw [if_neg hs23] at hf
      by_cases hs24 : (xs (Int32.toNatClampNeg x3) &&& 31) = 24
      · rw [if_pos hs24] at hf
        refine lv_tableIn (tgt := 798) hx hb dL_law_33 (by rw [hs24]; decide) (by rw [hs24]; decide) (by rw [hs24]; first | done | rfl) (by decide) ?_
        exact b_law_24 C ih Z hl hf
      rw [if_neg hs24] at hf
      by_cases hs25 : (xs (Int32.toNatClampNeg x3) &&& 31) = 25
      · rw [if_pos hs25] at hf
        refine lv_tableIn (tgt := 831) hx hb dL_law_33 (by rw [hs25]; decide) (by rw [hs25]; decide) (by rw [hs25]; first | done | rfl) (by decide) ?_
        exact b_law_25 C ih Z hl hf
      rw [if_neg hs25] at hf
      by_cases hs26 : (xs (Int32.toNatClampNeg x3) &&& 31) = 26
      · rw [if_pos hs26] at hf
        refine lv_tableIn (tgt := 854) hx hb dL_law_33 (by rw [hs26]; decide) (by rw [hs26]; decide) (by rw [hs26]; first | done | rfl) (by decide) ?_
        exact b_law_26 C ih Z hl hf
      rw [if_neg hs26] at hf
      by_cases hs27 : (xs (Int32.toNatClampNeg x3) &&& 31) = 27
      · rw [if_pos hs27] at hf
        refine lv_tableIn (tgt := 877) hx hb dL_law_33 (by rw [hs27]; decide) (by rw [hs27]; decide) (by rw [hs27]; first | done | rfl) (by decide) ?_
        exact b_law_27 C ih Z hl hf
      rw [if_neg hs27] at hf
      by_cases hs28 : (xs (Int32.toNatClampNeg x3) &&& 31) = 28
      · rw [if_pos hs28] at hf
        refine lv_tableIn (tgt := 900) hx hb dL_law_33 (by rw [hs28]; decide) (by rw [hs28]; decide) (by rw [hs28]; first | done | rfl) (by decide) ?_
        exact b_law_28 C ih Z hl hf
      rw [if_neg hs28] at hf
      have e0 := lv_neT (a := 0) hs0 (by decide)
      have e1 := lv_neT (a := 1) hs1 (by decide)
      have e2 := lv_neT (a := 2) hs2 (by decide)
      have e3 := lv_neT (a := 3) hs3 (by decide)
      have e4 := lv_neT (a := 4) hs4 (by decide)
      have e5 := lv_neT (a := 5) hs5 (by decide)
      have e6 := lv_neT (a := 6) hs6 (by decide)
      have e7 := lv_neT (a := 7) hs7 (by decide)
      have e8 := lv_neT (a := 8) hs8 (by decide)
      have e9 := lv_neT (a := 9) hs9 (by decide)
      have e10 := lv_neT (a := 10) hs10 (by decide)
      have e11 := lv_neT (a := 11) hs11 (by decide)
      have e12 := lv_neT (a := 12) hs12 (by decide)
      have e13 := lv_neT (a := 13) hs13 (by decide)
      have e14 := lv_neT (a := 14) hs14 (by decide)
      have e15 := lv_neT (a := 15) hs15 (by decide)
      have e16 := lv_neT (a := 16) hs16 (by decide)
      have e17 := lv_neT (a := 17) hs17 (by decide)
      have e18 := lv_neT (a := 18) hs18 (by decide)
      have e19 := lv_neT (a := 19) hs19 (by decide)
      have e20 := lv_neT (a := 20) hs20 (by decide)
      have e21 := lv_neT (a := 21) hs21 (by decide)
      have e22 := lv_neT (a := 22) hs22 (by decide)
      have e23 := lv_neT (a := 23) hs23 (by decide)
      have e24 := lv_neT (a := 24) hs24 (by decide)
      have e25 := lv_neT (a := 25) hs25 (by decide)
      have e26 := lv_neT (a := 26) hs26 (by decide)
      have e27 := lv_neT (a := 27) hs27 (by decide)
      have e28 := lv_neT (a := 28) hs28 (by decide)
      refine lv_tableOut (tgt := 914) hx hb dL_law_33 (by omega) (by decide) ?_
      refine lv_iinc (v := x3 + 7) (lv' := [(3, .int (x3 + 7)), (0, .ref b), (1, .ref (g.2.2 0)), (2, .ref (g'.2.2 0))]) hx hb dL_law_914 hl (k := 3) rfl rfl (by decide) rfl (fun ls hl => ?_)
      refine lv_goto (tgt := 18) hx hb dL_law_917 (by decide) ?_
      exact ih _ _ _ _ _ _ Z (lv_sub hl [1, 2, 3, 0] rfl) hf
