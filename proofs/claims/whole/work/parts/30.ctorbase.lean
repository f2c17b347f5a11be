/-! ===== BEGIN new T[n][m]: the outer array a place, the inner ones among the pooled ===== -/
/-- f, but v at every address of l -/
def vr_up {α : Type} (f : Nat → α) (l : List Nat) (v : α) : Nat → α := fun a => if a ∈ l then v else f a
theorem vr_up_in {α : Type} {f : Nat → α} {l : List Nat} {v : α} {a : Nat} (h : a ∈ l) : vr_up f l v a = v := if_pos h
theorem vr_up_ne {α : Type} {f : Nat → α} {l : List Nat} {v : α} {a : Nat} (h : a ∉ l) : vr_up f l v a = f a := if_neg h
theorem vr_rows {L l : List Nat} {f : Nat → va_E} {e : va_E} (h : ∀ a, a ∈ l → a ∉ L) : va_pl L f ++ l.map (fun a => (a, e)) = va_pl (L ++ l) (vr_up f l e) := by
  unfold va_pl
  rw [List.map_append]
  congr 1
  · apply List.map_congr_left
    intro a ha
    rw [vr_up_ne (fun q => h a q ha)]
  · apply List.map_congr_left
    intro a ha
    rw [vr_up_in ha]
theorem vr_lay {X rows : va_W} {x : Nat × va_E} {pl : va_W} {D : va_G} {cl : List vw_C} {H : Heap} (hP : va_P D cl (((X ++ pl) ++ [x]) ++ rows) H) : va_P D cl ((X ++ [x]) ++ (pl ++ rows)) H := by
  rw [List.append_assoc (X ++ pl)] at hP
  have h := va_P.swap hP
  rw [← List.append_assoc X] at h
  have h2 := va_P.swap h
  rw [List.append_assoc (X ++ [x])] at h2
  exact h2
theorem vr_layD {X rows : va_W} {x : Nat × va_E} {pl : va_W} {A : Nat → Prop} (hD : va_D A (((X ++ pl) ++ [x]) ++ rows)) : va_D A ((X ++ [x]) ++ (pl ++ rows)) := by
  rw [List.append_assoc (X ++ pl)] at hD
  have h := va_D.swap hD
  rw [← List.append_assoc X] at h
  have h2 := va_D.swap h
  rw [List.append_assoc (X ++ [x])] at h2
  exact h2
theorem vr_outer (c : ClassId) (N h0 : Nat) : ∀ i : Nat, Jvm.Free.Multi.outerC c N h0 i = arrV c N (fun j => va_rf (if j < i then some (h0 + 1 + j) else none))
  | 0 => by
    show ({ cls := c, slots := Array.replicate N .null, vm := .none } : Cell) = _
    rw [arrV_new]
    refine congrArg (arrV c N) (funext fun j => ?_)
    simp [va_rf]
  | i + 1 => by
    show (Jvm.Free.Multi.outerC c N h0 i).setSlot i (.ref (h0 + 1 + i)) = _
    rw [vr_outer c N h0 i, arrV_store]
    refine congrArg (arrV c N) (funext fun j => ?_)
    by_cases e : j = i
    · subst e
      simp [updV, va_rf]
    · by_cases h : j < i
      · simp [updV, e, h, Nat.lt_succ_of_lt h]
      · simp [updV, e, h, show ¬ j < i + 1 by omega]
section VGM
variable {p : Program} {l : Launch} {e : Env} {R : Room} {s : State} {m : MethodId} {args : Array Value} {below : List Frame} {meth : Method} {c : Code} {H : Heap} {locs : List Loc} {cells slots : Nat} {Q : State → Prop}
variable {cc : ByteArray} {pc : Nat} {ls : Array Slot} {rest : List Value} {D : va_G} {cl : List vw_C} {A : Nat → Prop} {a : Nat} {tys : List (ClassId × FieldType)} {ws : va_W} {H0 : Heap}
theorem va_mna {X : va_W} {L : List Nat} {f : Nat → va_E} {cc : ByteArray} (hexec : p.tables.exec = Jvm.exec) (hb : c.code = cc) {own : String} {index : Nat} {ty : FieldType} {cy : ClassId} (hown : s.vm.findClass own = some m.cls) (hclink : (Cond.classLink own index ("[" ++ (FieldType.array ty).toString)).before args s = true) (hover : (Cond.arrayOver (.array ty)).before #[] s = true) (harr : (Cond.arrayClass ty).before args s = true) (hcy : s.vm.findClass (FieldType.array ty).toString = some cy)
    (hK : va_K D cl tys s) (hP : va_P D cl (X ++ va_pl L f) H) (hD : va_D A (X ++ va_pl L f)) (hS : va_S A H0 H locs) (hA : ∀ q, H0.size ≤ q → A q) {n k : Int32} {N' K' : Nat} {z : vp_A} (hn : ¬ n < 0) (hk : ¬ k < 0) (hN : n.toNatClampNeg = N') (hM : k.toNatClampNeg = K')
    (hb1 : N' * 4 ≤ 536870912) (hb2 : K' * componentBytes ty ≤ 536870912) (hb3 : K' ≤ 536870912) (hdf : fits ty (defaultValue ty) = true) (hdd : (defaultValue ty).isDefault = true) (hcells : cells + (1 + N') ≤ R.cells) (hslots : slots + (N' + N' * K') ≤ R.slots) (hz : ∀ c : ClassId, Jvm.Free.Multi.innerC c K' (defaultValue ty) = vp_cell c z) (hdg : decode cc pc = .ok (.multianewarray index 2, 4))
    (kk : ∀ (q : Nat) (r : Nat → Nat) (cA : ClassId) (H1 : Heap), (∀ i j : Nat, i < N' → j < N' → r i = r j → i = j) → (∀ i : Nat, i < N' → r i ∉ L) → va_K D cl (tys ++ [(cA, .array ty)]) s →
      va_P D cl ((X ++ [(q, .inl (cA, N', .inr (.inr (.inr (.inr (fun i => if i < N' then some (r i) else none))))))]) ++ va_pl (L ++ (List.range N').map r) (vr_up f ((List.range N').map r) (.inl (cy, z)))) H1 → va_D A ((X ++ [(q, .inl (cA, N', .inr (.inr (.inr (.inr (fun i => if i < N' then some (r i) else none))))))]) ++ va_pl (L ++ (List.range N').map r) (vr_up f ((List.range N').map r) (.inl (cy, z)))) → va_S A H0 H1 locs →
      W p l e R s m args below meth c H1 locs (cells + 1 + N') (slots + N' + N' * K') Q (F0 m (pc + 4) ls (.ref q :: rest))) : W p l e R s m args below meth c H locs cells slots Q (F0 m pc ls (.int k :: .int n :: rest)) := by
  subst hN
  subst hM
  intro T hT Xs
  obtain ⟨vm₁, cA, comp, -, fA, fC, hO, -, X', step⟩ := Xs.multianewarray2F hexec hown hclink (show (Cond.arrayOver (.array ty)).before args s = true from hover) harr (g := F0 m pc ls (.int k :: .int n :: rest)) rfl (by rw [hb]; exact hdg) rfl hn hk hb1 hb2 hb3 hdf hdd hcells hslots
  have ec : some cy = some comp := hcy.symm.trans fC
  cases ec
  generalize hF : Jvm.Free.Multi.fill (T.setVm vm₁) cA cy n.toNatClampNeg k.toNatClampNeg (defaultValue ty) n.toNatClampNeg = F at X' step
  have hTh : (T.setVm vm₁).heap = H := hT
  obtain ⟨f1, f2, -, -⟩ := Jvm.Free.Multi.fill_facts (T.setVm vm₁) cA cy n.toNatClampNeg k.toNatClampNeg (defaultValue ty) n.toNatClampNeg
  rw [hF, hTh] at f1 f2
  have hold : ∀ x : Nat, x < H.size → F.heap[x]? = H[x]? := fun x hx => by
    have := Jvm.Free.Multi.fill_old (T.setVm vm₁) cA cy n.toNatClampNeg k.toNatClampNeg (defaultValue ty) (a := x) (by rw [hTh]; exact hx) n.toNatClampNeg
    rw [hF, hTh] at this
    exact this
  have hrow : ∀ j : Nat, j < n.toNatClampNeg → F.heap[H.size + 1 + j]? = some (vp_cell cy z) := fun j hj => by
    have := Jvm.Free.Multi.fill_inner (T.setVm vm₁) cA cy n.toNatClampNeg k.toNatClampNeg (defaultValue ty) n.toNatClampNeg j hj
    rw [hF, hTh, hz] at this
    exact this
  have hout : Jvm.Free.Multi.outerC cA n.toNatClampNeg H.size n.toNatClampNeg = vp_cell cA (n.toNatClampNeg, .inr (.inr (.inr (.inr (fun i => if i < n.toNatClampNeg then some (H.size + 1 + i) else none))))) := by
    rw [vp_cell_q]
    exact vr_outer cA n.toNatClampNeg H.size n.toNatClampNeg
  rw [hout] at f2
  have hlt : ∀ a, a ∈ L → a < H.size := fun a ha => by
    obtain ⟨k9, hk9⟩ := va_pl_get (X := X) (f := f) ha
    exact (hP k9 _ hk9).lt
  have hnl : ∀ i : Nat, i < n.toNatClampNeg → H.size + 1 + i ∉ L := fun i _ h => by
    have := hlt _ h
    omega
  have hnm : ∀ a, a ∈ (List.range n.toNatClampNeg).map (fun i => H.size + 1 + i) → a ∉ L := fun a ha h => by
    obtain ⟨i, -, rfl⟩ := List.mem_map.mp ha
    have := hlt _ h
    omega
  have hP0 : va_P D cl (X ++ va_pl L f) F.heap := hP.kept (fun k9 x hx => hold x.1 ((hP k9 x hx).lt))
  have hP1 : va_P D cl ((X ++ va_pl L f) ++ [(H.size, .inl (cA, n.toNatClampNeg, .inr (.inr (.inr (.inr (fun i => if i < n.toNatClampNeg then some (H.size + 1 + i) else none))))))]) F.heap := hP0.app (fun k9 x hx => by
    have h0 : k9 < 1 := (List.getElem?_eq_some_iff.mp hx).1
    rw [show k9 = 0 by omega] at hx
    cases hx
    exact f2)
  have hP2 : va_P D cl (((X ++ va_pl L f) ++ [(H.size, .inl (cA, n.toNatClampNeg, .inr (.inr (.inr (.inr (fun i => if i < n.toNatClampNeg then some (H.size + 1 + i) else none))))))]) ++ ((List.range n.toNatClampNeg).map (fun i => H.size + 1 + i)).map (fun a => (a, .inl (cy, z)))) F.heap := hP1.app (fun k9 x hx => by
    obtain ⟨a, ha, rfl⟩ := List.mem_map.mp (List.mem_of_getElem? hx)
    obtain ⟨i, hi, rfl⟩ := List.mem_map.mp ha
    exact hrow i (List.mem_range.mp hi))
  have hD2 : va_D A (((X ++ va_pl L f) ++ [(H.size, .inl (cA, n.toNatClampNeg, .inr (.inr (.inr (.inr (fun i => if i < n.toNatClampNeg then some (H.size + 1 + i) else none))))))]) ++ ((List.range n.toNatClampNeg).map (fun i => H.size + 1 + i)).map (fun a => (a, .inl (cy, z)))) := by
    have hD1 := hD.push (e := .inl (cA, n.toNatClampNeg, .inr (.inr (.inr (.inr (fun i => if i < n.toNatClampNeg then some (H.size + 1 + i) else none)))))) hP rfl (hA _ hS.1)
    generalize hW1 : (X ++ va_pl L f) ++ [(H.size, .inl (cA, n.toNatClampNeg, .inr (.inr (.inr (.inr (fun i => if i < n.toNatClampNeg then some (H.size + 1 + i) else none))))))] = W1 at hD1 hP1 ⊢
    have hle : ∀ (k9 : Nat) (x : Nat × va_E), W1[k9]? = some x → x.1 ≤ H.size := fun k9 x hx => by
      rw [← hW1] at hx
      by_cases hl : k9 < (X ++ va_pl L f).length
      · rw [List.getElem?_append_left hl] at hx
        exact Nat.le_of_lt ((hP k9 x hx).lt)
      · rw [List.getElem?_append_right (by omega)] at hx
        have h0 : k9 - (X ++ va_pl L f).length < 1 := (List.getElem?_eq_some_iff.mp hx).1
        rw [show k9 - (X ++ va_pl L f).length = 0 by omega] at hx
        cases hx
        exact Nat.le_refl _
    have hr : ∀ (k9 : Nat) (x : Nat × va_E), (((List.range n.toNatClampNeg).map (fun i => H.size + 1 + i)).map (fun a => ((a, .inl (cy, z)) : Nat × va_E)))[k9]? = some x → x.1 = H.size + 1 + k9 := fun k9 x hx => by
      rw [List.getElem?_map, List.getElem?_map] at hx
      by_cases h9 : k9 < n.toNatClampNeg
      · rw [List.getElem?_range h9] at hx
        cases hx
        rfl
      · have hn0 : (List.range n.toNatClampNeg)[k9]? = none := List.getElem?_eq_none (by rw [List.length_range]; omega)
        rw [hn0] at hx
        cases hx
    refine ⟨fun i j x y hi hj hxy => ?_, fun k9 x hx => ?_⟩
    · by_cases h1 : i < W1.length <;> by_cases h2 : j < W1.length
      · rw [List.getElem?_append_left h1] at hi
        rw [List.getElem?_append_left h2] at hj
        exact hD1.1 i j x y hi hj hxy
      · rw [List.getElem?_append_left h1] at hi
        rw [List.getElem?_append_right (by omega)] at hj
        have := hle _ _ hi
        have := hr _ _ hj
        omega
      · rw [List.getElem?_append_right (by omega)] at hi
        rw [List.getElem?_append_left h2] at hj
        have := hle _ _ hj
        have := hr _ _ hi
        omega
      · rw [List.getElem?_append_right (by omega)] at hi hj
        have := hr _ _ hi
        have := hr _ _ hj
        omega
    · by_cases h1 : k9 < W1.length
      · rw [List.getElem?_append_left h1] at hx
        exact hD1.2 k9 x hx
      · rw [List.getElem?_append_right (by omega)] at hx
        have := hr _ _ hx
        exact hA _ (by have := hS.1; omega)
  have hAr : ArrOfT s cA (.array ty) := fun N9 z9 => by
    obtain ⟨-, k9, hk9, cm9, hkk9⟩ := (hO 0 0 0).1
    exact ⟨(fun q hq => by cases hq), k9, hk9, cm9, hkk9⟩
  have hK2 : va_K D cl (tys ++ [(cA, .array ty)]) s := ⟨hK.1, fun k9 x hx => by
    by_cases hl : k9 < tys.length
    · rw [List.getElem?_append_left hl] at hx
      exact hK.2 k9 x hx
    · rw [List.getElem?_append_right (by omega)] at hx
      have h0 : k9 - tys.length < 1 := (List.getElem?_eq_some_iff.mp hx).1
      rw [show k9 - tys.length = 0 by omega] at hx
      cases hx
      exact ⟨hAr, fA⟩⟩
  obtain ⟨t, a1, b1⟩ := kk H.size (fun i => H.size + 1 + i) cA F.heap (fun i j _ _ h => by have h9 : H.size + 1 + i = H.size + 1 + j := h; omega) hnl hK2 (by rw [← vr_rows hnm]; exact vr_lay hP2) (by rw [← vr_rows hnm]; exact vr_layD hD2) ⟨by rw [f1]; have := hS.1; omega, fun x h1 h2 => (hold x (Nat.lt_of_lt_of_le h1 hS.1)).trans (hS.2.1 x h1 h2), hS.2.2⟩ F rfl X'
  refine ⟨t, step t ?_, b1⟩
  have e : T.heap.size = H.size := by rw [hT]
  rw [e]
  exact a1
end VGM
/-! ===== END ===== -/
-- ===== constructors: worlds that grow; the object itself is the first cell =====
def AOv (U : State) : Prop := (Cond.arrayOver (.array .int)).before #[] U = true ∧ va_AO "AskedCocks$Present" U
theorem aoa_moved {u U : State} (hvm : u.vm.Alike U.vm) (h : (Cond.arrayOver (.array .int)).before #[] u = true) : (Cond.arrayOver (.array .int)).before #[] U = true := by
  have h2 : (Cond.arrayOver (.array .int)).before #[] (u.setVm U.vm) = true := by rw [Cond.arrayOver_setVmC hvm]; exact h
  simp only [Cond.before, Cond.holds, Cond.value, State.vm_setVm] at h2 ⊢
  exact h2
theorem AOv.warm {u U : State} (hvm : u.vm.Alike U.vm) (h : AOv u) : AOv U := ⟨aoa_moved hvm h.1, h.2.moved hvm⟩
def Ak (h0 sz : Nat) : Nat → Prop := fun q => q = h0 ∨ sz ≤ q
def PK (g : Gx) (h0 sz : Nat) (o : va_E) : State → Prop := fun U => U.heap.size = sz ∧ va_P g.1 vwCl [(h0, o)] U.heap ∧ Fix g U ∧ AOv U
def CK (p : Program) (s : State) (m : MethodId) (meth : Method) (c : Code) (args : Array Value) (cc : ByteArray) (own : String) (g : Gx) : Prop :=
  p.tables.exec = Jvm.exec ∧ c.code = cc ∧ c.maxLocals = 1 ∧ s.vm.findClass own = some m.cls ∧ (∀ w ∈ wsA, w.before args s = true) ∧ meth.sig.returnType = none ∧ meth.locks = false ∧ Fix g s ∧ AOv s ∧ meth.name = "<init>"
def ZK (g : Gx) (A : Nat → Prop) (s : State) (H : Heap) (locs : List Loc) (ws : va_W) : Prop := va_P g.1 vwCl ws H ∧ va_D A ws ∧ va_S A s.heap H locs
def CN (l : Launch) (y : MethodName) (ws : List Cond) (rm : Room) (g : Gx) (o : va_E) (k : Gx → va_W) (mc ms : Nat) : Prop := ∀ h0 sz : Nat, Met l y ws rm (va_Pc [.ref h0] (PK g h0 sz o)) (va_Qv (fun ad : Nat → Nat => ad 0 = h0) (fun ad t => va_P g.1 vwCl (k (g.1, g.2.1, ad)) t.heap ∧ va_D (Ak h0 sz) (k (g.1, g.2.1, ad))) (Ak h0 sz)) mc ms (Ak h0 sz)
theorem CN_start {l : Launch} {y : MethodName} {cc : ByteArray} {own : String} {rm : Room} {g : Gx} {o : va_E} {k : Gx → va_W} {mc ms : Nat} (hy : plainName y.cls = true) (ho : y.cls = own) (hy1 : y.name = "<init>")
    (body : ∀ {p : Program} {e : Env} {s : State} {m : MethodId} {args : Array Value} {below : List Frame} {meth : Method} {c : Code} {ls : Array Slot} {h0 : Nat}, CK p s m meth c args cc own g → (∀ q, s.heap.size ≤ q → Ak h0 s.heap.size q) → ZK g (Ak h0 s.heap.size) s s.heap [] [(h0, o)] → lv_has ls 1 [(0, .ref h0)] → W p l e rm s m args below meth c s.heap [] 0 0 (MQ below (va_Qv (fun ad : Nat → Nat => ad 0 = h0) (fun ad t => va_P g.1 vwCl (k (g.1, g.2.1, ad)) t.heap ∧ va_D (Ak h0 s.heap.size) (k (g.1, g.2.1, ad))) (Ak h0 s.heap.size)) args s mc ms (Ak h0 s.heap.size)) (F0 m 0 ls [])) :
    CN l y (wsY y cc 1 none) rm g o k mc ms := by
  subst ho
  intro h0 sz
  refine Met.ofW (cc := cc) (maxL := 1) (ret := none) hy rfl ?_
  intro p e s m args below meth c s₁ B hml hv
  obtain ⟨rfl, hsz, hP, hF, hAO⟩ := hv
  subst hsz
  have hts := atoms_spec (ws := wsY y cc 1 none) B.pre
  rw [lg_entry_eq]
  have hD : va_D (Ak h0 s.heap.size) [(h0, o)] := ⟨fun i j p q hi hj _ => by
    have h1 : i < 1 := (List.getElem?_eq_some_iff.mp hi).1
    have h2 : j < 1 := (List.getElem?_eq_some_iff.mp hj).1
    omega, fun k q hk => by
    have h1 : k < 1 := (List.getElem?_eq_some_iff.mp hk).1
    rw [show k = 0 by omega] at hk
    cases hk
    exact Or.inl rfl⟩
  exact body ⟨B.exec, B.bytes, hml, findClass_of_methodNamed B.named, fun x hx => hts x (List.mem_cons_of_mem _ hx), B.returns, B.notSynchronized, hF, hAO, (name_of_methodNamed B.named B.method).1.trans hy1⟩ (fun q h => Or.inr h) ⟨hP, hD, va_S.rf⟩ (lv_entry [.ref h0] (n := 1) (Nat.le_of_ble_eq_true rfl))
section CROWS
variable {p : Program} {l : Launch} {e : Env} {R : Room} {s : State} {m : MethodId} {args : Array Value} {below : List Frame} {meth : Method} {c : Code} {H : Heap} {locs : List Loc} {Q : State → Prop} {cc : ByteArray} {own : String} {g : Gx} {ls : Array Slot} {rest : List Value} {pc idx cells slots : Nat} {A : Nat → Prop} {ws : va_W} {h0 : Nat} {o : va_E}
theorem k_obj (C : CK p s m meth c args cc own g) (hl : Cond.methodLink own idx objectInit ∈ wsA) (hw : Cond.instanceMethod objectInit ∈ wsA ∧ Cond.code objectInit ⟨#[0xb1]⟩ 1 none ∈ wsA) (hsz : ls.size = 1) (hdg : decode cc pc = .ok (.invokespecial idx, 3)) (hf : 1 ≤ R.frames) (hlo : (rest.map fun v => v.category).sum + 12 ≤ R.locals) {a : Nat}
    (kk : W p l e R s m args below meth c H locs cells slots Q (F0 m (pc + 3) ls rest)) : W p l e R s m args below meth c H locs cells slots Q (F0 m pc ls (.ref a :: rest)) := by
  refine W.objInit C.1 C.2.1 C.2.2.2.1 (C.2.2.2.2.1 _ hl) (C.2.2.2.2.1 _ hw.1) (C.2.2.2.2.1 _ hw.2) rfl (hsz.trans C.2.2.1.symm) rfl hdg hf (by show 2 * 0 + _ + 12 ≤ _; omega) kk
theorem ids_eq {g : Gx} {s : State} {cA : ClassId} {ty : FieldType} {k : Nat} {c0 : ClassId} (hK : va_K g.1 vwCl (tyX g) s) (h0 : (tyX g)[k]? = some (c0, ty)) (h : va_RA s cA ty) (hp : ∀ C, ty ≠ .object C) : cA = c0 := by
  have h1 := (hK.2 k _ h0).2
  cases ty with
  | object C => exact absurd rfl (hp C)
  | _ => exact Option.some.inj ((show s.vm.findClass _ = some cA from h).symm.trans (show s.vm.findClass _ = some c0 from h1))
theorem ids_eqo {g : Gx} {s : State} {cA : ClassId} {C : String} {k : Nat} {c0 : ClassId} (hK : va_K g.1 vwCl (tyX g) s) (h0 : (tyX g)[k]? = some (c0, .object C)) (h : va_RA s cA (.object C)) : cA = c0 := by
  obtain ⟨_, _, _, _, _, h1⟩ := h
  obtain ⟨_, _, _, _, _, h2⟩ := (hK.2 k _ h0).2
  exact Option.some.inj (h1.symm.trans h2)
theorem k_newi (C : CK p s m meth c args cc own g) (hA : ∀ q, s.heap.size ≤ q → A q) (Z : ZK g A s H locs ws) (harr : Cond.arrayClass .int ∈ wsA) {n : Int32} {N : Nat} (hn : ¬ n < 0) (hN : n.toNatClampNeg = N) (hb : N * 4 ≤ 536870912) (hc : cells + 1 ≤ R.cells) (hs : slots + N ≤ R.slots) (hdg : decode cc pc = .ok (.newarray .int, 2))
    (kk : ∀ (q : Nat) (H1 : Heap), ZK g A s H1 locs (ws ++ [(q, .inl (g.2.1.1, N, .inl (fun _ => 0)))]) → W p l e R s m args below meth c H1 locs (cells + 1) (slots + N) Q (F0 m (pc + 2) ls (.ref q :: rest))) : W p l e R s m args below meth c H locs cells slots Q (F0 m pc ls (.int n :: rest)) := by
  refine va_newa (atype := .int) (ty := .int) (a0 := (N, .inl (fun _ => 0))) C.1 C.2.1 (C.2.2.2.2.1 _ harr) rfl C.2.2.2.2.2.2.2.1.1 Z.1 Z.2.1 Z.2.2 hA (fun cA => rfl) hn hN hb hc hs hdg (fun q cA H1 hK hP hD hS => ?_)
  have e1 : cA = g.2.1.1 := ids_eq (k := 0) C.2.2.2.2.2.2.2.1.1 rfl (hK.2 4 _ rfl).2 (fun _ h => by cases h)
  subst e1
  exact kk q H1 ⟨hP, hD, hS⟩
theorem k_newz (C : CK p s m meth c args cc own g) (hA : ∀ q, s.heap.size ≤ q → A q) (Z : ZK g A s H locs ws) (harr : Cond.arrayClass .boolean ∈ wsA) {n : Int32} {N : Nat} (hn : ¬ n < 0) (hN : n.toNatClampNeg = N) (hb : N * 1 ≤ 536870912) (hc : cells + 1 ≤ R.cells) (hs : slots + N ≤ R.slots) (hdg : decode cc pc = .ok (.newarray .boolean, 2))
    (kk : ∀ (q : Nat) (H1 : Heap), ZK g A s H1 locs (ws ++ [(q, .inl (g.2.1.2.2.2, N, .inl (fun _ => 0)))]) → W p l e R s m args below meth c H1 locs (cells + 1) (slots + N) Q (F0 m (pc + 2) ls (.ref q :: rest))) : W p l e R s m args below meth c H locs cells slots Q (F0 m pc ls (.int n :: rest)) := by
  refine va_newa (atype := .boolean) (ty := .boolean) (a0 := (N, .inl (fun _ => 0))) C.1 C.2.1 (C.2.2.2.2.1 _ harr) rfl C.2.2.2.2.2.2.2.1.1 Z.1 Z.2.1 Z.2.2 hA (fun cA => rfl) hn hN hb hc hs hdg (fun q cA H1 hK hP hD hS => ?_)
  have e1 : cA = g.2.1.2.2.2 := ids_eq (k := 3) C.2.2.2.2.2.2.2.1.1 rfl (hK.2 4 _ rfl).2 (fun _ h => by cases h)
  subst e1
  exact kk q H1 ⟨hP, hD, hS⟩
theorem k_newq (C : CK p s m meth c args cc own g) (hA : ∀ q, s.heap.size ≤ q → A q) (Z : ZK g A s H locs ws) (hcl : Cond.classLink own idx "AskedCocks$Present" ∈ wsA) {n : Int32} {N : Nat} (hn : ¬ n < 0) (hN : n.toNatClampNeg = N) (hb : N * 4 ≤ 536870912) (hc : cells + 1 ≤ R.cells) (hs : slots + N ≤ R.slots) (hdg : decode cc pc = .ok (.anewarray idx, 3))
    (kk : ∀ (q : Nat) (H1 : Heap), ZK g A s H1 locs (ws ++ [(q, .inl (g.2.1.2.2.1, N, .inr (.inr (.inr (.inr (fun _ => none))))))]) → W p l e R s m args below meth c H1 locs (cells + 1) (slots + N) Q (F0 m (pc + 3) ls (.ref q :: rest))) : W p l e R s m args below meth c H locs cells slots Q (F0 m pc ls (.int n :: rest)) := by
  refine va_newq C.1 C.2.1 C.2.2.2.1 (C.2.2.2.2.1 _ hcl) C.2.2.2.2.2.2.2.2.1.2 C.2.2.2.2.2.2.2.1.1 Z.1 Z.2.1 Z.2.2 hA hn hN hb hc hs hdg (fun q cA H1 hK hP hD hS => ?_)
  have e1 : cA = g.2.1.2.2.1 := ids_eqo (k := 2) C.2.2.2.2.2.2.2.1.1 rfl (hK.2 4 _ rfl).2
  subst e1
  exact kk q H1 ⟨hP, hD, hS⟩
theorem k_new (C : CK p s m meth c args cc own g) (hA : ∀ q, s.heap.size ≤ q → A q) (Z : ZK g A s H locs ws) {Cn : String} {T : u_T} {N ci : Nat} (hin : ∀ x ∈ u_ws Cn T N, x ∈ wsA) (ty : Nat → FieldType) (hty : ∀ k, k < N → parseFieldDescriptor (T k).2.2.1 = some (ty k)) (hw : Cond.classLink own idx Cn ∈ wsA ∧ Cond.instantiable Cn N ∈ wsA ∧ Cond.initialized Cn ∈ wsA) (hc : vwCl[ci]? = some (Cn, T, N)) {fs : List Value} (hfs : ∀ j, j < N → defaultValue (ty j) = vp_V fs j) (hcells : cells + 1 ≤ R.cells) (hslots : slots + N ≤ R.slots) (hdg : decode cc pc = .ok (.new idx, 3))
    (kk : ∀ (q : Nat) (H1 : Heap), ZK g A s H1 locs (ws ++ [(q, .inr (ci, fs))]) → W p l e R s m args below meth c H1 locs (cells + 1) (slots + N) Q (F0 m (pc + 3) ls (.ref q :: rest))) : W p l e R s m args below meth c H locs cells slots Q (F0 m pc ls rest) :=
  va_new C.1 C.2.1 C.2.2.2.2.1 hin ty hty C.2.2.2.1 (C.2.2.2.2.1 _ hw.1) (C.2.2.2.2.1 _ hw.2.1) (C.2.2.2.2.1 _ hw.2.2) C.2.2.2.2.2.2.2.1.1 Z.1 Z.2.1 Z.2.2 hA hc hfs hcells hslots hdg (fun q H1 hP hD hS => kk q H1 ⟨hP, hD, hS⟩)
def rowsK (g : Gx) (N K : Nat) (r : Nat → Nat) : va_W := (List.range N).map fun i => (r i, .inl (g.2.1.1, K, .inl (fun _ => 0)))
theorem k_mna (C : CK p s m meth c args cc own g) (hA : ∀ q, s.heap.size ≤ q → A q) (Z : ZK g A s H locs ws) (hw : Cond.classLink own idx "[[I" ∈ wsA ∧ Cond.arrayClass .int ∈ wsA) {n k : Int32} {N K : Nat} (hn : ¬ n < 0) (hk : ¬ k < 0) (hN : n.toNatClampNeg = N) (hM : k.toNatClampNeg = K) (hb1 : N * 4 ≤ 536870912) (hb2 : K * 4 ≤ 536870912) (hcells : cells + (1 + N) ≤ R.cells) (hslots : slots + (N + N * K) ≤ R.slots) (hdg : decode cc pc = .ok (.multianewarray idx 2, 4))
    (kk : ∀ (q : Nat) (r : Nat → Nat) (H1 : Heap), ZK g A s H1 locs (ws ++ ((q, .inl (g.2.1.2.1, N, .inr (.inr (.inr (.inr (fun i => some (r i))))))) :: rowsK g N K r)) → W p l e R s m args below meth c H1 locs (cells + 1 + N) (slots + N + N * K) Q (F0 m (pc + 4) ls (.ref q :: rest))) : W p l e R s m args below meth c H locs cells slots Q (F0 m pc ls (.int k :: .int n :: rest)) := by
  have hcy : s.vm.findClass (FieldType.array .int).toString = some g.2.1.1 := (C.2.2.2.2.2.2.2.1.1.2 0 _ rfl).2
  refine va_mna (X := ws) (L := []) (f := fun _ => .inr (0, [])) (ty := .int) (z := (K, .inl (fun _ => 0))) C.1 C.2.1 C.2.2.2.1 (C.2.2.2.2.1 _ hw.1) C.2.2.2.2.2.2.2.2.1.1 (C.2.2.2.2.1 _ hw.2) hcy C.2.2.2.2.2.2.2.1.1 (by rw [show va_pl ([] : List Nat) (fun _ => (.inr (0, []) : va_E)) = [] from rfl, List.append_nil]; exact Z.1) (by rw [show va_pl ([] : List Nat) (fun _ => (.inr (0, []) : va_E)) = [] from rfl, List.append_nil]; exact Z.2.1) Z.2.2 hA hn hk hN hM hb1 hb2 (by omega) rfl rfl hcells hslots (fun c => by rw [vp_cell_i, ← arrV_new]; rfl) hdg (fun q r cA H1 _ _ hK hP hD hS => ?_)
  have e1 : cA = g.2.1.2.1 := ids_eq (k := 1) C.2.2.2.2.2.2.2.1.1 rfl (hK.2 4 _ rfl).2 (fun _ h => by cases h)
  subst e1
  have e2 : va_pl ([] ++ (List.range N).map r) (vr_up (fun _ => (.inr (0, []) : va_E)) ((List.range N).map r) (.inl (g.2.1.1, (K, .inl (fun _ => 0))))) = rowsK g N K r := by
    unfold va_pl rowsK
    rw [List.nil_append, List.map_map]
    apply List.map_congr_left
    intro i hi
    show (r i, _) = (r i, _)
    rw [vr_up_in (List.mem_map.mpr ⟨i, hi, rfl⟩)]
  rw [e2] at hP hD
  have e3 : ∀ (D : va_G) (H1 : Heap), va_P D vwCl ((ws ++ [(q, .inl (g.2.1.2.1, N, .inr (.inr (.inr (.inr (fun i => if i < N then some (r i) else none))))))]) ++ rowsK g N K r) H1 → va_P D vwCl ((ws ++ [(q, .inl (g.2.1.2.1, N, .inr (.inr (.inr (.inr (fun i => some (r i)))))))]) ++ rowsK g N K r) H1 := by
    intro D H1 h k e hk
    by_cases h1 : k < (ws ++ [((q, .inl (g.2.1.2.1, N, .inr (.inr (.inr (.inr (fun i => some (r i))))))) : Nat × va_E)]).length
    · rw [List.getElem?_append_left h1] at hk
      have h1' : k < (ws ++ [((q, .inl (g.2.1.2.1, N, .inr (.inr (.inr (.inr (fun i => if i < N then some (r i) else none)))))) : Nat × va_E)]).length := by simpa using h1
      have h2 := h k
      rw [List.getElem?_append_left h1'] at h2
      by_cases h3 : k < ws.length
      · rw [List.getElem?_append_left h3] at hk h2
        exact h2 e hk
      · have h4 : k = ws.length := by simp at h1; omega
        subst h4
        rw [List.getElem?_append_right (Nat.le_refl _), Nat.sub_self] at hk h2
        cases hk
        have h5 := h2 _ rfl
        have h6 : H1[q]? = some (vp_cell g.2.1.2.1 (N, .inr (.inr (.inr (.inr (fun i => if i < N then some (r i) else none)))))) := h5
        show H1[q]? = some (vp_cell g.2.1.2.1 (N, .inr (.inr (.inr (.inr (fun i => some (r i)))))))
        rw [h6, vp_cell_q, vp_cell_q]
        exact congrArg some (arrV_congr (fun j hj => by rw [if_pos hj]))
    · rw [List.getElem?_append_right (Nat.not_lt.mp h1)] at hk
      have h2 := h k
      rw [List.getElem?_append_right (by simpa using Nat.not_lt.mp h1)] at h2
      refine h2 e ?_
      simpa using hk
  have e4 : va_D A ((ws ++ [(q, .inl (g.2.1.2.1, N, .inr (.inr (.inr (.inr (fun i => some (r i)))))))]) ++ rowsK g N K r) := by
    have key : ∀ (k : Nat) (x : Nat × va_E), ((ws ++ [((q, .inl (g.2.1.2.1, N, .inr (.inr (.inr (.inr (fun i => some (r i))))))) : Nat × va_E)]) ++ rowsK g N K r)[k]? = some x → ∃ y : Nat × va_E, ((ws ++ [((q, .inl (g.2.1.2.1, N, .inr (.inr (.inr (.inr (fun i => if i < N then some (r i) else none)))))) : Nat × va_E)]) ++ rowsK g N K r)[k]? = some y ∧ y.1 = x.1 := by
      intro k x hx
      have hm : (((ws ++ [((q, .inl (g.2.1.2.1, N, .inr (.inr (.inr (.inr (fun i => some (r i))))))) : Nat × va_E)]) ++ rowsK g N K r).map (fun z => z.1)) = (((ws ++ [((q, .inl (g.2.1.2.1, N, .inr (.inr (.inr (.inr (fun i => if i < N then some (r i) else none)))))) : Nat × va_E)]) ++ rowsK g N K r).map (fun z => z.1)) := by simp
      have h1 := congrArg (fun l => l[k]?) hm
      simp only [List.getElem?_map, hx] at h1
      cases h2 : ((ws ++ [((q, .inl (g.2.1.2.1, N, .inr (.inr (.inr (.inr (fun i => if i < N then some (r i) else none)))))) : Nat × va_E)]) ++ rowsK g N K r)[k]? with
      | none => rw [h2] at h1; cases h1
      | some y => rw [h2] at h1; exact ⟨y, rfl, (Option.some.inj h1).symm⟩
    refine ⟨fun i j x y hi hj hxy => ?_, fun k x hx => ?_⟩
    · obtain ⟨x', a1, a2⟩ := key i x hi
      obtain ⟨y', b1, b2⟩ := key j y hj
      exact hD.1 i j x' y' a1 b1 (by rw [a2, b2]; exact hxy)
    · obtain ⟨x', a1, a2⟩ := key k x hx
      rw [← a2]; exact hD.2 k x' a1
  refine kk q r H1 ⟨?_, ?_, hS⟩
  · have h9 := e3 _ _ hP
    rw [List.append_assoc] at h9
    exact h9
  · rw [List.append_assoc] at e4
    exact e4
theorem k_putF {Cn : String} {T : u_T} {N ci k : Nat} {fs fs' : List Value} (C : CK p s m meth c args cc own g) (Z : ZK g A s H locs ((h0, .inr (ci, fs)) :: ws)) (hin : ∀ x ∈ u_ws Cn T N, x ∈ wsA) (ty0 : Nat → FieldType) (hty : ∀ k, k < N → parseFieldDescriptor (T k).2.2.1 = some (ty0 k)) (hnm : ∀ a, a < N → ∀ b, b < N → a ≠ b → (T a).2.1 ≠ (T b).2.1) (hc : vwCl[ci]? = some (Cn, T, N)) (hk : k < N) (hl : Cond.fieldLink own idx (T k).1 (T k).2.1 (T k).2.2.1 ∈ wsA) (hfin : (T k).2.2.2 = true) (hdecl : (T k).1 = own) {ty : FieldType} {v : Value} (hd : parseFieldDescriptor (T k).2.2.1 = some ty) (hn : narrow ty v = v) (hfit : fits ty v = true) (hlen : k < fs.length) (hset : fs.set k v = fs') (hdg : decode cc pc = .ok (.putfield idx, 3))
    (kk : ∀ (H1 : Heap) (locs1 : List Loc), ZK g A s H1 locs1 ((h0, .inr (ci, fs')) :: ws) → W p l e R s m args below meth c H1 locs1 cells slots Q (F0 m (pc + 3) ls rest)) : W p l e R s m args below meth c H locs cells slots Q (F0 m pc ls (v :: .ref h0 :: rest)) := by
  subst hset
  exact va_putF C.1 C.2.1 C.2.2.2.2.1 hin ty0 hty hnm C.2.2.2.1 C.2.2.2.2.2.2.2.1.1 Z.1 Z.2.1 Z.2.2 0 rfl hc k hk (C.2.2.2.2.1 _ hl) (fun _ z => z) hfin C.2.2.2.2.2.2.2.2.2 hdecl hd hn hfit hlen hdg (fun H1 locs1 hP hD hS => kk H1 locs1 ⟨hP, hD, hS⟩)
theorem k_astq (C : CK p s m meth c args cc own g) (Z : ZK g A s H locs ws) (q0 qk : Nat) {a v N : Nat} {vs : List Value} {f : Nat → Option Nat} (ha : ws[q0]? = some (a, .inl (g.2.1.2.2.1, N, .inr (.inr (.inr (.inr f)))))) (hv : ws[qk]? = some (v, .inr (3, vs))) {i : Int32} {k : Nat} (hin : vp_in i N) (hk : i.toNatClampNeg = k) {ws' : va_W} (hset : ws.set q0 (a, .inl (g.2.1.2.2.1, N, .inr (.inr (.inr (.inr (va_up f k (some v))))))) = ws') (hdg : decode cc pc = .ok (.aastore, 1))
    (kk : ∀ (H1 : Heap) (locs1 : List Loc), ZK g A s H1 locs1 ws' → W p l e R s m args below meth c H1 locs1 cells slots Q (F0 m (pc + 1) ls rest)) : W p l e R s m args below meth c H locs cells slots Q (F0 m pc ls (.ref v :: .int i :: .ref a :: rest)) := by
  subst hset
  subst hk
  exact va_astq C.1 C.2.1 C.2.2.2.2.2.2.2.1.1 Z.1 Z.2.1 Z.2.2 q0 2 qk 3 (r := (RX3, TX3, 8)) ha rfl hv rfl hin hdg (fun H1 locs1 hP hD hS => kk H1 locs1 ⟨hP, hD, hS⟩)
/-- a row of addresses said otherwise, alike within its length -/
theorem zk_row (Z : ZK g A s H locs ws) (k : Nat) {q N : Nat} {cA : ClassId} {f f' : Nat → Option Nat} (ha : ws[k]? = some (q, .inl (cA, N, .inr (.inr (.inr (.inr f)))))) (hf : ∀ i, i < N → f i = f' i) {ws' : va_W} (hset : ws.set k (q, .inl (cA, N, .inr (.inr (.inr (.inr f'))))) = ws') : ZK g A s H locs ws' := by
  subst hset
  refine ⟨fun j e hj => ?_, Z.2.1.set ha, Z.2.2⟩
  rw [List.getElem?_set] at hj
  by_cases h : k = j
  · rw [if_pos h] at hj
    have hl := (List.getElem?_eq_some_iff.mp ha).1
    rw [if_pos hl] at hj
    cases hj
    have h5 : H[q]? = some (vp_cell cA (N, .inr (.inr (.inr (.inr f))))) := Z.1 k _ ha
    show H[q]? = some (vp_cell cA (N, .inr (.inr (.inr (.inr f')))))
    rw [h5, vp_cell_q, vp_cell_q]
    exact congrArg some (arrV_congr (fun i hi => by rw [hf i hi]))
  · rw [if_neg h] at hj
    exact Z.1 j e hj
def Eqv (x y : Nat × va_E) : Prop := x = y ∨ ∃ (q : Nat) (cA : ClassId) (N : Nat) (f f' : Nat → Option Nat), x = (q, .inl (cA, N, .inr (.inr (.inr (.inr f))))) ∧ y = (q, .inl (cA, N, .inr (.inr (.inr (.inr f'))))) ∧ ∀ i, i < N → f i = f' i
def Eqvs : va_W → va_W → Prop
  | [], [] => True
  | x :: xs, y :: ys => Eqv x y ∧ Eqvs xs ys
  | _, _ => False
theorem eqv_n : Eqvs [] [] := trivial
theorem eqv_c {x y : Nat × va_E} {xs ys : va_W} (h : x = y) (t : Eqvs xs ys) : Eqvs (x :: xs) (y :: ys) := ⟨Or.inl h, t⟩
theorem eqv_f {q N : Nat} {cA : ClassId} {f f' : Nat → Option Nat} {xs ys : va_W} (h : ∀ i, i < N → f i = f' i) (t : Eqvs xs ys) : Eqvs ((q, .inl (cA, N, .inr (.inr (.inr (.inr f))))) :: xs) ((q, .inl (cA, N, .inr (.inr (.inr (.inr f'))))) :: ys) := ⟨Or.inr ⟨q, cA, N, f, f', rfl, rfl, h⟩, t⟩
theorem eqvs_at : ∀ {xs ys : va_W}, Eqvs xs ys → ∀ (k : Nat) (y : Nat × va_E), ys[k]? = some y → ∃ x, xs[k]? = some x ∧ Eqv x y
  | [], [], _, k, y, h => by simp at h
  | x :: xs, z :: ys, hh, 0, y, h => by
    rw [List.getElem?_cons_zero] at h
    cases h
    exact ⟨x, rfl, hh.1⟩
  | x :: xs, z :: ys, hh, k + 1, y, h => by
    rw [List.getElem?_cons_succ] at h ⊢
    exact eqvs_at hh.2 k y h
  | [], _ :: _, hh, _, _, _ => hh.elim
  | _ :: _, [], hh, _, _, _ => hh.elim
theorem zk_conv {ws' : va_W} (Z : ZK g A s H locs ws) (h : Eqvs ws ws') : ZK g A s H locs ws' := by
  refine ⟨fun k y hk => ?_, ⟨fun i j x y hi hj e => ?_, fun k y hk => ?_⟩, Z.2.2⟩
  · obtain ⟨x, hx, rfl | ⟨q, cA, N, f, f', rfl, rfl, hf⟩⟩ := eqvs_at h k y hk
    · exact Z.1 k x hx
    · have h5 : H[q]? = some (vp_cell cA (N, .inr (.inr (.inr (.inr f))))) := Z.1 k _ hx
      show H[q]? = some (vp_cell cA (N, .inr (.inr (.inr (.inr f')))))
      rw [h5, vp_cell_q, vp_cell_q]
      exact congrArg some (arrV_congr (fun i hi => by rw [hf i hi]))
  · have key : ∀ (k : Nat) (y : Nat × va_E), ws'[k]? = some y → ∃ x, ws[k]? = some x ∧ x.1 = y.1 := by
      intro k y hk
      obtain ⟨x, hx, rfl | ⟨q, cA, N, f, f', rfl, rfl, hf⟩⟩ := eqvs_at h k y hk
      · exact ⟨_, hx, rfl⟩
      · exact ⟨_, hx, rfl⟩
    obtain ⟨x', a1, a2⟩ := key i x hi
    obtain ⟨y', b1, b2⟩ := key j y hj
    exact Z.2.1.1 i j x' y' a1 b1 (by rw [a2, b2]; exact e)
  · obtain ⟨x, hx, rfl | ⟨q, cA, N, f, f', rfl, rfl, hf⟩⟩ := eqvs_at h k y hk
    · exact Z.2.1.2 k _ hx
    · exact (Z.2.1.2 k _ hx : A (q, (.inl (cA, N, .inr (.inr (.inr (.inr f)))) : va_E)).1)
def MFi (y : MethodName) (bytes : ByteArray) (maxL : Nat) : Prop := Cond.code y bytes maxL none ∈ wsA ∧ Cond.instanceMethod y ∈ wsA ∧ Cond.initialized y.cls ∈ wsA ∧ (y.cls ≠ "java/lang/invoke/MethodHandle" ∧ y.cls ≠ "java/lang/invoke/VarHandle") ∧ (parseMethodDescriptor y.desc).map (fun d => d.parameters.length) = some 0 ∧ y.name = "<init>"
theorem pk_blind {As : List Value} {h0 sz : Nat} : FrameBlind (va_Pc As (PK g h0 sz o)) := by
  intro a U gg mk q
  obtain ⟨h1, h2, h3, h4, h5⟩ := q
  exact ⟨h1, h2, h3, h4.same rfl, h5.warm (Vm.Alike.refl U.vm)⟩
/-- what a constructor leaves beside the cells that were there -/
theorem k_join {pre post : va_W} {q : Nat} {H1 : Heap} (hA : ∀ q, s.heap.size ≤ q → A q) (Z : ZK g A s H locs (pre ++ [(q, o)])) (hP1 : va_P g.1 vwCl post H1) (hD1 : va_D (Ak q H.size) post) (hk : ∀ x : Nat, x < H.size → ¬ Ak q H.size x → H1[x]? = H[x]?) : va_P g.1 vwCl (pre ++ post) H1 ∧ va_D A (pre ++ post) := by
  have hpre : ∀ (k : Nat) (x : Nat × va_E), pre[k]? = some x → (pre ++ [(q, o)])[k]? = some x := fun k x hx => by
    rw [List.getElem?_append_left (List.getElem?_eq_some_iff.mp hx).1]; exact hx
  have hlast : (pre ++ [(q, o)])[pre.length]? = some (q, o) := by
    rw [List.getElem?_append_right (Nat.le_refl _), Nat.sub_self]; rfl
  have apart : ∀ (k : Nat) (x : Nat × va_E), pre[k]? = some x → x.1 < H.size ∧ ¬ Ak q H.size x.1 := by
    intro k x hx
    have hl := (Z.1 k x (hpre k x hx)).lt
    refine ⟨hl, ?_⟩
    rintro (h | h)
    · have := Z.2.1.1 k pre.length x (q, o) (hpre k x hx) hlast h
      have := (List.getElem?_eq_some_iff.mp hx).1
      omega
    · omega
  have hq : A q := Z.2.1.2 pre.length _ hlast
  have hsz : s.heap.size ≤ H.size := Z.2.2.1
  refine ⟨va_P.app (fun k x hx => ?_) hP1, va_D.app ⟨fun i j x y hi hj e => Z.2.1.1 i j x y (hpre i x hi) (hpre j y hj) e, fun k x hx => Z.2.1.2 k x (hpre k x hx)⟩ (hD1.weaken (fun k x _ h => h.elim (fun e => e ▸ hq) (fun h => hA _ (Nat.le_trans hsz h)))) (fun i j x y hx hy e => ?_)⟩
  · obtain ⟨h1, h2⟩ := apart k x hx
    exact (Z.1 k x (hpre k x hx)).kept (hk x.1 h1 h2)
  · exact (apart i x hx).2 (by rw [e]; exact hD1.2 j y hy)
theorem k_call {pre : va_W} {q : Nat} {y : MethodName} {bytes : ByteArray} {maxL mc ms : Nat} {rm : Room} {k : Gx → va_W} (C : CK p s m meth c args cc own g) (hA : ∀ q, s.heap.size ≤ q → A q) (Z : ZK g A s H locs (pre ++ [(q, o)])) (hM : CN l y (wsY y bytes maxL none) rm g o k mc ms) (hm : MFi y bytes maxL) (hlk : (Cond.methodLink own idx y ∈ wsA) ∨ ∃ host, Cond.methodLinkNest own idx y host ∈ nestW) (hrm : rm.cells = mc ∧ rm.slots = ms ∧ rm.frames + 1 ≤ R.frames ∧ 8 + (maxL + 11) + rm.locals ≤ R.locals) (hf : cells + mc ≤ R.cells ∧ slots + ms ≤ R.slots) (hsz : ls.size = 1) (hw : (rest.map fun v => v.category).sum ≤ 8) (hdg : decode cc pc = .ok (.invokespecial idx, 3))
    (kk : ∀ (ad : Nat → Nat) (H1 : Heap) (locs1 : List Loc), ad 0 = q → ZK g A s H1 locs1 (pre ++ k (g.1, g.2.1, ad)) → W p l e R s m args below meth c H1 locs1 (cells + mc) (slots + ms) Q (F0 m (pc + 3) ls rest)) : W p l e R s m args below meth c H locs cells slots Q (F0 m pc ls (.ref q :: rest)) := by
  have S : CallFix p m c cc 1 s args wsA own := ⟨C.1, C.2.1, C.2.2.1, C.2.2.2.1, C.2.2.2.2.1⟩
  have hts := C.2.2.2.2.1
  have hW : 2 * (F0 m pc ls (.ref q :: rest)).monitorRoom + (rest.map fun v => v.category).sum ≤ 8 := lv_room hw
  have hcc : Cond.code y bytes maxL none ∈ wsY y bytes maxL none := List.mem_cons_self
  have hlast : (pre ++ [(q, o)])[pre.length]? = some (q, o) := by
    rw [List.getElem?_append_right (Nat.le_refl _), Nat.sub_self]; rfl
  have hpre : PreS s H (va_Pc [.ref q] (PK g q H.size o)) [.ref q] := ⟨pk_blind, fun U hU hWm => by
    subst hU
    refine ⟨rfl, rfl, fun k x hk => ?_, C.2.2.2.2.2.2.2.1.warm hWm, C.2.2.2.2.2.2.2.2.1.warm hWm.alike⟩
    have h1 : k < 1 := (List.getElem?_eq_some_iff.mp hk).1
    rw [show k = 0 by omega] at hk
    cases hk
    exact Z.1 _ _ hlast⟩
  have hfree : ∀ x, Ak q H.size x → A x := fun x h => h.elim (fun e => e ▸ Z.2.1.2 _ _ hlast) (fun h => hA _ (Nat.le_trans Z.2.2.1 h))
  have hrun : va_Run p l e R s m args below meth c H locs cells slots mc ms (F0 m pc ls (.ref q :: rest)) rest (va_Qv (fun ad : Nat → Nat => ad 0 = q) (fun ad t => va_P g.1 vwCl (k (g.1, g.2.1, ad)) t.heap ∧ va_D (Ak q H.size) (k (g.1, g.2.1, ad))) (Ak q H.size) (Value.ref q :: []).toArray) (Ak q H.size) := by
    rcases hlk with h | ⟨host, h⟩
    · exact va_runI (As := []) S (hM q H.size) ⟨⟨hrm.1, hrm.2.1, hrm.2.2.1, hrm.2.2.2, pay_in hts (goodY hm.1), hcc, hts _ hm.1, hts _ hm.2.2.1, hm.2.2.2.1, parsed hm.2.2.2.2.1, hts _ h⟩, hm.2.2.2.2.2, hts _ hm.2.1⟩ hpre rfl rfl hsz rfl hW hdg hf
    · exact va_runIN (As := []) S (hM q H.size) ⟨⟨⟨hrm.1, hrm.2.1, hrm.2.2.1, hrm.2.2.2, pay_in hts (goodY hm.1), hcc⟩, hts _ hm.1, hts _ hm.2.2.1, hm.2.2.2.1, parsed hm.2.2.2.2.1, va_Nw.use rfl (C.2.2.2.2.2.2.2.1.2 _ h)⟩, hm.2.2.2.2.2, hts _ hm.2.1⟩ hpre rfl rfl hsz rfl hW hdg hf
  refine va_callv hrun Z.2.2 (fun x _ h => hfree x h) hfree (fun ad t H1 locs1 ht _ hp hB _ hk1 hS => ?_)
  obtain ⟨hP1, hD1⟩ := hB
  rw [ht] at hP1
  obtain ⟨hP2, hD2⟩ := k_join hA Z hP1 hD1 hk1
  exact kk ad H1 locs1 hp ⟨hP2, hD2, hS⟩
theorem k_ret {mc ms : Nat} {k : Gx → va_W} {ws : va_W} (C : CK p s m meth c args cc own g) (Z : ZK g (Ak h0 s.heap.size) s H locs ws) (ad : Nat → Nat) (h : ad 0 = h0) (hw : ws = k (g.1, g.2.1, ad)) (hdg : decode cc pc = .ok (.return_, 1)) : W p l e R s m args below meth c H locs mc ms (MQ below (va_Qv (fun ad : Nat → Nat => ad 0 = h0) (fun ad t => va_P g.1 vwCl (k (g.1, g.2.1, ad)) t.heap ∧ va_D (Ak h0 s.heap.size) (k (g.1, g.2.1, ad))) (Ak h0 s.heap.size)) args s mc ms (Ak h0 s.heap.size)) (F0 m pc ls []) := by
  have hlocks := C.2.2.2.2.2.2.1
  subst hw
  exact W.vret C.1 C.2.1 C.2.2.2.2.2.1 (fun t ht _ => ⟨⟨ad, rfl, h, by rw [ht]; exact Z.1, Z.2.1⟩, Z.2.2.F ht⟩) Z.2.2.2.2 hdg
end CROWS
