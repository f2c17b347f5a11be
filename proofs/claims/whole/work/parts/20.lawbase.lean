/-! THE CLAIM OUT OF ONE WALK OF THE LAW'S BODY. Your part is whole_start (and what it stands on); all else here is the same for every law, but numbers. -/
def R_law : String := "AskedCocksLaw"
def lw_P (b : Addr) (xs : List Int32) (args : Array Value) (s : State) : Prop := args = #[.ref b] ∧ s.IntsAt b xs ∧ xs.length ≤ 448 ∧ (Jvm.Cond.and given_1 narrow_1).before args s = true
def lw_Q (_ : Array Value) (s : State) (o : Outcome) (t : State) : Prop := o = .returned (some (.int 1)) ∧ Framed s o t [] 600000 7302250
def lw_Z (below : List Frame) (a : Array Value) (s : State) : State → Prop := fun t => ∃ o, t.status = .running ∧ Ended t below o ∧ lw_Q a s o t
/-- the law's own end, with 1 on the stack, nothing written that was there before, its room as the claim has it -/
theorem lw_ret {p : Program} {l : Launch} {e : Env} {s : State} {m : MethodId} {below : List Frame} {meth : Method} {c : Code} {b : Nat} (hx : p.tables.exec = Jvm.exec) (hb : c.code = code) (hr : meth.sig.returnType = ret) (hlocks : meth.locks = false) {pc : Nat} {H : Heap} {ls : Array Slot} (hdg : decode code pc = .ok (.ireturn, 1)) : W p l e room_1 s m #[Value.ref b] below meth c H [] 600000 7302250 (lw_Z below #[Value.ref b] s) (F0 m pc ls [.int 1]) := by
  intro T hT X
  obtain ⟨fs, hret, hrun, hended, hW, hframe⟩ := X.leave (v := some (.int 1)) (hlocks := hlocks) (fun h => by rw [hr] at h; cases h)
  have hmeth' : T.vm.method? m = some meth := X.method'
  refine ⟨T.setFrames fs, ?_, .returned (some (.int 1)), hrun, hended, rfl, ⟨_, rfl⟩, hW, hframe⟩
  jvm_step X.here [X.here.top, hx, hb, hdg, hmeth', hr, ret, narrow_b1]
  (try refine ⟨rfl, ?_⟩); (try refine ⟨rfl, ?_⟩)
  first | (intro acts; rw [hret _ acts rfl rfl rfl]) | rw [hret _ _ rfl rfl rfl]
  exact Steps.refl _
/-- what holds at the law's entry: the machine, the code, the tables' words (any of lw_tbl by 'hts w (by decide +kernel)'), the script of L ints xs at the cell b, what the Statement gives of the start (any of its parts by flat_of_before) -/
def lw_At (p : Program) (s : State) (m : MethodId) (meth : Method) (c : Code) (b L : Nat) (xs : Nat → Int32) : Prop :=
  p.tables.exec = Jvm.exec ∧ c.code = code ∧ meth.sig.returnType = ret ∧ c.maxLocals = 4 ∧ s.vm.findClass R_law = some m.cls ∧ (∀ w ∈ lw_tbl, w.before #[Value.ref b] s = true) ∧ va_X b L xs s s.heap ∧ b < s.heap.size ∧ meth.locks = false ∧ (Jvm.Cond.and given_1 narrow_1).before #[Value.ref b] s = true
-- ===== the law's own run: the script, two worlds side by side =====
def A0 (s : State) : Nat → Prop := fun q => s.heap.size ≤ q
def LZ (s : State) (g g' : Gx) (H : Heap) (locs : List Loc) (u v : St) : Prop := va_P g.1 vwCl (wC g u) H ∧ va_P g'.1 vwCl (wM g' v) H ∧ va_S (A0 s) s.heap H locs
def LC (p : Program) (s : State) (m : MethodId) (meth : Method) (c : Code) (b L : Nat) (xs : Nat → Int32) (g g' : Gx) : Prop :=
  lw_At p s m meth c b L xs ∧ (Fix g s ∧ Fix g' s) ∧ Sta (A0 s) s s.heap ∧ (Dx 82 g (A0 s) ∧ Dx 22 g' (A0 s)) ∧ ∀ i j : Nat, i < 82 → j < 22 → g.2.2 i ≠ g'.2.2 j
section LAWROWS
variable {p : Program} {l : Launch} {e : Env} {s : State} {m : MethodId} {below : List Frame} {meth : Method} {c : Code} {H : Heap} {locs : List Loc} {Q : State → Prop} {b L : Nat} {xs : Nat → Int32} {g g' : Gx} {u v : St} {ls : Array Slot} {rest st : List Value} {pc idx n : Nat}
variable {w : Gx → St → va_W} {y : MethodName} {bytes : ByteArray} {maxL ny : Nat} {rt : Option FieldType} {As : List Value} {rm : Room}
theorem law_run {g : Gx} {u : St} {Qc : Array Value → State → Outcome → State → Prop} {free : Addr → Prop} {o q ci : Nat} {fs : List Value} {T : u_T} {N : Nat} (C : lw_At p s m meth c b L xs) (hF : Fix g s) (hSt : Sta (A0 s) s s.heap) (hDx : Dx n g (A0 s)) (hP : va_P g.1 vwCl (w g u) H) (hS : va_S (A0 s) s.heap H locs) (hM : Met l y (wsY y bytes maxL rt) rm (va_Pc (.ref o :: As) (PreX w n g H.size u)) Qc 0 0 free) (hm : MFv y bytes maxL rt ny) (hk : Cond.methodLink R_law idx y ∈ wsA) (hc : vwCl[ci]? = some (y.cls, T, N)) (he : (w g u)[q]? = some (o, .inr (ci, fs))) (hn : As.length = ny) (hrm : rm.cells = 0 ∧ rm.slots = 0 ∧ rm.frames + 1 ≤ room_1.frames ∧ 8 + (maxL + 11) + rm.locals ≤ room_1.locals) (hst : st = As.reverse ++ .ref o :: rest) (hsz : ls.size = 4) (hw : (rest.map fun v => v.category).sum ≤ 8) (hdg : decode code pc = .ok (.invokevirtual idx, 3)) :
    va_Run p l e room_1 s m #[Value.ref b] below meth c H locs 600000 7302250 0 0 (F0 m pc ls st) rest (Qc (Value.ref o :: As).toArray) free := by
  obtain ⟨hx, hb, hr, hml, hown, hts0, hX, hbl, hlocks, hgv⟩ := id C
  have hts : ∀ x ∈ wsA, x.before #[Value.ref b] s = true := fun x hx => hts0 x (wsA_in hx)
  have S : CallFix p m c code 4 s #[Value.ref b] wsA R_law := ⟨hx, hb, hml, hown, hts⟩
  have hf : 600000 + 0 ≤ room_1.cells ∧ 7302250 + 0 ≤ room_1.slots := ⟨Nat.le_of_ble_eq_true rfl, Nat.le_of_ble_eq_true rfl⟩
  have hW : 2 * (F0 m pc ls st).monitorRoom + (rest.map fun v => v.category).sum ≤ 8 := lv_room hw
  have hcc : Cond.code y bytes maxL rt ∈ wsY y bytes maxL rt := List.mem_cons_self
  have hrv : ∃ cell : Cell, H[o]? = some cell ∧ cell.vm.isStatics = false ∧ s.vm.findClass y.cls = some cell.cls := va_recv hF.1 hP hc he
  have hpre : ∀ U : State, U.heap = H → s.WarmedH U.vm → va_Pc (.ref o :: As) (PreX w n g H.size u) (Value.ref o :: As).toArray U := by
    intro U hU hWm
    subst hU
    refine ⟨rfl, rfl, hP, ⟨hDx.1, fun _ _ => trivial⟩, hF.warm hWm, hSt.go hS.2.1 hWm.alike ?_⟩
    intro q hq
    rcases hq with ⟨k, hk, rfl⟩ | h
    · exact hDx.2 k hk
    · exact Nat.le_trans hS.1 h
  exact va_runV (C := y.cls) S hM ⟨⟨hrm.1, hrm.2.1, hrm.2.2.1, hrm.2.2.2, pay_in hts (goodY hm.1), hcc, hts _ hm.1, hts _ hm.2.2.1, hm.2.2.2.1, parsed hm.2.2.2.2, hts _ hk⟩, hts _ hm.2.1.1, hts _ hm.2.1.2⟩ ⟨pre_blind, hrv, hpre⟩ rfl hn hsz hst hW hdg hf
theorem law_free {g : Gx} (hDx : Dx n g (A0 s)) (hS : va_S (A0 s) s.heap H locs) : ∀ q, Aw n g H.size q → A0 s q := by
  intro q hq
  rcases hq with ⟨k, hk, rfl⟩ | h
  · exact hDx.2 k hk
  · exact Nat.le_trans hS.1 h
/-- the other world's cells are none that a call may change -/
theorem law_other {g g' : Gx} {w' : Gx → St → va_W} {n' : Nat} {v : St} {H1 : Heap} (hw : Wok w' n') (hdis : ∀ i j : Nat, i < n → j < n' → g.2.2 i ≠ g'.2.2 j) (hP : va_P g'.1 vwCl (w' g' v) H) (hk : ∀ q : Nat, q < H.size → ¬ Aw n g H.size q → H1[q]? = H[q]?) : va_P g'.1 vwCl (w' g' v) H1 := by
  refine hP.kept (fun k q hq => ?_)
  obtain ⟨h1, h2⟩ := hw g' v k q hq
  have hl := (hP k q hq).lt
  refine hk q.1 hl ?_
  rintro (⟨i, hi, e⟩ | h)
  · exact hdis i k hi h1 (by rw [← e, h2])
  · omega
theorem law_dis {i j : Nat} (h : ∀ i j : Nat, i < 82 → j < 22 → g.2.2 i ≠ g'.2.2 j) : ∀ i j : Nat, i < 22 → j < 82 → g'.2.2 i ≠ g.2.2 j := fun i j hi hj e => h j i hj hi e.symm
theorem law_ci {r : Int32} {u1 : St} {ci : Nat} {fs : List Value} {T : u_T} {N : Nat} (C : LC p s m meth c b L xs g g') (Z : LZ s g g' H locs u v) (hM : CI wC 82 l y (wsY y bytes maxL rt) rm g (.ref (g.2.2 0) :: As) u r u1) (hm : MFv y bytes maxL rt ny) (hk : Cond.methodLink R_law idx y ∈ wsA) (hc : vwCl[ci]? = some (y.cls, T, N)) (he : (wC g u)[0]? = some (g.2.2 0, .inr (ci, fs))) (hn : As.length = ny) (hrm : rm.cells = 0 ∧ rm.slots = 0 ∧ rm.frames + 1 ≤ room_1.frames ∧ 8 + (maxL + 11) + rm.locals ≤ room_1.locals) (hst : st = As.reverse ++ .ref (g.2.2 0) :: rest) (hsz : ls.size = 4) (hw : (rest.map fun v => v.category).sum ≤ 8) (hdg : decode code pc = .ok (.invokevirtual idx, 3))
    (kk : ∀ (H1 : Heap) (locs1 : List Loc), LZ s g g' H1 locs1 u1 v → W p l e room_1 s m #[Value.ref b] below meth c H1 locs1 600000 7302250 Q (F0 m (pc + 3) ls (.int r :: rest))) : W p l e room_1 s m #[Value.ref b] below meth c H locs 600000 7302250 Q (F0 m pc ls st) := by
  have hfr := law_free C.2.2.2.1.1 Z.2.2
  refine va_calli (law_run C.1 C.2.1.1 C.2.2.1 C.2.2.2.1.1 Z.1 Z.2.2 (hM H.size) hm hk hc he hn hrm hst hsz hw hdg) Z.2.2 (fun q _ h => hfr q h) hfr (fun r' v' t H1 locs1 ht _ hp hB _ hk1 hS => ?_)
  obtain ⟨rfl, rfl⟩ := hp
  exact kk H1 locs1 ⟨ht ▸ hB, law_other wokM C.2.2.2.2 Z.2.1 hk1, hS⟩
theorem law_cj {r : Int64} {u1 : St} {ci : Nat} {fs : List Value} {T : u_T} {N : Nat} (C : LC p s m meth c b L xs g g') (Z : LZ s g g' H locs u v) (hM : CJ wC 82 l y (wsY y bytes maxL rt) rm g (.ref (g.2.2 0) :: As) u r u1) (hm : MFv y bytes maxL rt ny) (hk : Cond.methodLink R_law idx y ∈ wsA) (hc : vwCl[ci]? = some (y.cls, T, N)) (he : (wC g u)[0]? = some (g.2.2 0, .inr (ci, fs))) (hn : As.length = ny) (hrm : rm.cells = 0 ∧ rm.slots = 0 ∧ rm.frames + 1 ≤ room_1.frames ∧ 8 + (maxL + 11) + rm.locals ≤ room_1.locals) (hst : st = As.reverse ++ .ref (g.2.2 0) :: rest) (hsz : ls.size = 4) (hw : (rest.map fun v => v.category).sum ≤ 8) (hdg : decode code pc = .ok (.invokevirtual idx, 3))
    (kk : ∀ (H1 : Heap) (locs1 : List Loc), LZ s g g' H1 locs1 u1 v → W p l e room_1 s m #[Value.ref b] below meth c H1 locs1 600000 7302250 Q (F0 m (pc + 3) ls (.long r :: rest))) : W p l e room_1 s m #[Value.ref b] below meth c H locs 600000 7302250 Q (F0 m pc ls st) := by
  have hfr := law_free C.2.2.2.1.1 Z.2.2
  refine va_calll (law_run C.1 C.2.1.1 C.2.2.1 C.2.2.2.1.1 Z.1 Z.2.2 (hM H.size) hm hk hc he hn hrm hst hsz hw hdg) Z.2.2 (fun q _ h => hfr q h) hfr (fun r' v' t H1 locs1 ht _ hp hB _ hk1 hS => ?_)
  obtain ⟨rfl, rfl⟩ := hp
  exact kk H1 locs1 ⟨ht ▸ hB, law_other wokM C.2.2.2.2 Z.2.1 hk1, hS⟩
theorem law_mi {r : Int32} {v1 : St} {ci : Nat} {fs : List Value} {T : u_T} {N : Nat} (C : LC p s m meth c b L xs g g') (Z : LZ s g g' H locs u v) (hM : CI wM 22 l y (wsY y bytes maxL rt) rm g' (.ref (g'.2.2 0) :: As) v r v1) (hm : MFv y bytes maxL rt ny) (hk : Cond.methodLink R_law idx y ∈ wsA) (hc : vwCl[ci]? = some (y.cls, T, N)) (he : (wM g' v)[0]? = some (g'.2.2 0, .inr (ci, fs))) (hn : As.length = ny) (hrm : rm.cells = 0 ∧ rm.slots = 0 ∧ rm.frames + 1 ≤ room_1.frames ∧ 8 + (maxL + 11) + rm.locals ≤ room_1.locals) (hst : st = As.reverse ++ .ref (g'.2.2 0) :: rest) (hsz : ls.size = 4) (hw : (rest.map fun v => v.category).sum ≤ 8) (hdg : decode code pc = .ok (.invokevirtual idx, 3))
    (kk : ∀ (H1 : Heap) (locs1 : List Loc), LZ s g g' H1 locs1 u v1 → W p l e room_1 s m #[Value.ref b] below meth c H1 locs1 600000 7302250 Q (F0 m (pc + 3) ls (.int r :: rest))) : W p l e room_1 s m #[Value.ref b] below meth c H locs 600000 7302250 Q (F0 m pc ls st) := by
  have hfr := law_free C.2.2.2.1.2 Z.2.2
  refine va_calli (law_run C.1 C.2.1.2 C.2.2.1 C.2.2.2.1.2 Z.2.1 Z.2.2 (hM H.size) hm hk hc he hn hrm hst hsz hw hdg) Z.2.2 (fun q _ h => hfr q h) hfr (fun r' v' t H1 locs1 ht _ hp hB _ hk1 hS => ?_)
  obtain ⟨rfl, rfl⟩ := hp
  exact kk H1 locs1 ⟨law_other wokC (fun i j hi hj e => C.2.2.2.2 j i hj hi e.symm) Z.1 hk1, ht ▸ hB, hS⟩
theorem law_mj {r : Int64} {v1 : St} {ci : Nat} {fs : List Value} {T : u_T} {N : Nat} (C : LC p s m meth c b L xs g g') (Z : LZ s g g' H locs u v) (hM : CJ wM 22 l y (wsY y bytes maxL rt) rm g' (.ref (g'.2.2 0) :: As) v r v1) (hm : MFv y bytes maxL rt ny) (hk : Cond.methodLink R_law idx y ∈ wsA) (hc : vwCl[ci]? = some (y.cls, T, N)) (he : (wM g' v)[0]? = some (g'.2.2 0, .inr (ci, fs))) (hn : As.length = ny) (hrm : rm.cells = 0 ∧ rm.slots = 0 ∧ rm.frames + 1 ≤ room_1.frames ∧ 8 + (maxL + 11) + rm.locals ≤ room_1.locals) (hst : st = As.reverse ++ .ref (g'.2.2 0) :: rest) (hsz : ls.size = 4) (hw : (rest.map fun v => v.category).sum ≤ 8) (hdg : decode code pc = .ok (.invokevirtual idx, 3))
    (kk : ∀ (H1 : Heap) (locs1 : List Loc), LZ s g g' H1 locs1 u v1 → W p l e room_1 s m #[Value.ref b] below meth c H1 locs1 600000 7302250 Q (F0 m (pc + 3) ls (.long r :: rest))) : W p l e room_1 s m #[Value.ref b] below meth c H locs 600000 7302250 Q (F0 m pc ls st) := by
  have hfr := law_free C.2.2.2.1.2 Z.2.2
  refine va_calll (law_run C.1 C.2.1.2 C.2.2.1 C.2.2.2.1.2 Z.2.1 Z.2.2 (hM H.size) hm hk hc he hn hrm hst hsz hw hdg) Z.2.2 (fun q _ h => hfr q h) hfr (fun r' v' t H1 locs1 ht _ hp hB _ hk1 hS => ?_)
  obtain ⟨rfl, rfl⟩ := hp
  exact kk H1 locs1 ⟨law_other wokC (fun i j hi hj e => C.2.2.2.2 j i hj hi e.symm) Z.1 hk1, ht ▸ hB, hS⟩
theorem law_sld (C : LC p s m meth c b L xs g g') (Z : LZ s g g' H locs u v) {i : Int32} (hin : ¬ oob i L = true) (hdg : decode code pc = .ok (.iaload, 1))
    (kk : W p l e room_1 s m #[Value.ref b] below meth c H locs 600000 7302250 Q (F0 m (pc + 1) ls (.int (xs i.toNatClampNeg) :: rest))) : W p l e room_1 s m #[Value.ref b] below meth c H locs 600000 7302250 Q (F0 m pc ls (.int i :: .ref b :: rest)) := by
  obtain ⟨hx, hb, hr, hml, hown, hts0, hX, hbl, hlocks, hgv⟩ := id C.1
  exact va_sld hx hb hX hbl (Nat.not_le.mpr hbl) Z.2.2 (oob_in hin) hdg kk
theorem law_slen (C : LC p s m meth c b L xs g g') (Z : LZ s g g' H locs u v) (hdg : decode code pc = .ok (.arraylength, 1))
    (kk : W p l e room_1 s m #[Value.ref b] below meth c H locs 600000 7302250 Q (F0 m (pc + 1) ls (.int (Int32.ofNat L) :: rest))) : W p l e room_1 s m #[Value.ref b] below meth c H locs 600000 7302250 Q (F0 m pc ls (.ref b :: rest)) := by
  obtain ⟨hx, hb, hr, hml, hown, hts0, hX, hbl, hlocks, hgv⟩ := id C.1
  exact va_slen hx hb hX hbl (Nat.not_le.mpr hbl) Z.2.2 hdg kk
theorem law_end (C : LC p s m meth c b L xs g g') (Z : LZ s g g' H locs u v) (hdg : decode code pc = .ok (.ireturn, 1)) : W p l e room_1 s m #[Value.ref b] below meth c H locs 600000 7302250 (lw_Z below #[Value.ref b] s) (F0 m pc ls [.int 1]) := by
  obtain ⟨hx, hb, hr, hml, hown, hts0, hX, hbl, hlocks, hgv⟩ := id C.1
  exact va_forget (fun q hq => Z.2.2.2.2 q hq) (lw_ret hx hb hr hlocks hdg)
end LAWROWS
