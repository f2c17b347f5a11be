def nestW : List Cond := [.methodLinkNest RX7 9 yX5_init "AskedCocks",
  .methodLinkNest RX7 18 yX4_init "AskedCocks",
  .methodLinkNest RX4 11 yX1_init "AskedCocks",
  .methodLinkNest RX7 25 yX6_init "AskedCocks",
  .methodLinkNest RX6 11 yX1_init "AskedCocks",
  .methodLinkNest RX6 20 yX3_init "AskedCocks",
  .methodLinkNest RX7 32 yX0_init "AskedCocks",
  .methodLinkNest RX7 39 yX2_init "AskedCocks",
  .methodLinkNest RX7 46 yX3_init "AskedCocks",
  .methodLinkNest RX7 55 yX5_append "AskedCocks",
  .methodLinkNest RX7 63 yX5_empty "AskedCocks",
  .methodLinkNest RX7 66 yX4_readAll "AskedCocks",
  .methodLinkNest RX4 22 yX1_empty "AskedCocks",
  .methodLinkNest RX4 25 yX5_rewind "AskedCocks",
  .methodLinkNest RX4 30 yX5_nextToken "AskedCocks",
  .methodLinkNest RX4 83 yX7_isWithin "AskedCocks",
  .methodLinkNest RX4 89 yX1_addCock "AskedCocks",
  .methodLinkNest RX4 93 yX1_addOne "AskedCocks",
  .methodLinkNest RX4 96 yX1_addSmoke "AskedCocks",
  .methodLinkNest RX7 74 yX6_beginWith "AskedCocks",
  .methodLinkNest RX6 25 yX1_becomeAs "AskedCocks",
  .methodLinkNest RX1 48 yX7_copyRows "AskedCocks",
  .methodLinkNest RX6 33 yX3_beginOver "AskedCocks",
  .methodLinkNest RX7 78 yX0_drop "AskedCocks",
  .methodLinkNest RX7 107 yX6_eyeOf "AskedCocks",
  .methodLinkNest RX7 114 yX1_sideOf "AskedCocks",
  .methodLinkNest RX1 52 yX7_sideBy "AskedCocks",
  .methodLinkNest RX7 118 yX3_isAsked "AskedCocks",
  .methodLinkNest RX3 55 yX7_isIn "AskedCocks",
  .methodLinkNest RX7 121 yX3_tellingOf "AskedCocks",
  .methodLinkNest RX7 131 yX1_cellOf "AskedCocks",
  .methodLinkNest RX1 56 yX7_placeBy "AskedCocks",
  .methodLinkNest RX1 59 yX7_isCell "AskedCocks",
  .methodLinkNest RX7 140 yX3_seenByAnyOf "AskedCocks",
  .methodLinkNest RX7 143 yX6_goBy "AskedCocks",
  .methodLinkNest RX6 74 yX3_rememberHour "AskedCocks",
  .methodLinkNest RX6 90 yX1_cellOf "AskedCocks",
  .methodLinkNest RX6 93 yX1_isSmoky "AskedCocks",
  .methodLinkNest RX1 63 yX7_isWithin "AskedCocks",
  .methodLinkNest RX6 66 yX3_isAsked "AskedCocks",
  .methodLinkNest RX6 42 yX1_sideOf "AskedCocks",
  .methodLinkNest RX7 147 yX3_build "AskedCocks",
  .methodLinkNest RX7 151 yX3_amountKnownWith "AskedCocks",
  .methodLinkNest RX7 154 yX3_bringDown "AskedCocks",
  .methodLinkNest RX7 160 yX3_undoLatest "AskedCocks",
  .methodLinkNest RX7 163 yX1_allCocks "AskedCocks",
  .methodLinkNest RX7 167 yX3_amountSeenBy "AskedCocks",
  .methodLinkNest RX7 171 yX6_bestToAsk "AskedCocks",
  .methodLinkNest RX6 104 yX1_allCocks "AskedCocks",
  .methodLinkNest RX6 111 yX3_hoursToAsk "AskedCocks",
  .methodLinkNest RX6 117 yX3_amountKnownWith "AskedCocks",
  .methodLinkNest RX7 177 yX6_viewOf "AskedCocks",
  .methodLinkNest RX7 180 yX6_unseenIn "AskedCocks",
  .methodLinkNest RX7 183 yX6_hoursInView "AskedCocks",
  .methodLinkNest RX7 193 yX0_addFaced "AskedCocks",
  .methodLinkNest RX7 200 yX0_lawCount "AskedCocks",
  .methodLinkNest RX0 31 yX7_sideBy "AskedCocks",
  .methodLinkNest RX7 203 yX0_firstLaw "AskedCocks",
  .methodLinkNest RX7 206 yX0_bestHourToTry "AskedCocks",
  .methodLinkNest RX7 209 yX0_addMet "AskedCocks",
  .methodLinkNest RX7 215 yX0_wayCount "AskedCocks",
  .methodLinkNest RX0 52 yX7_placeBy "AskedCocks",
  .methodLinkNest RX7 218 yX0_bestWay "AskedCocks",
  .methodLinkNest RX7 221 yX0_falsesOf "AskedCocks",
  .methodLinkNest RX7 224 yX2_markAs "AskedCocks",
  .methodLinkNest RX2 35 yX6_eyeOf "AskedCocks",
  .methodLinkNest RX2 47 yX3_tellingOf "AskedCocks",
  .methodLinkNest RX7 228 yX3_becomeAs "AskedCocks",
  .methodLinkNest RX3 51 yX7_copyRows "AskedCocks",
  .fieldLinkNest RX7 59 "AskedCocks$Script" "length" "I" "AskedCocks",
  .fieldLinkNest RX4 38 "AskedCocks$Script" "tokenStart" "I" "AskedCocks",
  .fieldLinkNest RX4 42 "AskedCocks$Script" "tokenValue" "I" "AskedCocks",
  .fieldLinkNest RX6 29 "AskedCocks$Diocese" "roofs" "[I" "AskedCocks",
  .fieldLinkNest RX4 86 "AskedCocks$Diocese" "roofs" "[I" "AskedCocks",
  .fieldLinkNest RX6 38 "AskedCocks$Diocese" "cocks" "[[I" "AskedCocks",
  .fieldLinkNest RX2 58 "AskedCocks$Diocese" "cocks" "[[I" "AskedCocks",
  .fieldLinkNest RX7 101 "AskedCocks$Diocese" "cocks" "[[I" "AskedCocks",
  .fieldLinkNest RX7 128 "AskedCocks$Diocese" "people" "[[I" "AskedCocks",
  .fieldLinkNest RX4 68 "AskedCocks$Diocese" "cockCount" "I" "AskedCocks",
  .fieldLinkNest RX6 62 "AskedCocks$Diocese" "cockCount" "I" "AskedCocks",
  .fieldLinkNest RX7 235 "AskedCocks$Diocese" "cockCount" "I" "AskedCocks",
  .fieldLinkNest RX4 71 "AskedCocks$Diocese" "peopleCount" "I" "AskedCocks",
  .fieldLinkNest RX6 87 "AskedCocks$Diocese" "peopleCount" "I" "AskedCocks",
  .fieldLinkNest RX7 238 "AskedCocks$Diocese" "peopleCount" "I" "AskedCocks",
  .fieldLinkNest RX4 74 "AskedCocks$Diocese" "smokeCount" "I" "AskedCocks",
  .fieldLinkNest RX7 241 "AskedCocks$Diocese" "smokeCount" "I" "AskedCocks",
  .fieldLinkNest RX7 70 "AskedCocks$Reader" "draft" "LAskedCocks$Diocese;" "AskedCocks",
  .fieldLinkNest RX7 111 "AskedCocks$Present" "hour" "I" "AskedCocks",
  .fieldLinkNest RX2 70 "AskedCocks$Present" "hour" "I" "AskedCocks",
  .fieldLinkNest RX6 77 "AskedCocks$Present" "hour" "I" "AskedCocks",
  .fieldLinkNest RX7 137 "AskedCocks$Present" "asked" "I" "AskedCocks",
  .fieldLinkNest RX6 108 "AskedCocks$Present" "asked" "I" "AskedCocks",
  .fieldLinkNest RX6 37 "AskedCocks$Present" "roofs" "[I" "AskedCocks",
  .fieldLinkNest RX7 91 "AskedCocks$Present" "roofs" "[I" "AskedCocks",
  .fieldLinkNest RX7 134 "AskedCocks$Present" "seen" "[[I" "AskedCocks",
  .fieldLinkNest RX6 101 "AskedCocks$Present" "seen" "[[I" "AskedCocks",
  .fieldLinkNest RX7 157 "AskedCocks$Present" "deeds" "I" "AskedCocks",
  .fieldLinkNest RX2 54 "AskedCocks$Watch" "told" "LAskedCocks$Diocese;" "AskedCocks",
  .fieldLinkNest RX7 98 "AskedCocks$Watch" "told" "LAskedCocks$Diocese;" "AskedCocks",
  .fieldLinkNest RX2 43 "AskedCocks$Watch" "present" "LAskedCocks$Present;" "AskedCocks",
  .fieldLinkNest RX7 87 "AskedCocks$Watch" "present" "LAskedCocks$Present;" "AskedCocks",
  .fieldLinkNest RX7 197 "AskedCocks$Clues" "facedCount" "I" "AskedCocks",
  .fieldLinkNest RX7 212 "AskedCocks$Clues" "metCount" "I" "AskedCocks",
  .fieldLinkNest RX7 244 "AskedCocks$Kinds" "trace" "J" "AskedCocks"]
-- ===== the shape of our worlds: numbers, rows of numbers, one long; rows of the kit said over them =====
abbrev St : Type := (Nat → Int32) × (Nat → Nat → Int32) × Int64
def sI (u : St) (k : Nat) (x : Int32) : St := (upd u.1 k x, u.2.1, u.2.2)
def sA (u : St) (k : Nat) (f : Nat → Int32) : St := (u.1, va_up u.2.1 k f, u.2.2)
def sJ (u : St) (x : Int64) : St := (u.1, u.2.1, x)
/-- an index outside its row -/
def oob (i : Int32) (n : Nat) : Bool := decide (i < 0 ∨ n ≤ i.toNatClampNeg)
theorem oob_in {i : Int32} {n : Nat} (h : ¬ oob i n = true) : vp_in i n := fun q => h (decide_eq_true q)
theorem oob_lt {i : Int32} {n : Nat} (h : ¬ oob i n = true) : i.toNatClampNeg < n := Nat.not_le.mp fun q => h (decide_eq_true (Or.inr q))
/-- a boolean as the machine has it -/
def nb (x : Int32) : Bool := decide (x = 0 ∨ x = 1)
theorem nb_nar {x : Int32} (h : nb x = true) : narrow .boolean (.int x) = .int x := by
  rcases of_decide_eq_true h with rfl | rfl <;> rfl
theorem nb_fit {x : Int32} (h : nb x = true) : fits .boolean (.int x) = true := by
  rcases of_decide_eq_true h with rfl | rfl <;> rfl
theorem nb_vp {x : Int32} (h : nb x = true) : vp_nar .boolean x = x := by
  rcases of_decide_eq_true h with rfl | rfl <;> rfl
/-- numbers of classes, of row classes, addresses -/
abbrev Gx : Type := va_G × (ClassId × ClassId × ClassId × ClassId) × (Nat → Nat)
abbrev tyX (g : Gx) : List (ClassId × FieldType) := [(g.2.1.1, .int), (g.2.1.2.1, .array .int), (g.2.1.2.2.1, .object "AskedCocks$Present"), (g.2.1.2.2.2, .boolean)]
def Aw (n : Nat) (g : Gx) (sz : Nat) : Nat → Prop := fun q => (∃ k : Nat, k < n ∧ q = g.2.2 k) ∨ sz ≤ q
def Dx (n : Nat) (g : Gx) (A : Nat → Prop) : Prop := (∀ i j : Nat, i < n → j < n → g.2.2 i = g.2.2 j → i = j) ∧ ∀ k : Nat, k < n → A (g.2.2 k)
def nestB : Cond → Bool
  | .fieldLinkNest _ _ _ _ _ _ => true
  | .methodLinkNest _ _ _ _ => true
  | _ => false
theorem nestB_warm {w : Cond} {s U : State} (h : nestB w = true) (hW : s.WarmedH U.vm) (hz : va_Nw w s) : va_Nw w U := by
  cases w <;> first | exact va_Nw.warmF hW hz | exact va_Nw.warmM hW hz | cases h
theorem nestB_same {w : Cond} {u U : State} (h : nestB w = true) (e : u.vm = U.vm) (hz : va_Nw w u) : va_Nw w U := by
  cases w <;> first | exact va_Nw.same rfl e hz | cases h
def Fix (g : Gx) (U : State) : Prop := va_K g.1 vwCl (tyX g) U ∧ ∀ w ∈ nestW, va_Nw w U
theorem nestW_ok : ∀ w ∈ nestW, nestB w = true := by decide +kernel
theorem Fix.warm {g : Gx} {s U : State} (h : Fix g s) (hW : s.WarmedH U.vm) : Fix g U := ⟨h.1.moved hW.alike, fun w hw => nestB_warm (nestW_ok w hw) hW (h.2 w hw)⟩
theorem Fix.same {g : Gx} {s U : State} (h : Fix g s) (e : s.vm = U.vm) : Fix g U := ⟨h.1.moved (e ▸ Vm.Alike.refl s.vm), fun w hw => nestB_same (nestW_ok w hw) e (h.2 w hw)⟩
/-- the four rows of numbers that class Reader keeps -/
def kLET : Nat → Int32 := fun j => [114, 99, 112, 115].getD j 0
def kNUM : Nat → Int32 := fun j => [2, 4, 2, 3].getD j 0
def kLOW : Nat → Int32 := fun j => [0, 0, 0, 0, 0, 1, 0, 0, 0, 0, 0, 0, 0, 0, 0, 0].getD j 0
def kHIG : Nat → Int32 := fun j => [23, 9, 0, 0, 23, 5, 1, 9, 23, 6, 0, 0, 23, 29, 29, 0].getD j 0
def Tab (n d : String) (ty : FieldType) (N : Nat) (f : Nat → Int32) (A : Nat → Prop) (U : State) (H : Heap) : Prop := ∃ t : Nat, va_Z "AskedCocks$Reader" n d (.ref t) A U H ∧ va_T ty t N (fun j => .int (f j)) A U H
def Sta (A : Nat → Prop) (U : State) (H : Heap) : Prop := Tab "LETTERS" "[C" .char 4 kLET A U H ∧ Tab "NUMBERS" "[I" .int 4 kNUM A U H ∧ Tab "LOWEST" "[I" .int 16 kLOW A U H ∧ Tab "HIGHEST" "[I" .int 16 kHIG A U H
theorem Tab.go {n d : String} {ty : FieldType} {N : Nat} {f : Nat → Int32} {A B : Nat → Prop} {u U : State} {H H1 : Heap} (h : Tab n d ty N f A u H) (hq : ∀ a : Nat, a < H.size → ¬ A a → H1[a]? = H[a]?) (hvm : u.vm.Alike U.vm) (hAB : ∀ q, B q → A q) : Tab n d ty N f B U H1 := by
  obtain ⟨t, h1, h2⟩ := h
  exact ⟨t, ((h1.kept hq).moved hvm).narrow hAB, ((h2.kept hq).moved hvm).narrow hAB⟩
theorem Sta.go {A B : Nat → Prop} {u U : State} {H H1 : Heap} (h : Sta A u H) (hq : ∀ a : Nat, a < H.size → ¬ A a → H1[a]? = H[a]?) (hvm : u.vm.Alike U.vm) (hAB : ∀ q, B q → A q) : Sta B U H1 :=
  ⟨h.1.go hq hvm hAB, h.2.1.go hq hvm hAB, h.2.2.1.go hq hvm hAB, h.2.2.2.go hq hvm hAB⟩
/-- a world's cells stand at the addresses, in order -/
def Wok (w : Gx → St → va_W) (n : Nat) : Prop := ∀ (g : Gx) (u : St) (k : Nat) (q : Nat × va_E), (w g u)[k]? = some q → k < n ∧ q.1 = g.2.2 k
theorem Wok.D {w : Gx → St → va_W} {n : Nat} {g : Gx} {A : Nat → Prop} {u : St} (hw : Wok w n) (h : Dx n g A) : va_D A (w g u) :=
  ⟨fun i j p q hi hj e => by
    obtain ⟨a1, a2⟩ := hw g u i p hi
    obtain ⟨b1, b2⟩ := hw g u j q hj
    exact h.1 i j a1 b1 (by rw [← a2, ← b2]; exact e), fun k q hk => by
    obtain ⟨a1, a2⟩ := hw g u k q hk
    rw [a2]; exact h.2 k a1⟩
/-- what holds throughout a method's run -/
def Cx (p : Program) (s : State) (m : MethodId) (meth : Method) (c : Code) (args : Array Value) (cc : ByteArray) (own : String) (nL : Nat) (ret : Option FieldType) (n : Nat) (g : Gx) : Prop :=
  p.tables.exec = Jvm.exec ∧ c.code = cc ∧ c.maxLocals = nL ∧ s.vm.findClass own = some m.cls ∧ (∀ w ∈ wsA, w.before args s = true) ∧ meth.sig.returnType = ret ∧ meth.locks = false ∧ Fix g s ∧ Sta (Aw n g s.heap.size) s s.heap ∧ Dx n g (Aw n g s.heap.size)
/-- the world now -/
def Zx (w : Gx → St → va_W) (g : Gx) (A : Nat → Prop) (s : State) (H : Heap) (locs : List Loc) (u : St) : Prop := va_P g.1 vwCl (w g u) H ∧ va_S A s.heap H locs
def PreX (w : Gx → St → va_W) (n : Nat) (g : Gx) (sz : Nat) (u : St) : State → Prop := fun U => U.heap.size = sz ∧ va_P g.1 vwCl (w g u) U.heap ∧ Dx n g (fun _ => True) ∧ Fix g U ∧ Sta (Aw n g sz) U U.heap
def PostX (w : Gx → St → va_W) (g : Gx) : St → State → Prop := fun v t => va_P g.1 vwCl (w g v) t.heap
abbrev wsY (y : MethodName) (cc : ByteArray) (nL : Nat) (ret : Option FieldType) : List Cond := .code y cc nL ret :: wsA
abbrev rmX (f l : Nat) : Room := { frames := f, cells := 0, slots := 0, locals := l }
def QI (w : Gx → St → va_W) (n : Nat) (g : Gx) (r : Int32) (v : St) (below : List Frame) (args : Array Value) (s : State) : State → Prop := MQ below (va_Qi (fun r' v' => r' = r ∧ v' = v) (PostX w g) (Aw n g s.heap.size)) args s 0 0 (Aw n g s.heap.size)
def QJ (w : Gx → St → va_W) (n : Nat) (g : Gx) (r : Int64) (v : St) (below : List Frame) (args : Array Value) (s : State) : State → Prop := MQ below (va_Ql (fun r' v' => r' = r ∧ v' = v) (PostX w g) (Aw n g s.heap.size)) args s 0 0 (Aw n g s.heap.size)
def QV (w : Gx → St → va_W) (n : Nat) (g : Gx) (v : St) (below : List Frame) (args : Array Value) (s : State) : State → Prop := MQ below (va_Qv (fun v' => v' = v) (PostX w g) (Aw n g s.heap.size)) args s 0 0 (Aw n g s.heap.size)
def CI (w : Gx → St → va_W) (n : Nat) (l : Launch) (y : MethodName) (ws : List Cond) (rm : Room) (g : Gx) (As : List Value) (u : St) (r : Int32) (v : St) : Prop := ∀ sz : Nat, Met l y ws rm (va_Pc As (PreX w n g sz u)) (va_Qi (fun r' v' => r' = r ∧ v' = v) (PostX w g) (Aw n g sz)) 0 0 (Aw n g sz)
def CJ (w : Gx → St → va_W) (n : Nat) (l : Launch) (y : MethodName) (ws : List Cond) (rm : Room) (g : Gx) (As : List Value) (u : St) (r : Int64) (v : St) : Prop := ∀ sz : Nat, Met l y ws rm (va_Pc As (PreX w n g sz u)) (va_Ql (fun r' v' => r' = r ∧ v' = v) (PostX w g) (Aw n g sz)) 0 0 (Aw n g sz)
def CV (w : Gx → St → va_W) (n : Nat) (l : Launch) (y : MethodName) (ws : List Cond) (rm : Room) (g : Gx) (As : List Value) (u : St) (v : St) : Prop := ∀ sz : Nat, Met l y ws rm (va_Pc As (PreX w n g sz u)) (va_Qv (fun v' => v' = v) (PostX w g) (Aw n g sz)) 0 0 (Aw n g sz)
section ENTRY
variable {w : Gx → St → va_W} {n : Nat} {l : Launch} {y : MethodName} {cc : ByteArray} {own : String} {nL : Nat} {ret : Option FieldType} {g : Gx} {As : List Value} {u v : St} {rm : Room}
theorem Met_start {Qc : Nat → Array Value → State → Outcome → State → Prop} {A : Nat → Nat → Prop} (hy : plainName y.cls = true) (ho : y.cls = own) (hlen : (lg_sl As).length ≤ nL)
    (body : ∀ {p : Program} {e : Env} {s : State} {m : MethodId} {args : Array Value} {below : List Frame} {meth : Method} {c : Code} {ls : Array Slot}, Cx p s m meth c args cc own nL ret n g → Zx w g (Aw n g s.heap.size) s s.heap [] u → lv_has ls nL (lv_args 0 As) → W p l e rm s m args below meth c s.heap [] 0 0 (MQ below (Qc s.heap.size) args s 0 0 (A s.heap.size)) (F0 m 0 ls [])) :
    ∀ sz : Nat, Met l y (wsY y cc nL ret) rm (va_Pc As (PreX w n g sz u)) (Qc sz) 0 0 (A sz) := by
  subst ho
  intro sz
  refine Met.ofW (cc := cc) (maxL := nL) (ret := ret) hy rfl ?_
  intro p e s m args below meth c s₁ B hml hv
  obtain ⟨rfl, hsz, hP, hD, hF, hSt⟩ := hv
  subst hsz
  have hts := atoms_spec (ws := wsY y cc nL ret) B.pre
  rw [lg_entry_eq]
  exact body ⟨B.exec, B.bytes, hml, findClass_of_methodNamed B.named, fun x hx => hts x (List.mem_cons_of_mem _ hx), B.returns, B.notSynchronized, hF, hSt, ⟨hD.1, fun k hk => Or.inl ⟨k, hk, rfl⟩⟩⟩ ⟨hP, va_S.rf⟩ (lv_entry As hlen)
theorem CI_start {r : Int32} (hy : plainName y.cls = true) (ho : y.cls = own) (hlen : (lg_sl As).length ≤ nL)
    (body : ∀ {p : Program} {e : Env} {s : State} {m : MethodId} {args : Array Value} {below : List Frame} {meth : Method} {c : Code} {ls : Array Slot}, Cx p s m meth c args cc own nL ret n g → Zx w g (Aw n g s.heap.size) s s.heap [] u → lv_has ls nL (lv_args 0 As) → W p l e rm s m args below meth c s.heap [] 0 0 (QI w n g r v below args s) (F0 m 0 ls [])) :
    CI w n l y (wsY y cc nL ret) rm g As u r v := Met_start (Qc := fun sz => va_Qi (fun r' v' => r' = r ∧ v' = v) (PostX w g) (Aw n g sz)) (A := Aw n g) hy ho hlen body
theorem CJ_start {r : Int64} (hy : plainName y.cls = true) (ho : y.cls = own) (hlen : (lg_sl As).length ≤ nL)
    (body : ∀ {p : Program} {e : Env} {s : State} {m : MethodId} {args : Array Value} {below : List Frame} {meth : Method} {c : Code} {ls : Array Slot}, Cx p s m meth c args cc own nL ret n g → Zx w g (Aw n g s.heap.size) s s.heap [] u → lv_has ls nL (lv_args 0 As) → W p l e rm s m args below meth c s.heap [] 0 0 (QJ w n g r v below args s) (F0 m 0 ls [])) :
    CJ w n l y (wsY y cc nL ret) rm g As u r v := Met_start (Qc := fun sz => va_Ql (fun r' v' => r' = r ∧ v' = v) (PostX w g) (Aw n g sz)) (A := Aw n g) hy ho hlen body
theorem CV_start (hy : plainName y.cls = true) (ho : y.cls = own) (hlen : (lg_sl As).length ≤ nL)
    (body : ∀ {p : Program} {e : Env} {s : State} {m : MethodId} {args : Array Value} {below : List Frame} {meth : Method} {c : Code} {ls : Array Slot}, Cx p s m meth c args cc own nL ret n g → Zx w g (Aw n g s.heap.size) s s.heap [] u → lv_has ls nL (lv_args 0 As) → W p l e rm s m args below meth c s.heap [] 0 0 (QV w n g v below args s) (F0 m 0 ls [])) :
    CV w n l y (wsY y cc nL ret) rm g As u v := Met_start (Qc := fun sz => va_Qv (fun v' => v' = v) (PostX w g) (Aw n g sz)) (A := Aw n g) hy ho hlen body
end ENTRY
section ROWS
variable {p : Program} {l : Launch} {e : Env} {R : Room} {s : State} {m : MethodId} {args : Array Value} {below : List Frame} {meth : Method} {c : Code} {H : Heap} {locs : List Loc} {Q : State → Prop} {cc : ByteArray} {own : String} {nL : Nat} {ret : Option FieldType} {g : Gx} {u u' : St} {ls : Array Slot} {rest : List Value} {pc idx n : Nat} {w : Gx → St → va_W}
theorem ret_i (C : Cx p s m meth c args cc own nL (some .int) n g) {r : Int32} (Z : Zx w g (Aw n g s.heap.size) s H locs u) (hdg : decode cc pc = .ok (.ireturn, 1)) : W p l e R s m args below meth c H locs 0 0 (QI w n g r u below args s) (F0 m pc ls [.int r]) := by
  have hlocks := C.2.2.2.2.2.2.1
  exact W.iret (v := r) C.1 C.2.1 C.2.2.2.2.2.1 (fun t ht _ => ⟨⟨r, u, rfl, ⟨rfl, rfl⟩, by show va_P _ _ _ t.heap; rw [ht]; exact Z.1⟩, Z.2.F ht⟩) Z.2.2.2 hdg
theorem ret_z (C : Cx p s m meth c args cc own nL (some .boolean) n g) {r : Int32} (Z : Zx w g (Aw n g s.heap.size) s H locs u) (hn : nb r = true) (hdg : decode cc pc = .ok (.ireturn, 1)) : W p l e R s m args below meth c H locs 0 0 (QI w n g r u below args s) (F0 m pc ls [.int r]) := by
  have hlocks := C.2.2.2.2.2.2.1
  exact W.zret (v := r) C.1 C.2.1 C.2.2.2.2.2.1 (nb_nar hn) (fun t ht _ => ⟨⟨r, u, rfl, ⟨rfl, rfl⟩, by show va_P _ _ _ t.heap; rw [ht]; exact Z.1⟩, Z.2.F ht⟩) Z.2.2.2 hdg
theorem ret_j (C : Cx p s m meth c args cc own nL (some .long) n g) {r : Int64} (Z : Zx w g (Aw n g s.heap.size) s H locs u) (hdg : decode cc pc = .ok (.lreturn, 1)) : W p l e R s m args below meth c H locs 0 0 (QJ w n g r u below args s) (F0 m pc ls [.long r]) := by
  have hlocks := C.2.2.2.2.2.2.1
  exact W.lret (v := r) C.1 C.2.1 C.2.2.2.2.2.1 (fun t ht _ => ⟨⟨r, u, rfl, ⟨rfl, rfl⟩, by show va_P _ _ _ t.heap; rw [ht]; exact Z.1⟩, Z.2.F ht⟩) Z.2.2.2 hdg
theorem ret_v (C : Cx p s m meth c args cc own nL none n g) (Z : Zx w g (Aw n g s.heap.size) s H locs u) (hdg : decode cc pc = .ok (.return_, 1)) : W p l e R s m args below meth c H locs 0 0 (QV w n g u below args s) (F0 m pc ls []) := by
  have hlocks := C.2.2.2.2.2.2.1
  exact W.vret C.1 C.2.1 C.2.2.2.2.2.1 (fun t ht _ => ⟨⟨u, rfl, rfl, by show va_P _ _ _ t.heap; rw [ht]; exact Z.1⟩, Z.2.F ht⟩) Z.2.2.2 hdg
/-- a field's link, of the class itself or of a nest mate -/
def FL (s : State) (args : Array Value) (own : String) (idx : Nat) (ref n d : String) : Prop := (Cond.fieldLink own idx ref n d).before args s = true ∨ ∃ host, (Cond.fieldLinkNest own idx ref n d host).before args s = true
def ML (s : State) (args : Array Value) (own : String) (idx : Nat) (y : MethodName) : Prop := (Cond.methodLink own idx y).before args s = true ∨ ∃ host, va_Nw (.methodLinkNest own idx y host) s
theorem fl_of (C : Cx p s m meth c args cc own nL ret n g) {o ref nm d : String} (h : Cond.fieldLink o idx ref nm d ∈ wsA) : FL s args o idx ref nm d := Or.inl (C.2.2.2.2.1 _ h)
theorem fl_nest (C : Cx p s m meth c args cc own nL ret n g) {o ref nm d host : String} (h : Cond.fieldLinkNest o idx ref nm d host ∈ nestW) : FL s args o idx ref nm d := Or.inr ⟨host, va_Nw.use rfl (C.2.2.2.2.2.2.2.1.2 _ h)⟩
theorem ml_of (C : Cx p s m meth c args cc own nL ret n g) {o : String} {y : MethodName} (h : Cond.methodLink o idx y ∈ wsA) : ML s args o idx y := Or.inl (C.2.2.2.2.1 _ h)
theorem ml_nest (C : Cx p s m meth c args cc own nL ret n g) {o host : String} {y : MethodName} (h : Cond.methodLinkNest o idx y host ∈ nestW) : ML s args o idx y := Or.inr ⟨host, C.2.2.2.2.2.2.2.1.2 _ h⟩
theorem r_get (C : Cx p s m meth c args cc own nL ret n g) (Z : Zx w g (Aw n g s.heap.size) s H locs u) {Cn : String} {T : u_T} {N ci q k : Nat} {fs : List Value} {a : Nat} (hin : ∀ x ∈ u_ws Cn T N, x ∈ wsA) (hc : vwCl[ci]? = some (Cn, T, N)) (he : (w g u)[q]? = some (a, .inr (ci, fs))) (hk : k < N) (hl : FL s args own idx (T k).1 (T k).2.1 (T k).2.2.1) {v : Value} (hv : fs[k]? = some v) (hdg : decode cc pc = .ok (.getfield idx, 3))
    (kk : W p l e R s m args below meth c H locs 0 0 Q (F0 m (pc + 3) ls (v :: rest))) : W p l e R s m args below meth c H locs 0 0 Q (F0 m pc ls (.ref a :: rest)) := by
  rcases hl with h | ⟨host, h⟩
  · exact va_get C.1 C.2.1 C.2.2.2.2.1 hin C.2.2.2.1 C.2.2.2.2.2.2.2.1.1 Z.1 q he hc k hk h (fun _ z => z) hv hdg kk
  · exact va_getN C.1 C.2.1 C.2.2.2.2.1 hin C.2.2.2.1 C.2.2.2.2.2.2.2.1.1 Z.1 q he hc k hk h (fun _ z => z) hv hdg kk
theorem r_put (C : Cx p s m meth c args cc own nL ret n g) (hw : Wok w n) (Z : Zx w g (Aw n g s.heap.size) s H locs u) {Cn : String} {T : u_T} {N ci q k : Nat} {fs : List Value} {a : Nat} (hin : ∀ x ∈ u_ws Cn T N, x ∈ wsA) (ty0 : Nat → FieldType) (hty : ∀ k, k < N → parseFieldDescriptor (T k).2.2.1 = some (ty0 k)) (hnm : ∀ a, a < N → ∀ b, b < N → a ≠ b → (T a).2.1 ≠ (T b).2.1) (hc : vwCl[ci]? = some (Cn, T, N)) (he : (w g u)[q]? = some (a, .inr (ci, fs))) (hk : k < N) (hl : FL s args own idx (T k).1 (T k).2.1 (T k).2.2.1) (hfin : (T k).2.2.2 = false) {ty : FieldType} {v : Value} (hd : parseFieldDescriptor (T k).2.2.1 = some ty) (hn : narrow ty v = v) (hfit : fits ty v = true) (hlen : k < fs.length) (hset : (w g u).set q (a, .inr (ci, fs.set k v)) = w g u') (hdg : decode cc pc = .ok (.putfield idx, 3))
    (kk : ∀ (H1 : Heap) (locs1 : List Loc), Zx w g (Aw n g s.heap.size) s H1 locs1 u' → W p l e R s m args below meth c H1 locs1 0 0 Q (F0 m (pc + 3) ls rest)) : W p l e R s m args below meth c H locs 0 0 Q (F0 m pc ls (v :: .ref a :: rest)) := by
  have hD := hw.D (u := u) C.2.2.2.2.2.2.2.2.2
  rcases hl with h | ⟨host, h⟩
  · exact va_put C.1 C.2.1 C.2.2.2.2.1 hin ty0 hty hnm C.2.2.2.1 C.2.2.2.2.2.2.2.1.1 Z.1 hD Z.2 q he hc k hk h (fun _ z => z) hfin hd hn hfit hlen hdg (fun H1 locs1 hP _ hS => kk H1 locs1 ⟨hset ▸ hP, hS⟩)
  · exact va_putN C.1 C.2.1 C.2.2.2.2.1 hin ty0 hty hnm C.2.2.2.1 C.2.2.2.2.2.2.2.1.1 Z.1 hD Z.2 q he hc k hk h (fun _ z => z) hfin hd hn hfit hlen hdg (fun H1 locs1 hP _ hS => kk H1 locs1 ⟨hset ▸ hP, hS⟩)
theorem r_ald (C : Cx p s m meth c args cc own nL ret n g) (Z : Zx w g (Aw n g s.heap.size) s H locs u) {q a N : Nat} {f : Nat → Int32} (ha : (w g u)[q]? = some (a, .inl (g.2.1.1, N, .inl f))) {i : Int32} {k : Nat} (hin : ¬ oob i N = true) (hk : i.toNatClampNeg = k) (hdg : decode cc pc = .ok (.iaload, 1)) {x : Int32} (hx : f k = x)
    (kk : W p l e R s m args below meth c H locs 0 0 Q (F0 m (pc + 1) ls (.int x :: rest))) : W p l e R s m args below meth c H locs 0 0 Q (F0 m pc ls (.int i :: .ref a :: rest)) :=
  va_iald C.1 C.2.1 C.2.2.2.2.2.2.2.1.1 Z.1 q 0 ha rfl (oob_in hin) hdg (by rw [hk, hx]; exact kk)
theorem r_zald (C : Cx p s m meth c args cc own nL ret n g) (Z : Zx w g (Aw n g s.heap.size) s H locs u) {q a N : Nat} {f : Nat → Int32} (ha : (w g u)[q]? = some (a, .inl (g.2.1.2.2.2, N, .inl f))) {i : Int32} {k : Nat} (hin : ¬ oob i N = true) (hk : i.toNatClampNeg = k) (hdg : decode cc pc = .ok (.baload, 1)) {x : Int32} (hx : f k = x)
    (kk : W p l e R s m args below meth c H locs 0 0 Q (F0 m (pc + 1) ls (.int x :: rest))) : W p l e R s m args below meth c H locs 0 0 Q (F0 m pc ls (.int i :: .ref a :: rest)) :=
  va_zald C.1 C.2.1 C.2.2.2.2.2.2.2.1.1 Z.1 q 3 ha rfl (oob_in hin) hdg (by rw [hk, hx]; exact kk)
theorem r_ast (C : Cx p s m meth c args cc own nL ret n g) (hw : Wok w n) (Z : Zx w g (Aw n g s.heap.size) s H locs u) {q a N : Nat} {f : Nat → Int32} (ha : (w g u)[q]? = some (a, .inl (g.2.1.1, N, .inl f))) {i x : Int32} {k : Nat} (hin : ¬ oob i N = true) (hk : i.toNatClampNeg = k) (hset : (w g u).set q (a, .inl (g.2.1.1, N, .inl (upd f k x))) = w g u') (hdg : decode cc pc = .ok (.iastore, 1))
    (kk : ∀ (H1 : Heap) (locs1 : List Loc), Zx w g (Aw n g s.heap.size) s H1 locs1 u' → W p l e R s m args below meth c H1 locs1 0 0 Q (F0 m (pc + 1) ls rest)) : W p l e R s m args below meth c H locs 0 0 Q (F0 m pc ls (.int x :: .int i :: .ref a :: rest)) :=
  va_iast C.1 C.2.1 C.2.2.2.2.2.2.2.1.1 Z.1 (hw.D C.2.2.2.2.2.2.2.2.2) Z.2 q 0 ha rfl (oob_in hin) hdg (fun H1 locs1 hP _ hS => kk H1 locs1 ⟨by rw [hk, hset] at hP; exact hP, hS⟩)
theorem r_zast (C : Cx p s m meth c args cc own nL ret n g) (hw : Wok w n) (Z : Zx w g (Aw n g s.heap.size) s H locs u) {q a N : Nat} {f : Nat → Int32} (ha : (w g u)[q]? = some (a, .inl (g.2.1.2.2.2, N, .inl f))) {i x : Int32} {k : Nat} (hx : nb x = true) (hin : ¬ oob i N = true) (hk : i.toNatClampNeg = k) (hset : (w g u).set q (a, .inl (g.2.1.2.2.2, N, .inl (upd f k x))) = w g u') (hdg : decode cc pc = .ok (.bastore, 1))
    (kk : ∀ (H1 : Heap) (locs1 : List Loc), Zx w g (Aw n g s.heap.size) s H1 locs1 u' → W p l e R s m args below meth c H1 locs1 0 0 Q (F0 m (pc + 1) ls rest)) : W p l e R s m args below meth c H locs 0 0 Q (F0 m pc ls (.int x :: .int i :: .ref a :: rest)) :=
  va_zast C.1 C.2.1 C.2.2.2.2.2.2.2.1.1 Z.1 (hw.D C.2.2.2.2.2.2.2.2.2) Z.2 q 3 ha rfl (oob_in hin) hdg (fun H1 locs1 hP _ hS => kk H1 locs1 ⟨by rw [nb_vp hx, hk, hset] at hP; exact hP, hS⟩)
/-- a row of rows: the row's address -/
theorem r_aldr (C : Cx p s m meth c args cc own nL ret n g) (Z : Zx w g (Aw n g s.heap.size) s H locs u) {q a N : Nat} {f : Nat → Option Nat} (ha : (w g u)[q]? = some (a, .inl (g.2.1.2.1, N, .inr (.inr (.inr (.inr f)))))) {i : Int32} (hin : ¬ oob i N = true) (hdg : decode cc pc = .ok (.aaload, 1)) {b : Nat} (hb : f i.toNatClampNeg = some b)
    (kk : W p l e R s m args below meth c H locs 0 0 Q (F0 m (pc + 1) ls (.ref b :: rest))) : W p l e R s m args below meth c H locs 0 0 Q (F0 m pc ls (.int i :: .ref a :: rest)) := by
  have hlt := oob_lt hin
  exact W.aald (v := .ref b) (ty := .array .int) C.1 C.2.1 (Z.1 q _ ha) ((C.2.2.2.2.2.2.2.1.1.2 1 _ rfl).1 N (fun j => va_rf (f j))) rfl (fun q => by cases q) (by show ¬ (i < 0 ∨ (arrV _ _ _).slots.size ≤ _); rw [arrV_size]; exact oob_in hin) (by show (arrV _ _ _).slots[_]? = _; rw [arrV_read _ _ hlt, hb]; rfl) rfl rfl hdg kk
theorem r_aldo (C : Cx p s m meth c args cc own nL ret n g) (Z : Zx w g (Aw n g s.heap.size) s H locs u) {q a N : Nat} {f : Nat → Option Nat} (ha : (w g u)[q]? = some (a, .inl (g.2.1.2.2.1, N, .inr (.inr (.inr (.inr f)))))) {i : Int32} (hin : ¬ oob i N = true) (hdg : decode cc pc = .ok (.aaload, 1)) {b : Nat} (hb : f i.toNatClampNeg = some b)
    (kk : W p l e R s m args below meth c H locs 0 0 Q (F0 m (pc + 1) ls (.ref b :: rest))) : W p l e R s m args below meth c H locs 0 0 Q (F0 m pc ls (.int i :: .ref a :: rest)) := by
  have hlt := oob_lt hin
  exact W.aald (v := .ref b) (ty := .object "AskedCocks$Present") C.1 C.2.1 (Z.1 q _ ha) ((C.2.2.2.2.2.2.2.1.1.2 2 _ rfl).1 N (fun j => va_rf (f j))) rfl (fun q => by cases q) (by show ¬ (i < 0 ∨ (arrV _ _ _).slots.size ≤ _); rw [arrV_size]; exact oob_in hin) (by show (arrV _ _ _).slots[_]? = _; rw [arrV_read _ _ hlt, hb]; rfl) rfl rfl hdg kk
theorem r_len (C : Cx p s m meth c args cc own nL ret n g) (Z : Zx w g (Aw n g s.heap.size) s H locs u) {q a t : Nat} {cA : ClassId} {ty : FieldType} {x : vp_A} (ha : (w g u)[q]? = some (a, .inl (cA, x))) (ht : (tyX g)[t]? = some (cA, ty)) {v : Int32} (hv : Int32.ofNat x.1 = v) (hdg : decode cc pc = .ok (.arraylength, 1))
    (kk : W p l e R s m args below meth c H locs 0 0 Q (F0 m (pc + 1) ls (.int v :: rest))) : W p l e R s m args below meth c H locs 0 0 Q (F0 m pc ls (.ref a :: rest)) :=
  va_alen C.1 C.2.1 C.2.2.2.2.2.2.2.1.1 Z.1 q t ha ht hv hdg kk
/-- a static row of Reader: its address, its length, its numbers -/
theorem r_gets (C : Cx p s m meth c args cc own nL ret n g) (Z : Zx w g (Aw n g s.heap.size) s H locs u) {nm d : String} {t : Nat} (h : va_Z "AskedCocks$Reader" nm d (.ref t) (Aw n g s.heap.size) s s.heap) (hl : Cond.fieldLink own idx "AskedCocks$Reader" nm d ∈ wsA) (hdg : decode cc pc = .ok (.getstatic idx, 3))
    (kk : W p l e R s m args below meth c H locs 0 0 Q (F0 m (pc + 3) ls (.ref t :: rest))) : W p l e R s m args below meth c H locs 0 0 Q (F0 m pc ls rest) :=
  va_gets C.1 C.2.1 h Z.2 C.2.2.2.1 (C.2.2.2.2.1 _ hl) (fun _ z => z) hdg kk
theorem r_tlen (C : Cx p s m meth c args cc own nL ret n g) (Z : Zx w g (Aw n g s.heap.size) s H locs u) {ty : FieldType} {t N : Nat} {f : Nat → Value} (h : va_T ty t N f (Aw n g s.heap.size) s s.heap) {v : Int32} (hv : Int32.ofNat N = v) (hdg : decode cc pc = .ok (.arraylength, 1))
    (kk : W p l e R s m args below meth c H locs 0 0 Q (F0 m (pc + 1) ls (.int v :: rest))) : W p l e R s m args below meth c H locs 0 0 Q (F0 m pc ls (.ref t :: rest)) :=
  va_tlen C.1 C.2.1 h Z.2 hv hdg kk
theorem r_ti (C : Cx p s m meth c args cc own nL ret n g) (Z : Zx w g (Aw n g s.heap.size) s H locs u) {t N : Nat} {f : Nat → Int32} (h : va_T .int t N (fun j => .int (f j)) (Aw n g s.heap.size) s s.heap) {i : Int32} (hin : ¬ oob i N = true) (hdg : decode cc pc = .ok (.iaload, 1))
    (kk : W p l e R s m args below meth c H locs 0 0 Q (F0 m (pc + 1) ls (.int (f i.toNatClampNeg) :: rest))) : W p l e R s m args below meth c H locs 0 0 Q (F0 m pc ls (.int i :: .ref t :: rest)) :=
  va_ti C.1 C.2.1 h Z.2 (oob_in hin) rfl hdg kk
theorem r_tc (C : Cx p s m meth c args cc own nL ret n g) (Z : Zx w g (Aw n g s.heap.size) s H locs u) {t N : Nat} {f : Nat → Int32} (h : va_T .char t N (fun j => .int (f j)) (Aw n g s.heap.size) s s.heap) {i : Int32} (hin : ¬ oob i N = true) (hdg : decode cc pc = .ok (.caload, 1))
    (kk : W p l e R s m args below meth c H locs 0 0 Q (F0 m (pc + 1) ls (.int (f i.toNatClampNeg) :: rest))) : W p l e R s m args below meth c H locs 0 0 Q (F0 m pc ls (.int i :: .ref t :: rest)) :=
  va_tc C.1 C.2.1 h Z.2 (oob_in hin) rfl hdg kk
-- calls
theorem wsG : wsA.all goodWord = true := List.all_eq_true.mpr fun w h => (List.mem_filter.mp h).2
theorem goodY {y : MethodName} {bytes : ByteArray} {maxL : Nat} {rt : Option FieldType} (h : Cond.code y bytes maxL rt ∈ wsA) : GoodIn wsA (wsY y bytes maxL rt) := by
  intro x hx
  rcases List.mem_cons.mp hx with rfl | hx
  · exact ⟨h, good_of_word (List.all_eq_true.mp wsG _ h)⟩
  · exact ⟨hx, good_of_word (List.all_eq_true.mp wsG _ hx)⟩
def MFs (y : MethodName) (bytes : ByteArray) (maxL : Nat) (rt : Option FieldType) (ny : Nat) : Prop := Cond.code y bytes maxL rt ∈ wsA ∧ Cond.static y ∈ wsA ∧ Cond.initialized y.cls ∈ wsA ∧ (y.cls ≠ "java/lang/invoke/MethodHandle" ∧ y.cls ≠ "java/lang/invoke/VarHandle") ∧ (parseMethodDescriptor y.desc).map (fun d => d.parameters.length) = some ny
def MFv (y : MethodName) (bytes : ByteArray) (maxL : Nat) (rt : Option FieldType) (ny : Nat) : Prop := Cond.code y bytes maxL rt ∈ wsA ∧ (Cond.instanceMethod y ∈ wsA ∧ Cond.selects y.cls y y ∈ wsA) ∧ Cond.initialized y.cls ∈ wsA ∧ (y.cls ≠ "java/lang/invoke/MethodHandle" ∧ y.cls ≠ "java/lang/invoke/VarHandle") ∧ (parseMethodDescriptor y.desc).map (fun d => d.parameters.length) = some ny
theorem pre_blind {As : List Value} {sz : Nat} : FrameBlind (va_Pc As (PreX w n g sz u)) := by
  intro a U gg mk q
  obtain ⟨h1, h2, h3, h4, h5, h6⟩ := q
  exact ⟨h1, h2, h3, h4, h5.same rfl, h6.go (fun _ _ _ => rfl) (Vm.Alike.refl U.vm) (fun _ h => h)⟩
theorem pre_at (C : Cx p s m meth c args cc own nL ret n g) (Z : Zx w g (Aw n g s.heap.size) s H locs u) {As : List Value} : ∀ U : State, U.heap = H → s.WarmedH U.vm → va_Pc As (PreX w n g H.size u) As.toArray U := by
  intro U hU hW
  subst hU
  refine ⟨rfl, rfl, Z.1, ⟨C.2.2.2.2.2.2.2.2.2.1, fun _ _ => trivial⟩, C.2.2.2.2.2.2.2.1.warm hW, C.2.2.2.2.2.2.2.2.1.go Z.2.2.1 hW.alike ?_⟩
  intro q hq
  rcases hq with h | h
  · exact Or.inl h
  · exact Or.inr (Nat.le_trans Z.2.1 h)
theorem free_at (Z : Zx w g (Aw n g s.heap.size) s H locs u) : ∀ q, Aw n g H.size q → Aw n g s.heap.size q := fun q h => h.elim Or.inl (fun h => Or.inr (Nat.le_trans Z.2.1 h))
theorem parsed {y : MethodName} {ny : Nat} (h : (parseMethodDescriptor y.desc).map (fun d => d.parameters.length) = some ny) : ∀ sig, parseMethodDescriptor y.desc = some sig → ny = sig.parameters.length := by
  intro sig hs
  rw [hs] at h
  exact (Option.some.inj h).symm
variable {y : MethodName} {bytes : ByteArray} {maxL ny : Nat} {rt : Option FieldType} {As st : List Value} {rm : Room} {v : St}
theorem run_s {Qc : Array Value → State → Outcome → State → Prop} {free : Addr → Prop} (C : Cx p s m meth c args cc own nL ret n g) (Z : Zx w g (Aw n g s.heap.size) s H locs u) (hM : Met l y (wsY y bytes maxL rt) rm (va_Pc As (PreX w n g H.size u)) Qc 0 0 free) (hm : MFs y bytes maxL rt ny) (hk : ML s args own idx y) (hn : As.length = ny) (hrm : rm.cells = 0 ∧ rm.slots = 0 ∧ rm.frames + 1 ≤ R.frames ∧ 8 + (maxL + 11) + rm.locals ≤ R.locals) (hst : st = As.reverse ++ rest) (hsz : ls.size = nL) (hw : (rest.map fun v => v.category).sum ≤ 8) (hdg : decode cc pc = .ok (.invokestatic idx, 3)) :
    va_Run p l e R s m args below meth c H locs 0 0 0 0 (F0 m pc ls st) rest (Qc As.toArray) free := by
  have S : CallFix p m c cc nL s args wsA own := ⟨C.1, C.2.1, C.2.2.1, C.2.2.2.1, C.2.2.2.2.1⟩
  have hts := C.2.2.2.2.1
  have hf : 0 + 0 ≤ R.cells ∧ 0 + 0 ≤ R.slots := ⟨Nat.zero_le _, Nat.zero_le _⟩
  have hW : 2 * (F0 m pc ls st).monitorRoom + (rest.map fun v => v.category).sum ≤ 8 := lv_room hw
  have hc : Cond.code y bytes maxL rt ∈ wsY y bytes maxL rt := List.mem_cons_self
  rcases hk with h | ⟨host, h⟩
  · exact va_runS S hM ⟨⟨hrm.1, hrm.2.1, hrm.2.2.1, hrm.2.2.2, pay_in hts (goodY hm.1), hc, hts _ hm.1, hts _ hm.2.2.1, hm.2.2.2.1, parsed hm.2.2.2.2, h⟩, hts _ hm.2.1⟩ ⟨pre_blind, pre_at C Z⟩ rfl hn hsz hst hW hdg hf
  · exact va_runSN S hM ⟨⟨⟨hrm.1, hrm.2.1, hrm.2.2.1, hrm.2.2.2, pay_in hts (goodY hm.1), hc⟩, hts _ hm.1, hts _ hm.2.2.1, hm.2.2.2.1, parsed hm.2.2.2.2, va_Nw.use rfl h⟩, hts _ hm.2.1, trivial⟩ ⟨pre_blind, pre_at C Z⟩ rfl hn hsz hst hW hdg hf
theorem run_v {Qc : Array Value → State → Outcome → State → Prop} {free : Addr → Prop} {b q ci : Nat} {fs : List Value} {T : u_T} {N : Nat} (C : Cx p s m meth c args cc own nL ret n g) (Z : Zx w g (Aw n g s.heap.size) s H locs u) (hM : Met l y (wsY y bytes maxL rt) rm (va_Pc (.ref b :: As) (PreX w n g H.size u)) Qc 0 0 free) (hm : MFv y bytes maxL rt ny) (hk : ML s args own idx y) (hc : vwCl[ci]? = some (y.cls, T, N)) (he : (w g u)[q]? = some (b, .inr (ci, fs))) (hn : As.length = ny) (hrm : rm.cells = 0 ∧ rm.slots = 0 ∧ rm.frames + 1 ≤ R.frames ∧ 8 + (maxL + 11) + rm.locals ≤ R.locals) (hst : st = As.reverse ++ .ref b :: rest) (hsz : ls.size = nL) (hw : (rest.map fun v => v.category).sum ≤ 8) (hdg : decode cc pc = .ok (.invokevirtual idx, 3)) :
    va_Run p l e R s m args below meth c H locs 0 0 0 0 (F0 m pc ls st) rest (Qc (Value.ref b :: As).toArray) free := by
  have S : CallFix p m c cc nL s args wsA own := ⟨C.1, C.2.1, C.2.2.1, C.2.2.2.1, C.2.2.2.2.1⟩
  have hts := C.2.2.2.2.1
  have hf : 0 + 0 ≤ R.cells ∧ 0 + 0 ≤ R.slots := ⟨Nat.zero_le _, Nat.zero_le _⟩
  have hW : 2 * (F0 m pc ls st).monitorRoom + (rest.map fun v => v.category).sum ≤ 8 := lv_room hw
  have hcc : Cond.code y bytes maxL rt ∈ wsY y bytes maxL rt := List.mem_cons_self
  have hr : ∃ cell : Cell, H[b]? = some cell ∧ cell.vm.isStatics = false ∧ s.vm.findClass y.cls = some cell.cls := va_recv C.2.2.2.2.2.2.2.1.1 Z.1 hc he
  rcases hk with h | ⟨host, h⟩
  · exact va_runV (C := y.cls) S hM ⟨⟨hrm.1, hrm.2.1, hrm.2.2.1, hrm.2.2.2, pay_in hts (goodY hm.1), hcc, hts _ hm.1, hts _ hm.2.2.1, hm.2.2.2.1, parsed hm.2.2.2.2, h⟩, hts _ hm.2.1.1, hts _ hm.2.1.2⟩ ⟨pre_blind, hr, pre_at C Z⟩ rfl hn hsz hst hW hdg hf
  · exact va_runVN (C := y.cls) S hM ⟨⟨⟨hrm.1, hrm.2.1, hrm.2.2.1, hrm.2.2.2, pay_in hts (goodY hm.1), hcc⟩, hts _ hm.1, hts _ hm.2.2.1, hm.2.2.2.1, parsed hm.2.2.2.2, va_Nw.use rfl h⟩, hts _ hm.2.1.1, hts _ hm.2.1.2⟩ ⟨pre_blind, hr, pre_at C Z⟩ rfl hn hsz hst hW hdg hf
theorem end_i {a : Array Value} {r : Int32} (Z : Zx w g (Aw n g s.heap.size) s H locs u) (hr : va_Run p l e R s m args below meth c H locs 0 0 0 0 (F0 m pc ls st) rest (va_Qi (fun r' v' => r' = r ∧ v' = v) (PostX w g) (Aw n g H.size) a) (Aw n g H.size))
    (kk : ∀ (H1 : Heap) (locs1 : List Loc), Zx w g (Aw n g s.heap.size) s H1 locs1 v → W p l e R s m args below meth c H1 locs1 0 0 Q (F0 m (pc + 3) ls (.int r :: rest))) : W p l e R s m args below meth c H locs 0 0 Q (F0 m pc ls st) :=
  va_calli hr Z.2 (fun q _ h => free_at Z q h) (free_at Z) (fun r' v' t H1 locs1 ht _ hp hB _ _ hS => by
    obtain ⟨rfl, rfl⟩ := hp
    exact kk H1 locs1 ⟨ht ▸ hB, hS⟩)
theorem end_j {a : Array Value} {r : Int64} (Z : Zx w g (Aw n g s.heap.size) s H locs u) (hr : va_Run p l e R s m args below meth c H locs 0 0 0 0 (F0 m pc ls st) rest (va_Ql (fun r' v' => r' = r ∧ v' = v) (PostX w g) (Aw n g H.size) a) (Aw n g H.size))
    (kk : ∀ (H1 : Heap) (locs1 : List Loc), Zx w g (Aw n g s.heap.size) s H1 locs1 v → W p l e R s m args below meth c H1 locs1 0 0 Q (F0 m (pc + 3) ls (.long r :: rest))) : W p l e R s m args below meth c H locs 0 0 Q (F0 m pc ls st) :=
  va_calll hr Z.2 (fun q _ h => free_at Z q h) (free_at Z) (fun r' v' t H1 locs1 ht _ hp hB _ _ hS => by
    obtain ⟨rfl, rfl⟩ := hp
    exact kk H1 locs1 ⟨ht ▸ hB, hS⟩)
theorem end_v {a : Array Value} (Z : Zx w g (Aw n g s.heap.size) s H locs u) (hr : va_Run p l e R s m args below meth c H locs 0 0 0 0 (F0 m pc ls st) rest (va_Qv (fun v' => v' = v) (PostX w g) (Aw n g H.size) a) (Aw n g H.size))
    (kk : ∀ (H1 : Heap) (locs1 : List Loc), Zx w g (Aw n g s.heap.size) s H1 locs1 v → W p l e R s m args below meth c H1 locs1 0 0 Q (F0 m (pc + 3) ls rest)) : W p l e R s m args below meth c H locs 0 0 Q (F0 m pc ls st) :=
  va_callv hr Z.2 (fun q _ h => free_at Z q h) (free_at Z) (fun v' t H1 locs1 ht _ hp hB _ _ hS => by
    subst hp
    exact kk H1 locs1 ⟨ht ▸ hB, hS⟩)
theorem call_si {r : Int32} (C : Cx p s m meth c args cc own nL ret n g) (Z : Zx w g (Aw n g s.heap.size) s H locs u) (hM : CI w n l y (wsY y bytes maxL rt) rm g As u r v) (hm : MFs y bytes maxL rt ny) (hk : ML s args own idx y) (hn : As.length = ny) (hrm : rm.cells = 0 ∧ rm.slots = 0 ∧ rm.frames + 1 ≤ R.frames ∧ 8 + (maxL + 11) + rm.locals ≤ R.locals) (hst : st = As.reverse ++ rest) (hsz : ls.size = nL) (hw : (rest.map fun v => v.category).sum ≤ 8) (hdg : decode cc pc = .ok (.invokestatic idx, 3))
    (kk : ∀ (H1 : Heap) (locs1 : List Loc), Zx w g (Aw n g s.heap.size) s H1 locs1 v → W p l e R s m args below meth c H1 locs1 0 0 Q (F0 m (pc + 3) ls (.int r :: rest))) : W p l e R s m args below meth c H locs 0 0 Q (F0 m pc ls st) := end_i Z (run_s C Z (hM H.size) hm hk hn hrm hst hsz hw hdg) kk
theorem call_sv (C : Cx p s m meth c args cc own nL ret n g) (Z : Zx w g (Aw n g s.heap.size) s H locs u) (hM : CV w n l y (wsY y bytes maxL rt) rm g As u v) (hm : MFs y bytes maxL rt ny) (hk : ML s args own idx y) (hn : As.length = ny) (hrm : rm.cells = 0 ∧ rm.slots = 0 ∧ rm.frames + 1 ≤ R.frames ∧ 8 + (maxL + 11) + rm.locals ≤ R.locals) (hst : st = As.reverse ++ rest) (hsz : ls.size = nL) (hw : (rest.map fun v => v.category).sum ≤ 8) (hdg : decode cc pc = .ok (.invokestatic idx, 3))
    (kk : ∀ (H1 : Heap) (locs1 : List Loc), Zx w g (Aw n g s.heap.size) s H1 locs1 v → W p l e R s m args below meth c H1 locs1 0 0 Q (F0 m (pc + 3) ls rest)) : W p l e R s m args below meth c H locs 0 0 Q (F0 m pc ls st) := end_v Z (run_s C Z (hM H.size) hm hk hn hrm hst hsz hw hdg) kk
theorem call_vi {r : Int32} {b q ci : Nat} {fs : List Value} {T : u_T} {N : Nat} (C : Cx p s m meth c args cc own nL ret n g) (Z : Zx w g (Aw n g s.heap.size) s H locs u) (hM : CI w n l y (wsY y bytes maxL rt) rm g (.ref b :: As) u r v) (hm : MFv y bytes maxL rt ny) (hk : ML s args own idx y) (hc : vwCl[ci]? = some (y.cls, T, N)) (he : (w g u)[q]? = some (b, .inr (ci, fs))) (hn : As.length = ny) (hrm : rm.cells = 0 ∧ rm.slots = 0 ∧ rm.frames + 1 ≤ R.frames ∧ 8 + (maxL + 11) + rm.locals ≤ R.locals) (hst : st = As.reverse ++ .ref b :: rest) (hsz : ls.size = nL) (hw : (rest.map fun v => v.category).sum ≤ 8) (hdg : decode cc pc = .ok (.invokevirtual idx, 3))
    (kk : ∀ (H1 : Heap) (locs1 : List Loc), Zx w g (Aw n g s.heap.size) s H1 locs1 v → W p l e R s m args below meth c H1 locs1 0 0 Q (F0 m (pc + 3) ls (.int r :: rest))) : W p l e R s m args below meth c H locs 0 0 Q (F0 m pc ls st) := end_i Z (run_v C Z (hM H.size) hm hk hc he hn hrm hst hsz hw hdg) kk
theorem call_vj {r : Int64} {b q ci : Nat} {fs : List Value} {T : u_T} {N : Nat} (C : Cx p s m meth c args cc own nL ret n g) (Z : Zx w g (Aw n g s.heap.size) s H locs u) (hM : CJ w n l y (wsY y bytes maxL rt) rm g (.ref b :: As) u r v) (hm : MFv y bytes maxL rt ny) (hk : ML s args own idx y) (hc : vwCl[ci]? = some (y.cls, T, N)) (he : (w g u)[q]? = some (b, .inr (ci, fs))) (hn : As.length = ny) (hrm : rm.cells = 0 ∧ rm.slots = 0 ∧ rm.frames + 1 ≤ R.frames ∧ 8 + (maxL + 11) + rm.locals ≤ R.locals) (hst : st = As.reverse ++ .ref b :: rest) (hsz : ls.size = nL) (hw : (rest.map fun v => v.category).sum ≤ 8) (hdg : decode cc pc = .ok (.invokevirtual idx, 3))
    (kk : ∀ (H1 : Heap) (locs1 : List Loc), Zx w g (Aw n g s.heap.size) s H1 locs1 v → W p l e R s m args below meth c H1 locs1 0 0 Q (F0 m (pc + 3) ls (.long r :: rest))) : W p l e R s m args below meth c H locs 0 0 Q (F0 m pc ls st) := end_j Z (run_v C Z (hM H.size) hm hk hc he hn hrm hst hsz hw hdg) kk
theorem call_vv {b q ci : Nat} {fs : List Value} {T : u_T} {N : Nat} (C : Cx p s m meth c args cc own nL ret n g) (Z : Zx w g (Aw n g s.heap.size) s H locs u) (hM : CV w n l y (wsY y bytes maxL rt) rm g (.ref b :: As) u v) (hm : MFv y bytes maxL rt ny) (hk : ML s args own idx y) (hc : vwCl[ci]? = some (y.cls, T, N)) (he : (w g u)[q]? = some (b, .inr (ci, fs))) (hn : As.length = ny) (hrm : rm.cells = 0 ∧ rm.slots = 0 ∧ rm.frames + 1 ≤ R.frames ∧ 8 + (maxL + 11) + rm.locals ≤ R.locals) (hst : st = As.reverse ++ .ref b :: rest) (hsz : ls.size = nL) (hw : (rest.map fun v => v.category).sum ≤ 8) (hdg : decode cc pc = .ok (.invokevirtual idx, 3))
    (kk : ∀ (H1 : Heap) (locs1 : List Loc), Zx w g (Aw n g s.heap.size) s H1 locs1 v → W p l e R s m args below meth c H1 locs1 0 0 Q (F0 m (pc + 3) ls rest)) : W p l e R s m args below meth c H locs 0 0 Q (F0 m pc ls st) := end_v Z (run_v C Z (hM H.size) hm hk hc he hn hrm hst hsz hw hdg) kk
-- the JDK's own
theorem r_max (C : Cx p s m meth c args cc own nL ret n g) (hk : Cond.methodLink own idx Lib.Math.max.name ∈ wsA) (hw : (Cond.static Lib.Math.max.name ∈ wsA ∧ Cond.initialized "java/lang/Math" ∈ wsA) ∧ Cond.code Lib.Math.max.name Lib.Math.max.code 2 (some .int) ∈ wsA) (hsz : ls.size = nL) (hf : 1 ≤ R.frames) (hlo : (rest.map fun v => v.category).sum + 13 ≤ R.locals) {x y : Int32} (hdg : decode cc pc = .ok (.invokestatic idx, 3))
    (kk : W p l e R s m args below meth c H locs 0 0 Q (F0 m (pc + 3) ls (.int (if x < y then y else x) :: rest))) : W p l e R s m args below meth c H locs 0 0 Q (F0 m pc ls (.int y :: .int x :: rest)) :=
  va_mmax C.1 C.2.1 (C.2.2.1.trans hsz.symm) C.2.2.2.1 (C.2.2.2.2.1 _ hk) (C.2.2.2.2.1 _ hw.1.1) (C.2.2.2.2.1 _ hw.1.2) (C.2.2.2.2.1 _ hw.2) hf hlo (Nat.zero_le _) (Nat.zero_le _) hdg kk
theorem r_min (C : Cx p s m meth c args cc own nL ret n g) (hk : Cond.methodLink own idx Lib.Math.min.name ∈ wsA) (hw : (Cond.static Lib.Math.min.name ∈ wsA ∧ Cond.initialized "java/lang/Math" ∈ wsA) ∧ Cond.code Lib.Math.min.name Lib.Math.min.code 2 (some .int) ∈ wsA) (hsz : ls.size = nL) (hf : 1 ≤ R.frames) (hlo : (rest.map fun v => v.category).sum + 13 ≤ R.locals) {x y : Int32} (hdg : decode cc pc = .ok (.invokestatic idx, 3))
    (kk : W p l e R s m args below meth c H locs 0 0 Q (F0 m (pc + 3) ls (.int (if y < x then y else x) :: rest))) : W p l e R s m args below meth c H locs 0 0 Q (F0 m pc ls (.int y :: .int x :: rest)) :=
  va_mmin C.1 C.2.1 (C.2.2.1.trans hsz.symm) C.2.2.2.1 (C.2.2.2.2.1 _ hk) (C.2.2.2.2.1 _ hw.1.1) (C.2.2.2.2.1 _ hw.1.2) (C.2.2.2.2.1 _ hw.2) hf hlo (Nat.zero_le _) (Nat.zero_le _) hdg kk
theorem r_abs (C : Cx p s m meth c args cc own nL ret n g) (hk : Cond.methodLink own idx Lib.Math.abs.name ∈ wsA) (hw : (Cond.static Lib.Math.abs.name ∈ wsA ∧ Cond.initialized "java/lang/Math" ∈ wsA) ∧ Cond.code Lib.Math.abs.name Lib.Math.abs.code 1 (some .int) ∈ wsA) (hsz : ls.size = nL) (hf : 1 ≤ R.frames) (hlo : (rest.map fun v => v.category).sum + 13 ≤ R.locals) {x : Int32} (hdg : decode cc pc = .ok (.invokestatic idx, 3))
    (kk : W p l e R s m args below meth c H locs 0 0 Q (F0 m (pc + 3) ls (.int (if 0 ≤ x then x else 0 - x) :: rest))) : W p l e R s m args below meth c H locs 0 0 Q (F0 m pc ls (.int x :: rest)) :=
  va_mabs C.1 C.2.1 (C.2.2.1.trans hsz.symm) C.2.2.2.1 (C.2.2.2.2.1 _ hk) (C.2.2.2.2.1 _ hw.1.1) (C.2.2.2.2.1 _ hw.1.2) (C.2.2.2.2.1 _ hw.2) hf hlo (Nat.zero_le _) (Nat.zero_le _) hdg kk
/-- a stretch outside its row -/
def oobs (sp n : Int32) (N : Nat) : Bool := decide (sp < 0 ∨ n < 0 ∨ N < sp.toNatClampNeg + n.toNatClampNeg)
theorem oobs_ok {sp k : Int32} {N : Nat} (h : ¬ oobs sp k N = true) : ¬ sp < 0 ∧ ¬ k < 0 ∧ sp.toNatClampNeg + k.toNatClampNeg ≤ N := by
  refine ⟨fun q => h (decide_eq_true (Or.inl q)), fun q => h (decide_eq_true (Or.inr (Or.inl q))), Nat.not_lt.mp fun q => h (decide_eq_true (Or.inr (Or.inr q)))⟩
theorem r_copy (C : Cx p s m meth c args cc own nL ret n g) (hwk : Wok w n) (Z : Zx w g (Aw n g s.heap.size) s H locs u) (hk : Cond.methodLink own idx arraycopyName ∈ wsA) (hw : (Cond.native arraycopyName ∈ wsA ∧ Cond.static arraycopyName ∈ wsA) ∧ Cond.initialized "java/lang/System" ∈ wsA) (hsz : ls.size = nL) (hf : 1 ≤ R.frames) (hlo : (rest.map fun v => v.category).sum + (nativeFrameWords "java/lang/System" "arraycopy" 5 + 11) ≤ R.locals) {q0 q1 a0 a1 n0 n1 : Nat} {f f1 : Nat → Int32} (ha0 : (w g u)[q0]? = some (a0, .inl (g.2.1.1, n0, .inl f))) (ha1 : (w g u)[q1]? = some (a1, .inl (g.2.1.1, n1, .inl f1))) {sp dp k : Int32} {m1 m2 m3 : Nat} (h0 : ¬ oobs sp k n0 = true) (h1 : ¬ oobs dp k n1 = true) (hm1 : sp.toNatClampNeg = m1) (hm2 : dp.toNatClampNeg = m2) (hm3 : k.toNatClampNeg = m3) (hset : (w g u).set q1 (a1, .inl (g.2.1.1, n1, .inl (va_cpy f f1 m1 m2 m3))) = w g u') (hdg : decode cc pc = .ok (.invokestatic idx, 3))
    (kk : ∀ (H1 : Heap) (locs1 : List Loc), Zx w g (Aw n g s.heap.size) s H1 locs1 u' → W p l e R s m args below meth c H1 locs1 0 0 Q (F0 m (pc + 3) ls rest)) : W p l e R s m args below meth c H locs 0 0 Q (F0 m pc ls (.int k :: .int dp :: .ref a1 :: .int sp :: .ref a0 :: rest)) := by
  obtain ⟨e1, e2, e3⟩ := oobs_ok h0
  obtain ⟨e4, -, e5⟩ := oobs_ok h1
  exact va_copyi C.1 C.2.1 (C.2.2.1.trans hsz.symm) C.2.2.2.1 (C.2.2.2.2.1 _ hk) (C.2.2.2.2.1 _ hw.1.1) (C.2.2.2.2.1 _ hw.1.2) (C.2.2.2.2.1 _ hw.2) C.2.2.2.2.2.2.2.1.1 Z.1 (hwk.D C.2.2.2.2.2.2.2.2.2) Z.2 q0 q1 0 0 ha0 ha1 rfl rfl rfl e1 e4 e2 e3 e5 (fun _ _ => rfl) hf hlo hdg (fun H1 locs1 hP _ hS => kk H1 locs1 ⟨by rw [hm1, hm2, hm3, hset] at hP; exact hP, hS⟩)
end ROWS
