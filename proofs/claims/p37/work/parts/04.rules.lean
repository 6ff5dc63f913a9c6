section RULES
/-- the words that a contract carries; the nests' words -/
def gg_W : List Cond := lw_tbl.filter goodWord
def nn_b (w : Cond) : Bool := match w with
  | .fieldLinkNest .. => true
  | .methodLinkNest .. => true
  | _ => false
def nn_W : List Cond := tables_1.filter nn_b
theorem gg_good {w : Cond} (h : w ∈ gg_W) : (w.onTables && w.keeps) = true ∨ ∃ ty, w = .arrayClass ty := good_of_word (List.mem_filter.mp h).2
theorem nn_warm {w : Cond} (hb : nn_b w = true) {s U : State} (hW : s.WarmedH U.vm) (h : va_Nw w s) : va_Nw w U := by
  cases w <;> first | exact va_Nw.warmF hW h | exact va_Nw.warmM hW h | (simp [nn_b] at hb)
abbrev sk_L (E : sk_V) : Nat := E.2.2.2.2.1
abbrev sk_x (E : sk_V) : Nat → Int32 := E.2.2.2.2.2
def ab_L : List Int32 := [-1, 0, 0, 0, 1, 2, 0]
def bo_L : List Int32 := [10, 11, 12, 13, 20, 0, 0, 21, 0, 30, 0, 0, 0, 0, 40, 0, 50, 0, 51, 0, 0, 60, 0, 0, 70, 71, 0, 0]
/-- what is only read: the script, two rows -/
def sk_ro (E : sk_V) (k : Nat) : Option (Nat × (Nat → Int32)) := match k with
  | 67 => some (sk_L E, sk_x E)
  | 68 => some (7, fun j => ab_L.getD j 0)
  | 69 => some (28, fun j => bo_L.getD j 0)
  | _ => none
def st_K : List (String × String × Nat) := [("PromisedFish", "ABOVE", 68), ("PromisedFish$Voices", "BODIES", 69)]
def sk_F (E : sk_V) (s : State) : Prop :=
  va_K (sk_G E) vwCl (sk_y E) s ∧ (∀ i j, i < 67 → j < 67 → sk_a E i = sk_a E j → i = j) ∧
  (∀ k n f, sk_ro E k = some (n, f) → va_T .int (sk_a E k) n (fun j => .int (f j)) (sk_A E) s s.heap) ∧
  (∀ q ∈ st_K, va_Z q.1 q.2.1 "[I" (.ref (sk_a E q.2.2)) (sk_A E) s s.heap) ∧
  vk_S 1 [6] [[99, 115, 110, 112, 116, 110]] (fun _ => sk_a E 70) (fun _ => sk_a E 71) (sk_A E) s s.heap ∧
  vk_R "PromisedFish$Reader" 82 "csnptn" (sk_a E 70) s ∧
  va_Z "java/lang/String" "COMPACT_STRINGS" "Z" (.int 1) (sk_A E) s s.heap ∧
  va_Zq "jdk/internal/util/Preconditions" "SIOOBE_FORMATTER" "Ljava/util/function/BiFunction;" (sk_A E) s s.heap ∧
  ∀ w ∈ nn_W, va_Nw w s
theorem sk_F.go {E : sk_V} {s U : State} (h : sk_F E s) (hW : s.WarmedH U.vm) (hq : ∀ a, a < s.heap.size → ¬ sk_A E a → U.heap[a]? = s.heap[a]?) : sk_F E U := by
  obtain ⟨h1, h2, h3, h4, h5, h6, h7, h8, h9⟩ := h
  exact ⟨va_K.moved hW.alike h1, h2, fun k n f e => va_T.kept (va_T.moved hW.alike (h3 k n f e)) hq, fun q e => va_Z.kept (va_Z.moved hW.alike (h4 q e)) hq, vk_S.kept (vk_S.moved hW.alike h5) hq, vk_R.warm hW h6, va_Z.kept (va_Z.moved hW.alike h7) hq, va_Zq.kept (va_Zq.moved hW.alike h8) hq, fun w hw => nn_warm (List.mem_filter.mp hw).2 hW (h9 w hw)⟩
/-- a method: its name, code, locals, what it returns -/
abbrev sk_m : Type := MethodName × ByteArray × Nat × Option FieldType
def sk_C (E : sk_V) (d : Nat) (M : sk_m) (p : Program) (R : Room) (s : State) (m : MethodId) (args : Array Value) (meth : Method) (c : Code) : Prop :=
  p.tables.exec = Jvm.exec ∧ c.code = M.2.1 ∧ c.maxLocals = M.2.2.1 ∧ s.vm.findClass M.1.cls = some m.cls ∧ (∀ w ∈ gg_W, w.before args s = true) ∧ sk_F E s ∧ meth.sig.returnType = M.2.2.2 ∧ meth.locks = false ∧ d ≤ R.frames ∧ 60 * d ≤ R.locals
def sk_l (E : sk_V) (ls : Array Slot) (L : List (Option Value)) : Prop := ls.size = L.length ∧ lv_wf ls ∧ ∀ (i : Nat) (v : Value), L[i]? = some (some v) → ls[i]? = some (.val (sk_v E v))
def sk_ret (M : sk_m) (pc : Nat) (r : Option Value) : Prop := (∃ (v : Int32) (ty : FieldType), r = some (.int v) ∧ M.2.2.2 = some ty ∧ narrow ty (.int v) = .int v ∧ decode M.2.1 pc = .ok (.ireturn, 1)) ∨ (r = none ∧ M.2.2.2 = none ∧ decode M.2.1 pc = .ok (.return_, 1))
/-- from this place, with these locals, stack and memory, the method comes to its end, where Q holds -/
def sk_S (l : Launch) (E : sk_V) (d : Nat) (M : sk_m) (pc : Nat) (L : List (Option Value)) (St : List Value) (h : sk_M) (Q : Option Value → sk_M → Prop) : Prop :=
  ∀ (p : Program) (e : Env) (R : Room) (s : State) (m : MethodId) (args : Array Value) (below : List Frame) (meth : Method) (c : Code) (cells slots : Nat) (Z : State → Prop), sk_C E d M p R s m args meth c → cells ≤ R.cells → slots ≤ R.slots →
  (∀ (r : Option Value) (h1 : sk_M) (H : Heap) (locs : List Loc) (pc1 : Nat) (ls : Array Slot), Q r h1 → va_P (sk_G E) vwCl (sk_W E h1) H → va_S (sk_A E) s.heap H locs → sk_ret M pc1 r → W p l e R s m args below meth c H locs cells slots Z (F0 m pc1 ls (r.toList.map (sk_v E)))) →
  ∀ (H : Heap) (locs : List Loc) (ls : Array Slot), va_P (sk_G E) vwCl (sk_W E h) H → va_S (sk_A E) s.heap H locs → sk_l E ls L → W p l e R s m args below meth c H locs cells slots Z (F0 m pc ls (St.map (sk_v E)))
variable {l : Launch} {E : sk_V} {d : Nat} {M : sk_m} {pc : Nat} {L : List (Option Value)} {St : List Value} {h : sk_M} {Q : Option Value → sk_M → Prop}
theorem sk_S.mono {Q1 : Option Value → sk_M → Prop} (k : sk_S l E d M pc L St h Q1) (hq : ∀ r h1, Q1 r h1 → Q r h1) : sk_S l E d M pc L St h Q := by
  intro p e R s m args below meth c ce so Z C hc hs hz H locs ls hP hS hl
  exact k p e R s m args below meth c ce so Z C hc hs (fun r h1 H locs pc1 ls q => hz r h1 H locs pc1 ls (hq r h1 q)) H locs ls hP hS hl
/-- the end -/
theorem sk_S.ret {r : Option Value} (hst : St = r.toList) (hr : sk_ret M pc r) (hq : Q r h) : sk_S l E d M pc L St h Q := by
  intro p e R s m args below meth c ce so Z C hc hs hz H locs ls hP hS hl
  subst hst
  exact hz r h H locs pc ls hq hP hS hr
theorem sk_S.iret {v : Int32} {ty : FieldType} (hd : decode M.2.1 pc = .ok (.ireturn, 1)) (hr : M.2.2.2 = some ty) (hn : narrow ty (.int v) = .int v) (hq : Q (some (.int v)) h) : sk_S l E d M pc L [.int v] h Q :=
  sk_S.ret (r := some (.int v)) rfl (Or.inl ⟨v, ty, rfl, hr, hn, hd⟩) hq
theorem sk_S.vret (hd : decode M.2.1 pc = .ok (.return_, 1)) (hr : M.2.2.2 = none) (hq : Q none h) : sk_S l E d M pc L [] h Q :=
  sk_S.ret (r := none) rfl (Or.inr ⟨rfl, hr, hd⟩) hq
theorem sk_S.iconst {n : Int} {v : Int32} (hd : decode M.2.1 pc = .ok (.iconst n, 1)) (hv : Int32.ofInt n = v) (k : sk_S l E d M (pc + 1) L (.int v :: St) h Q) : sk_S l E d M pc L (St) h Q := by
  intro p e R s m args below meth c ce so Z C hc hs hz H locs ls hP hS hl
  exact lv_iconst C.1 C.2.1 hd hv (k p e R s m args below meth c ce so Z C hc hs hz H locs ls hP hS hl)
theorem sk_S.bipush {n : Int} {v : Int32} (hd : decode M.2.1 pc = .ok (.bipush n, 2)) (hv : (Int8.ofInt n).toInt32 = v) (k : sk_S l E d M (pc + 2) L (.int v :: St) h Q) : sk_S l E d M pc L (St) h Q := by
  intro p e R s m args below meth c ce so Z C hc hs hz H locs ls hP hS hl
  exact lv_bipush C.1 C.2.1 hd hv (k p e R s m args below meth c ce so Z C hc hs hz H locs ls hP hS hl)
theorem sk_S.sipush {n : Int} {v : Int32} (hd : decode M.2.1 pc = .ok (.sipush n, 3)) (hv : (Int16.ofInt n).toInt32 = v) (k : sk_S l E d M (pc + 3) L (.int v :: St) h Q) : sk_S l E d M pc L (St) h Q := by
  intro p e R s m args below meth c ce so Z C hc hs hz H locs ls hP hS hl
  exact lv_sipush C.1 C.2.1 hd hv (k p e R s m args below meth c ce so Z C hc hs hz H locs ls hP hS hl)
theorem sk_S.iload_n {q : Fin 4} {i : Nat} {x : Int32} (hd : decode M.2.1 pc = .ok (.iload_n q, 1)) (hi : (q : Nat) = i) (hL : L[i]? = some (some (.int x))) (k : sk_S l E d M (pc + 1) L (.int x :: St) h Q) : sk_S l E d M pc L (St) h Q := by
  intro p e R s m args below meth c ce so Z C hc hs hz H locs ls hP hS hl
  exact lv_iload_n C.1 C.2.1 hd hi (hl.2.2 i _ hL) (k p e R s m args below meth c ce so Z C hc hs hz H locs ls hP hS hl)
theorem sk_S.lload_n {q : Fin 4} {i : Nat} {x : Int64} (hd : decode M.2.1 pc = .ok (.lload_n q, 1)) (hi : (q : Nat) = i) (hL : L[i]? = some (some (.long x))) (k : sk_S l E d M (pc + 1) L (.long x :: St) h Q) : sk_S l E d M pc L (St) h Q := by
  intro p e R s m args below meth c ce so Z C hc hs hz H locs ls hP hS hl
  exact lv_lload_n C.1 C.2.1 hd hi (hl.2.2 i _ hL) (k p e R s m args below meth c ce so Z C hc hs hz H locs ls hP hS hl)
theorem sk_S.iload {i : Nat} {x : Int32} (hd : decode M.2.1 pc = .ok (.iload i, 2)) (hL : L[i]? = some (some (.int x))) (k : sk_S l E d M (pc + 2) L (.int x :: St) h Q) : sk_S l E d M pc L (St) h Q := by
  intro p e R s m args below meth c ce so Z C hc hs hz H locs ls hP hS hl
  exact lv_iload C.1 C.2.1 hd (hl.2.2 i _ hL) (k p e R s m args below meth c ce so Z C hc hs hz H locs ls hP hS hl)
theorem sk_S.aload_n {q : Fin 4} {i : Nat} {x : Nat} (hd : decode M.2.1 pc = .ok (.aload_n q, 1)) (hi : (q : Nat) = i) (hL : L[i]? = some (some (.ref x))) (k : sk_S l E d M (pc + 1) L (.ref x :: St) h Q) : sk_S l E d M pc L (St) h Q := by
  intro p e R s m args below meth c ce so Z C hc hs hz H locs ls hP hS hl
  exact lv_aload_n C.1 C.2.1 hd hi (hl.2.2 i _ hL) (k p e R s m args below meth c ce so Z C hc hs hz H locs ls hP hS hl)
theorem sk_S.aload {i : Nat} {x : Nat} (hd : decode M.2.1 pc = .ok (.aload i, 2)) (hL : L[i]? = some (some (.ref x))) (k : sk_S l E d M (pc + 2) L (.ref x :: St) h Q) : sk_S l E d M pc L (St) h Q := by
  intro p e R s m args below meth c ce so Z C hc hs hz H locs ls hP hS hl
  exact lv_aload C.1 C.2.1 hd (hl.2.2 i _ hL) (k p e R s m args below meth c ce so Z C hc hs hz H locs ls hP hS hl)
theorem sk_S.iadd {x y : Int32} (hd : decode M.2.1 pc = .ok (.iadd, 1)) (k : sk_S l E d M (pc + 1) L (.int (x + y) :: St) h Q) : sk_S l E d M pc L (.int y :: .int x :: St) h Q := by
  intro p e R s m args below meth c ce so Z C hc hs hz H locs ls hP hS hl
  exact lv_iadd C.1 C.2.1 hd (k p e R s m args below meth c ce so Z C hc hs hz H locs ls hP hS hl)
theorem sk_S.isub {x y : Int32} (hd : decode M.2.1 pc = .ok (.isub, 1)) (k : sk_S l E d M (pc + 1) L (.int (x - y) :: St) h Q) : sk_S l E d M pc L (.int y :: .int x :: St) h Q := by
  intro p e R s m args below meth c ce so Z C hc hs hz H locs ls hP hS hl
  exact lv_isub C.1 C.2.1 hd (k p e R s m args below meth c ce so Z C hc hs hz H locs ls hP hS hl)
theorem sk_S.imul {x y : Int32} (hd : decode M.2.1 pc = .ok (.imul, 1)) (k : sk_S l E d M (pc + 1) L (.int (x * y) :: St) h Q) : sk_S l E d M pc L (.int y :: .int x :: St) h Q := by
  intro p e R s m args below meth c ce so Z C hc hs hz H locs ls hP hS hl
  exact lv_imul C.1 C.2.1 hd (k p e R s m args below meth c ce so Z C hc hs hz H locs ls hP hS hl)
theorem sk_S.iand {x y : Int32} (hd : decode M.2.1 pc = .ok (.iand, 1)) (k : sk_S l E d M (pc + 1) L (.int (x &&& y) :: St) h Q) : sk_S l E d M pc L (.int y :: .int x :: St) h Q := by
  intro p e R s m args below meth c ce so Z C hc hs hz H locs ls hP hS hl
  exact lv_iand C.1 C.2.1 hd (k p e R s m args below meth c ce so Z C hc hs hz H locs ls hP hS hl)
theorem sk_S.ior {x y : Int32} (hd : decode M.2.1 pc = .ok (.ior, 1)) (k : sk_S l E d M (pc + 1) L (.int (x ||| y) :: St) h Q) : sk_S l E d M pc L (.int y :: .int x :: St) h Q := by
  intro p e R s m args below meth c ce so Z C hc hs hz H locs ls hP hS hl
  exact lv_ior C.1 C.2.1 hd (k p e R s m args below meth c ce so Z C hc hs hz H locs ls hP hS hl)
theorem sk_S.ixor {x y : Int32} (hd : decode M.2.1 pc = .ok (.ixor, 1)) (k : sk_S l E d M (pc + 1) L (.int (x ^^^ y) :: St) h Q) : sk_S l E d M pc L (.int y :: .int x :: St) h Q := by
  intro p e R s m args below meth c ce so Z C hc hs hz H locs ls hP hS hl
  exact lv_ixor C.1 C.2.1 hd (k p e R s m args below meth c ce so Z C hc hs hz H locs ls hP hS hl)
theorem sk_S.ishl {x y : Int32} (hd : decode M.2.1 pc = .ok (.ishl, 1)) (k : sk_S l E d M (pc + 1) L (.int (x <<< (y &&& 31)) :: St) h Q) : sk_S l E d M pc L (.int y :: .int x :: St) h Q := by
  intro p e R s m args below meth c ce so Z C hc hs hz H locs ls hP hS hl
  exact lv_ishl C.1 C.2.1 hd (k p e R s m args below meth c ce so Z C hc hs hz H locs ls hP hS hl)
theorem sk_S.ishr {x y : Int32} (hd : decode M.2.1 pc = .ok (.ishr, 1)) (k : sk_S l E d M (pc + 1) L (.int (x >>> (y &&& 31)) :: St) h Q) : sk_S l E d M pc L (.int y :: .int x :: St) h Q := by
  intro p e R s m args below meth c ce so Z C hc hs hz H locs ls hP hS hl
  exact lv_ishr C.1 C.2.1 hd (k p e R s m args below meth c ce so Z C hc hs hz H locs ls hP hS hl)
theorem sk_S.idiv {x y : Int32} (hd : decode M.2.1 pc = .ok (.idiv, 1)) (hne : ¬ y = 0) (k : sk_S l E d M (pc + 1) L (.int (x / y) :: St) h Q) : sk_S l E d M pc L (.int y :: .int x :: St) h Q := by
  intro p e R s m args below meth c ce so Z C hc hs hz H locs ls hP hS hl
  exact lv_idiv C.1 C.2.1 hd hne (k p e R s m args below meth c ce so Z C hc hs hz H locs ls hP hS hl)
theorem sk_S.irem {x y : Int32} (hd : decode M.2.1 pc = .ok (.irem, 1)) (hne : ¬ y = 0) (k : sk_S l E d M (pc + 1) L (.int (x - x / y * y) :: St) h Q) : sk_S l E d M pc L (.int y :: .int x :: St) h Q := by
  intro p e R s m args below meth c ce so Z C hc hs hz H locs ls hP hS hl
  exact lv_irem C.1 C.2.1 hd hne (k p e R s m args below meth c ce so Z C hc hs hz H locs ls hP hS hl)
theorem sk_S.land {x y : Int64} (hd : decode M.2.1 pc = .ok (.land, 1)) (k : sk_S l E d M (pc + 1) L (.long (x &&& y) :: St) h Q) : sk_S l E d M pc L (.long y :: .long x :: St) h Q := by
  intro p e R s m args below meth c ce so Z C hc hs hz H locs ls hP hS hl
  exact lv_land C.1 C.2.1 hd (k p e R s m args below meth c ce so Z C hc hs hz H locs ls hP hS hl)
theorem sk_S.lor {x y : Int64} (hd : decode M.2.1 pc = .ok (.lor, 1)) (k : sk_S l E d M (pc + 1) L (.long (x ||| y) :: St) h Q) : sk_S l E d M pc L (.long y :: .long x :: St) h Q := by
  intro p e R s m args below meth c ce so Z C hc hs hz H locs ls hP hS hl
  exact lv_lor C.1 C.2.1 hd (k p e R s m args below meth c ce so Z C hc hs hz H locs ls hP hS hl)
theorem sk_S.ineg {x : Int32} (hd : decode M.2.1 pc = .ok (.ineg, 1)) (k : sk_S l E d M (pc + 1) L (.int (-x) :: St) h Q) : sk_S l E d M pc L (.int x :: St) h Q := by
  intro p e R s m args below meth c ce so Z C hc hs hz H locs ls hP hS hl
  exact lv_ineg C.1 C.2.1 hd (k p e R s m args below meth c ce so Z C hc hs hz H locs ls hP hS hl)
theorem sk_S.iushr {x y : Int32} (hd : decode M.2.1 pc = .ok (.iushr, 1)) (k : sk_S l E d M (pc + 1) L (.int ((x.toUInt32 >>> (y.toUInt32 &&& Int32.toUInt32 31)).toInt32) :: St) h Q) : sk_S l E d M pc L (.int y :: .int x :: St) h Q := by
  intro p e R s m args below meth c ce so Z C hc hs hz H locs ls hP hS hl
  exact lv_iushr C.1 C.2.1 hd rfl (k p e R s m args below meth c ce so Z C hc hs hz H locs ls hP hS hl)
theorem sk_S.lushr {x : Int64} {y : Int32} (hd : decode M.2.1 pc = .ok (.lushr, 1)) (k : sk_S l E d M (pc + 1) L (.long ((x.toUInt64 >>> (y.toInt64.toUInt64 &&& Int64.toUInt64 63)).toInt64) :: St) h Q) : sk_S l E d M pc L (.int y :: .long x :: St) h Q := by
  intro p e R s m args below meth c ce so Z C hc hs hz H locs ls hP hS hl
  exact lv_lushr C.1 C.2.1 hd rfl (k p e R s m args below meth c ce so Z C hc hs hz H locs ls hP hS hl)
theorem sk_S.lshr {x : Int64} {y : Int32} (hd : decode M.2.1 pc = .ok (.lshr, 1)) (k : sk_S l E d M (pc + 1) L (.long (x >>> (y.toInt64 &&& 63)) :: St) h Q) : sk_S l E d M pc L (.int y :: .long x :: St) h Q := by
  intro p e R s m args below meth c ce so Z C hc hs hz H locs ls hP hS hl
  exact lv_lshr C.1 C.2.1 hd rfl (k p e R s m args below meth c ce so Z C hc hs hz H locs ls hP hS hl)
theorem sk_S.lshl {x : Int64} {y : Int32} (hd : decode M.2.1 pc = .ok (.lshl, 1)) (k : sk_S l E d M (pc + 1) L (.long (x <<< (y.toInt64 &&& 63)) :: St) h Q) : sk_S l E d M pc L (.int y :: .long x :: St) h Q := by
  intro p e R s m args below meth c ce so Z C hc hs hz H locs ls hP hS hl
  exact lv_lshl C.1 C.2.1 hd rfl (k p e R s m args below meth c ce so Z C hc hs hz H locs ls hP hS hl)
theorem sk_S.i2l {x : Int32} (hd : decode M.2.1 pc = .ok (.i2l, 1)) (k : sk_S l E d M (pc + 1) L (.long (x.toInt64) :: St) h Q) : sk_S l E d M pc L (.int x :: St) h Q := by
  intro p e R s m args below meth c ce so Z C hc hs hz H locs ls hP hS hl
  exact lv_i2l C.1 C.2.1 hd rfl (k p e R s m args below meth c ce so Z C hc hs hz H locs ls hP hS hl)
theorem sk_S.l2i {x : Int64} (hd : decode M.2.1 pc = .ok (.l2i, 1)) (k : sk_S l E d M (pc + 1) L (.int (x.toInt32) :: St) h Q) : sk_S l E d M pc L (.long x :: St) h Q := by
  intro p e R s m args below meth c ce so Z C hc hs hz H locs ls hP hS hl
  exact lv_l2i C.1 C.2.1 hd rfl (k p e R s m args below meth c ce so Z C hc hs hz H locs ls hP hS hl)
theorem sk_S.i2b {x : Int32} (hd : decode M.2.1 pc = .ok (.i2b, 1)) (k : sk_S l E d M (pc + 1) L (.int (x.toInt8.toInt32) :: St) h Q) : sk_S l E d M pc L (.int x :: St) h Q := by
  intro p e R s m args below meth c ce so Z C hc hs hz H locs ls hP hS hl
  exact lv_i2b C.1 C.2.1 hd rfl (k p e R s m args below meth c ce so Z C hc hs hz H locs ls hP hS hl)
theorem sk_S.i2s {x : Int32} (hd : decode M.2.1 pc = .ok (.i2s, 1)) (k : sk_S l E d M (pc + 1) L (.int (x.toInt16.toInt32) :: St) h Q) : sk_S l E d M pc L (.int x :: St) h Q := by
  intro p e R s m args below meth c ce so Z C hc hs hz H locs ls hP hS hl
  exact lv_i2s C.1 C.2.1 hd rfl (k p e R s m args below meth c ce so Z C hc hs hz H locs ls hP hS hl)
theorem sk_S.i2c {x : Int32} (hd : decode M.2.1 pc = .ok (.i2c, 1)) (k : sk_S l E d M (pc + 1) L (.int ((x.toUInt32 % 65536).toInt32) :: St) h Q) : sk_S l E d M pc L (.int x :: St) h Q := by
  intro p e R s m args below meth c ce so Z C hc hs hz H locs ls hP hS hl
  exact lv_i2c C.1 C.2.1 hd rfl (k p e R s m args below meth c ce so Z C hc hs hz H locs ls hP hS hl)
theorem sk_S.goto {off : Int} {tgt : Nat} (hd : decode M.2.1 pc = .ok (.goto off, 3)) (ht : (pc : Int) + off = (tgt : Int)) (k : sk_S l E d M (tgt) L (St) h Q) : sk_S l E d M pc L (St) h Q := by
  intro p e R s m args below meth c ce so Z C hc hs hz H locs ls hP hS hl
  exact lv_goto C.1 C.2.1 hd ht (k p e R s m args below meth c ce so Z C hc hs hz H locs ls hP hS hl)
theorem sk_S.icmp_eq {x y : Int32} {off : Int} {tgt : Nat} (hd : decode M.2.1 pc = .ok (.if_icmp .eq off, 3)) (ht : (pc : Int) + off = (tgt : Int)) (kt : x = y → sk_S l E d M tgt L St h Q) (kf : ¬ (x = y) → sk_S l E d M (pc + 3) L St h Q) : sk_S l E d M pc L (.int y :: .int x :: St) h Q := by
  intro p e R s m args below meth c ce so Z C hc hs hz H locs ls hP hS hl
  exact lv_icmp_eq C.1 C.2.1  hd ht (fun q => kt q p e R s m args below meth c ce so Z C hc hs hz H locs ls hP hS hl) (fun q => kf q p e R s m args below meth c ce so Z C hc hs hz H locs ls hP hS hl)
theorem sk_S.if_eq {x : Int32} {off : Int} {tgt : Nat} (hd : decode M.2.1 pc = .ok (.ifCond .eq off, 3)) (ht : (pc : Int) + off = (tgt : Int)) (kt : x = 0 → sk_S l E d M tgt L St h Q) (kf : ¬ (x = 0) → sk_S l E d M (pc + 3) L St h Q) : sk_S l E d M pc L (.int x :: St) h Q := by
  intro p e R s m args below meth c ce so Z C hc hs hz H locs ls hP hS hl
  exact lv_if_eq C.1 C.2.1  hd ht (fun q => kt q p e R s m args below meth c ce so Z C hc hs hz H locs ls hP hS hl) (fun q => kf q p e R s m args below meth c ce so Z C hc hs hz H locs ls hP hS hl)
theorem sk_S.icmp_ne {x y : Int32} {off : Int} {tgt : Nat} (hd : decode M.2.1 pc = .ok (.if_icmp .ne off, 3)) (ht : (pc : Int) + off = (tgt : Int)) (kt : ¬ x = y → sk_S l E d M tgt L St h Q) (kf : x = y → sk_S l E d M (pc + 3) L St h Q) : sk_S l E d M pc L (.int y :: .int x :: St) h Q := by
  intro p e R s m args below meth c ce so Z C hc hs hz H locs ls hP hS hl
  exact lv_icmp_ne C.1 C.2.1  hd ht (fun q => kt q p e R s m args below meth c ce so Z C hc hs hz H locs ls hP hS hl) (fun q => kf q p e R s m args below meth c ce so Z C hc hs hz H locs ls hP hS hl)
theorem sk_S.if_ne {x : Int32} {off : Int} {tgt : Nat} (hd : decode M.2.1 pc = .ok (.ifCond .ne off, 3)) (ht : (pc : Int) + off = (tgt : Int)) (kt : ¬ x = 0 → sk_S l E d M tgt L St h Q) (kf : x = 0 → sk_S l E d M (pc + 3) L St h Q) : sk_S l E d M pc L (.int x :: St) h Q := by
  intro p e R s m args below meth c ce so Z C hc hs hz H locs ls hP hS hl
  exact lv_if_ne C.1 C.2.1  hd ht (fun q => kt q p e R s m args below meth c ce so Z C hc hs hz H locs ls hP hS hl) (fun q => kf q p e R s m args below meth c ce so Z C hc hs hz H locs ls hP hS hl)
theorem sk_S.icmp_lt {x y : Int32} {off : Int} {tgt : Nat} (hd : decode M.2.1 pc = .ok (.if_icmp .lt off, 3)) (ht : (pc : Int) + off = (tgt : Int)) (kt : x < y → sk_S l E d M tgt L St h Q) (kf : ¬ (x < y) → sk_S l E d M (pc + 3) L St h Q) : sk_S l E d M pc L (.int y :: .int x :: St) h Q := by
  intro p e R s m args below meth c ce so Z C hc hs hz H locs ls hP hS hl
  exact lv_icmp_lt C.1 C.2.1  hd ht (fun q => kt q p e R s m args below meth c ce so Z C hc hs hz H locs ls hP hS hl) (fun q => kf q p e R s m args below meth c ce so Z C hc hs hz H locs ls hP hS hl)
theorem sk_S.if_lt {x : Int32} {off : Int} {tgt : Nat} (hd : decode M.2.1 pc = .ok (.ifCond .lt off, 3)) (ht : (pc : Int) + off = (tgt : Int)) (kt : x < 0 → sk_S l E d M tgt L St h Q) (kf : ¬ (x < 0) → sk_S l E d M (pc + 3) L St h Q) : sk_S l E d M pc L (.int x :: St) h Q := by
  intro p e R s m args below meth c ce so Z C hc hs hz H locs ls hP hS hl
  exact lv_if_lt C.1 C.2.1  hd ht (fun q => kt q p e R s m args below meth c ce so Z C hc hs hz H locs ls hP hS hl) (fun q => kf q p e R s m args below meth c ce so Z C hc hs hz H locs ls hP hS hl)
theorem sk_S.icmp_ge {x y : Int32} {off : Int} {tgt : Nat} (hd : decode M.2.1 pc = .ok (.if_icmp .ge off, 3)) (ht : (pc : Int) + off = (tgt : Int)) (kt : y ≤ x → sk_S l E d M tgt L St h Q) (kf : ¬ (y ≤ x) → sk_S l E d M (pc + 3) L St h Q) : sk_S l E d M pc L (.int y :: .int x :: St) h Q := by
  intro p e R s m args below meth c ce so Z C hc hs hz H locs ls hP hS hl
  exact lv_icmp_ge C.1 C.2.1  hd ht (fun q => kt q p e R s m args below meth c ce so Z C hc hs hz H locs ls hP hS hl) (fun q => kf q p e R s m args below meth c ce so Z C hc hs hz H locs ls hP hS hl)
theorem sk_S.if_ge {x : Int32} {off : Int} {tgt : Nat} (hd : decode M.2.1 pc = .ok (.ifCond .ge off, 3)) (ht : (pc : Int) + off = (tgt : Int)) (kt : 0 ≤ x → sk_S l E d M tgt L St h Q) (kf : ¬ (0 ≤ x) → sk_S l E d M (pc + 3) L St h Q) : sk_S l E d M pc L (.int x :: St) h Q := by
  intro p e R s m args below meth c ce so Z C hc hs hz H locs ls hP hS hl
  exact lv_if_ge C.1 C.2.1  hd ht (fun q => kt q p e R s m args below meth c ce so Z C hc hs hz H locs ls hP hS hl) (fun q => kf q p e R s m args below meth c ce so Z C hc hs hz H locs ls hP hS hl)
theorem sk_S.icmp_gt {x y : Int32} {off : Int} {tgt : Nat} (hd : decode M.2.1 pc = .ok (.if_icmp .gt off, 3)) (ht : (pc : Int) + off = (tgt : Int)) (kt : y < x → sk_S l E d M tgt L St h Q) (kf : ¬ (y < x) → sk_S l E d M (pc + 3) L St h Q) : sk_S l E d M pc L (.int y :: .int x :: St) h Q := by
  intro p e R s m args below meth c ce so Z C hc hs hz H locs ls hP hS hl
  exact lv_icmp_gt C.1 C.2.1  hd ht (fun q => kt q p e R s m args below meth c ce so Z C hc hs hz H locs ls hP hS hl) (fun q => kf q p e R s m args below meth c ce so Z C hc hs hz H locs ls hP hS hl)
theorem sk_S.if_gt {x : Int32} {off : Int} {tgt : Nat} (hd : decode M.2.1 pc = .ok (.ifCond .gt off, 3)) (ht : (pc : Int) + off = (tgt : Int)) (kt : 0 < x → sk_S l E d M tgt L St h Q) (kf : ¬ (0 < x) → sk_S l E d M (pc + 3) L St h Q) : sk_S l E d M pc L (.int x :: St) h Q := by
  intro p e R s m args below meth c ce so Z C hc hs hz H locs ls hP hS hl
  exact lv_if_gt C.1 C.2.1  hd ht (fun q => kt q p e R s m args below meth c ce so Z C hc hs hz H locs ls hP hS hl) (fun q => kf q p e R s m args below meth c ce so Z C hc hs hz H locs ls hP hS hl)
theorem sk_S.icmp_le {x y : Int32} {off : Int} {tgt : Nat} (hd : decode M.2.1 pc = .ok (.if_icmp .le off, 3)) (ht : (pc : Int) + off = (tgt : Int)) (kt : x ≤ y → sk_S l E d M tgt L St h Q) (kf : ¬ (x ≤ y) → sk_S l E d M (pc + 3) L St h Q) : sk_S l E d M pc L (.int y :: .int x :: St) h Q := by
  intro p e R s m args below meth c ce so Z C hc hs hz H locs ls hP hS hl
  exact lv_icmp_le C.1 C.2.1  hd ht (fun q => kt q p e R s m args below meth c ce so Z C hc hs hz H locs ls hP hS hl) (fun q => kf q p e R s m args below meth c ce so Z C hc hs hz H locs ls hP hS hl)
theorem sk_S.if_le {x : Int32} {off : Int} {tgt : Nat} (hd : decode M.2.1 pc = .ok (.ifCond .le off, 3)) (ht : (pc : Int) + off = (tgt : Int)) (kt : x ≤ 0 → sk_S l E d M tgt L St h Q) (kf : ¬ (x ≤ 0) → sk_S l E d M (pc + 3) L St h Q) : sk_S l E d M pc L (.int x :: St) h Q := by
  intro p e R s m args below meth c ce so Z C hc hs hz H locs ls hP hS hl
  exact lv_if_le C.1 C.2.1  hd ht (fun q => kt q p e R s m args below meth c ce so Z C hc hs hz H locs ls hP hS hl) (fun q => kf q p e R s m args below meth c ce so Z C hc hs hz H locs ls hP hS hl)
/-- what is on the stack behind dup: a value of one word -/
theorem sk_cat (E : sk_V) (v : Value) : (sk_v E v).category = v.category := by cases v <;> rfl
theorem sk_S.dup {v : Value} (hd : decode M.2.1 pc = .ok (.dup, 1)) (hv : v.category = 1) (k : sk_S l E d M (pc + 1) L (v :: v :: St) h Q) : sk_S l E d M pc L (v :: St) h Q := by
  intro p e R s m args below meth c ce so Z C hc hs hz H locs ls hP hS hl
  exact lv_dup C.1 C.2.1 hd ((sk_cat E v).trans hv) (k p e R s m args below meth c ce so Z C hc hs hz H locs ls hP hS hl)
theorem sk_S.pop {v : Value} (hd : decode M.2.1 pc = .ok (.pop, 1)) (hv : v.category = 1) (k : sk_S l E d M (pc + 1) L St h Q) : sk_S l E d M pc L (v :: St) h Q := by
  intro p e R s m args below meth c ce so Z C hc hs hz H locs ls hP hS hl
  exact lv_pop C.1 C.2.1 hd ((sk_cat E v).trans hv) (k p e R s m args below meth c ce so Z C hc hs hz H locs ls hP hS hl)
theorem sk_S.dup2 {v w : Value} (hd : decode M.2.1 pc = .ok (.dup2, 1)) (hv : v.category = 1) (hw : w.category = 1) (k : sk_S l E d M (pc + 1) L (v :: w :: v :: w :: St) h Q) : sk_S l E d M pc L (v :: w :: St) h Q := by
  intro p e R s m args below meth c ce so Z C hc hs hz H locs ls hP hS hl
  exact lv_dup2_11 C.1 C.2.1 hd ((sk_cat E v).trans hv) ((sk_cat E w).trans hw) (k p e R s m args below meth c ce so Z C hc hs hz H locs ls hP hS hl)
/-- the locals as the kit lists them -/
def sk_p (E : sk_V) (L : List (Option Value)) : List (Nat × Value) := L.zipIdx.filterMap (fun q => q.1.map (fun v => (q.2, sk_v E v)))
theorem sk_p_of {E : sk_V} {L : List (Option Value)} {q : Nat × Value} (hq : q ∈ sk_p E L) : ∃ v, L[q.1]? = some (some v) ∧ q.2 = sk_v E v := by
  obtain ⟨⟨o, i⟩, h1, h2⟩ := List.mem_filterMap.mp hq
  cases o with
  | none => simp at h2
  | some v =>
    simp only [Option.map_some, Option.some.injEq] at h2
    subst h2
    exact ⟨v, List.mem_zipIdx_iff_getElem?.mp h1, rfl⟩
theorem sk_p_in {E : sk_V} {L : List (Option Value)} {i : Nat} {v : Value} (hv : L[i]? = some (some v)) : (i, sk_v E v) ∈ sk_p E L :=
  List.mem_filterMap.mpr ⟨(some v, i), List.mem_zipIdx_iff_getElem?.mpr hv, rfl⟩
theorem sk_l.has {E : sk_V} {ls : Array Slot} {L : List (Option Value)} (h : sk_l E ls L) : lv_has ls L.length (sk_p E L) :=
  ⟨h.1, h.2.1, fun q hq => by obtain ⟨v, h1, h2⟩ := sk_p_of hq; rw [h2]; exact h.2.2 _ _ h1⟩
/-- no long stands just below -/
def sk_ok (L : List (Option Value)) (i : Nat) : Bool := match i with
  | 0 => true
  | i + 1 => match L[i]? with
    | some (some w) => w.category == 1
    | _ => true
theorem sk_l.of {E : sk_V} {ls1 : Array Slot} {L : List (Option Value)} {i nL : Nat} {v : Value} {x : List (Nat × Value)} (hn : nL = L.length) (hi : i < L.length) (hk : sk_ok L i = true) (hx : ∀ q ∈ sk_p E L, q ∈ x)
    (h : lv_has ls1 nL ((i, sk_v E v) :: x.filter (fun q => !(q.1 == i) && !(q.1 + 1 == i && q.2.category == 2)))) : sk_l E ls1 (L.set i (some v)) := by
  subst hn
  refine ⟨by rw [List.length_set]; exact h.1, h.2.1, fun j w hj => ?_⟩
  rw [List.getElem?_set] at hj
  by_cases e : i = j
  · subst e
    rw [if_pos rfl, if_pos hi] at hj
    cases hj
    exact h.2.2 (i, sk_v E v) List.mem_cons_self
  · rw [if_neg e] at hj
    refine h.2.2 (j, sk_v E w) (List.mem_cons_of_mem _ (List.mem_filter.mpr ⟨hx _ (sk_p_in hj), ?_⟩))
    have e1 : (j == i) = false := beq_eq_false_iff_ne.mpr (fun q => e (Eq.symm q))
    rw [e1]
    by_cases e2 : j + 1 = i
    · subst e2
      have h3 : w.category = 1 := by
        have h4 : (match L[j]? with | some (some w) => w.category == 1 | _ => true) = true := hk
        rw [hj] at h4
        simpa using h4
      simp [sk_cat, h3]
    · have e3 : (j + 1 == i) = false := by simp [e2]
      rw [e3]
      rfl
theorem sk_S.istore_n {q : Fin 4} {i : Nat} {x : Int32} (hd : decode M.2.1 pc = .ok (.istore_n q, 1)) (hi : (q : Nat) = i) (hn : i < L.length) (hk : sk_ok L i = true) (k : sk_S l E d M (pc + 1) (L.set i (some (.int x))) St h Q) : sk_S l E d M pc L (.int x :: St) h Q := by
  intro p e R s m args below meth c ce so Z C hc hs hz H locs ls hP hS hl
  exact lv_istore_n C.1 C.2.1 hd hi hl.has hn rfl (fun ls1 h1 => k p e R s m args below meth c ce so Z C hc hs hz H locs ls1 hP hS (sk_l.of (v := .int x) rfl hn hk (fun _ z => z) h1))
theorem sk_S.istore {i : Nat} {x : Int32} (hd : decode M.2.1 pc = .ok (.istore i, 2)) (hn : i < L.length) (hk : sk_ok L i = true) (k : sk_S l E d M (pc + 2) (L.set i (some (.int x))) St h Q) : sk_S l E d M pc L (.int x :: St) h Q := by
  intro p e R s m args below meth c ce so Z C hc hs hz H locs ls hP hS hl
  exact lv_istore C.1 C.2.1 hd hl.has hn rfl (fun ls1 h1 => k p e R s m args below meth c ce so Z C hc hs hz H locs ls1 hP hS (sk_l.of (v := .int x) rfl hn hk (fun _ z => z) h1))
theorem sk_S.astore_n {q : Fin 4} {i : Nat} {x : Nat} (hd : decode M.2.1 pc = .ok (.astore_n q, 1)) (hi : (q : Nat) = i) (hn : i < L.length) (hk : sk_ok L i = true) (k : sk_S l E d M (pc + 1) (L.set i (some (.ref x))) St h Q) : sk_S l E d M pc L (.ref x :: St) h Q := by
  intro p e R s m args below meth c ce so Z C hc hs hz H locs ls hP hS hl
  exact lv_astore_n C.1 C.2.1 hd hi hl.has hn rfl (fun ls1 h1 => k p e R s m args below meth c ce so Z C hc hs hz H locs ls1 hP hS (sk_l.of (v := .ref x) rfl hn hk (fun _ z => z) h1))
theorem sk_S.astore {i : Nat} {x : Nat} (hd : decode M.2.1 pc = .ok (.astore i, 2)) (hn : i < L.length) (hk : sk_ok L i = true) (k : sk_S l E d M (pc + 2) (L.set i (some (.ref x))) St h Q) : sk_S l E d M pc L (.ref x :: St) h Q := by
  intro p e R s m args below meth c ce so Z C hc hs hz H locs ls hP hS hl
  exact lv_astore C.1 C.2.1 hd hl.has hn rfl (fun ls1 h1 => k p e R s m args below meth c ce so Z C hc hs hz H locs ls1 hP hS (sk_l.of (v := .ref x) rfl hn hk (fun _ z => z) h1))
theorem sk_S.iinc {i : Nat} {n : Int} {x v : Int32} (hd : decode M.2.1 pc = .ok (.iinc i n, 3)) (hL : L[i]? = some (some (.int x))) (hv : x + Int32.ofInt n = v) (hk : sk_ok L i = true) (k : sk_S l E d M (pc + 3) (L.set i (some (.int v))) St h Q) : sk_S l E d M pc L St h Q := by
  intro p e R s m args below meth c ce so Z C hc hs hz H locs ls hP hS hl
  have hn : i < L.length := (List.getElem?_eq_some_iff.mp hL).1
  have hh : lv_has ls L.length ((i, .int x) :: sk_p E L) := ⟨hl.has.1, hl.has.2.1, fun q hq => (List.mem_cons.mp hq).elim (fun e => by rw [e]; exact hl.2.2 i _ hL) (hl.has.2.2 q)⟩
  exact lv_iinc (k := 0) C.1 C.2.1 hd hh rfl hv hn rfl (fun ls1 h1 => k p e R s m args below meth c ce so Z C hc hs hz H locs ls1 hP hS (sk_l.of (v := .int v) rfl hn hk (fun _ z => List.mem_cons_of_mem _ z) h1))
/-- constants out of the pool -/
theorem sk_S.ldc {own : String} {i : Nat} {v : Int32} (hd : decode M.2.1 pc = .ok (.ldc i, 2)) (ho : M.1.cls = own) (hw : Cond.constant own i v ∈ gg_W) (k : sk_S l E d M (pc + 2) L (.int v :: St) h Q) : sk_S l E d M pc L St h Q := by
  intro p e R s m args below meth c ce so Z C hc hs hz H locs ls hP hS hl
  subst ho
  exact lv_ldc C.1 C.2.1 C.2.2.2.1 (C.2.2.2.2.1 _ hw) hd (k p e R s m args below meth c ce so Z C hc hs hz H locs ls hP hS hl)
theorem sk_S.ldc_w {own : String} {i : Nat} {v : Int32} (hd : decode M.2.1 pc = .ok (.ldc_w i, 3)) (ho : M.1.cls = own) (hw : Cond.constant own i v ∈ gg_W) (k : sk_S l E d M (pc + 3) L (.int v :: St) h Q) : sk_S l E d M pc L St h Q := by
  intro p e R s m args below meth c ce so Z C hc hs hz H locs ls hP hS hl
  subst ho
  exact lv_ldcw C.1 C.2.1 C.2.2.2.1 (C.2.2.2.2.1 _ hw) hd (k p e R s m args below meth c ce so Z C hc hs hz H locs ls hP hS hl)
theorem sk_S.ldc2 {own : String} {i : Nat} {v : Int64} (hd : decode M.2.1 pc = .ok (.ldc2_w i, 3)) (ho : M.1.cls = own) (hw : Cond.constantLong own i v ∈ gg_W) (k : sk_S l E d M (pc + 3) L (.long v :: St) h Q) : sk_S l E d M pc L St h Q := by
  intro p e R s m args below meth c ce so Z C hc hs hz H locs ls hP hS hl
  subst ho
  exact lv_ldc2 C.1 C.2.1 C.2.2.2.1 (C.2.2.2.2.1 _ hw) hd (k p e R s m args below meth c ce so Z C hc hs hz H locs ls hP hS hl)
/-- switches -/
theorem sk_S.lookup {dflt : Int} {ps : Array (Int × Int)} {len : Nat} {x : Int32} {off : Int} {tgt : Nat} (hd : decode M.2.1 pc = .ok (.lookupswitch dflt ps, len)) (hp : (ps.toList.zip (ps.toList.drop 1)).all (fun (a, next) => a.1 < next.1) = true) (ho : Op.lookupswitch.offset ps.toList dflt x.toInt = off) (ht : (pc : Int) + off = (tgt : Int)) (k : sk_S l E d M tgt L St h Q) : sk_S l E d M pc L (.int x :: St) h Q := by
  intro p e R s m args below meth c ce so Z C hc hs hz H locs ls hP hS hl
  exact lv_lookup C.1 C.2.1 hd hp ho ht (k p e R s m args below meth c ce so Z C hc hs hz H locs ls hP hS hl)
theorem sk_S.tableOut {dflt lo hi : Int} {offs : Array Int} {len : Nat} {x : Int32} {tgt : Nat} (hd : decode M.2.1 pc = .ok (.tableswitch dflt lo hi offs, len)) (hx : x.toInt < lo ∨ hi < x.toInt) (ht : (pc : Int) + dflt = (tgt : Int)) (k : sk_S l E d M tgt L St h Q) : sk_S l E d M pc L (.int x :: St) h Q := by
  intro p e R s m args below meth c ce so Z C hc hs hz H locs ls hP hS hl
  exact lv_tableOut C.1 C.2.1 hd hx ht (k p e R s m args below meth c ce so Z C hc hs hz H locs ls hP hS hl)
theorem sk_S.tableIn {dflt lo hi : Int} {offs : Array Int} {len : Nat} {x : Int32} {off : Int} {tgt : Nat} (hd : decode M.2.1 pc = .ok (.tableswitch dflt lo hi offs, len)) (h1 : ¬ x.toInt < lo) (h2 : ¬ hi < x.toInt) (ho : offs[(x.toInt - lo).toNat]? = some off) (ht : (pc : Int) + off = (tgt : Int)) (k : sk_S l E d M tgt L St h Q) : sk_S l E d M pc L (.int x :: St) h Q := by
  intro p e R s m args below meth c ce so Z C hc hs hz H locs ls hP hS hl
  exact lv_tableIn C.1 C.2.1 hd h1 h2 ho ht (k p e R s m args below meth c ce so Z C hc hs hz H locs ls hP hS hl)
/-- an index that stands in a row -/
def sk_ix (i : Int32) (j n : Nat) : Prop := ¬ i < 0 ∧ i.toNatClampNeg = j ∧ j < n
theorem sk_ix.vp {i : Int32} {j n : Nat} (h : sk_ix i j n) : vp_in i n := by
  obtain ⟨h1, h2, h3⟩ := h
  subst h2
  rintro (q | q)
  · exact h1 q
  · omega
theorem sk_e_lt {k a b c : Nat} {rs : List (Option Nat)} (he : sk_e k = (a, b, c, rs)) (hc : 0 < c) : k < 67 := by
  apply Decidable.byContradiction
  intro hk
  have h1 : sk_e k = (0, 0, 0, []) := by
    unfold sk_e
    rw [List.getD_eq_getElem?_getD, List.getElem?_eq_none (by show 67 ≤ k; omega)]
    rfl
  rw [h1] at he
  cases he
  omega
theorem sk_S.iald {i : Int32} {a j n : Nat} {rs : List (Option Nat)} (hd : decode M.2.1 pc = .ok (.iaload, 1)) (he : sk_e a = (0, 0, n, rs)) (hi : sk_ix i j n) (k : sk_S l E d M (pc + 1) L (.int (h a j) :: St) h Q) : sk_S l E d M pc L (.int i :: .ref a :: St) h Q := by
  intro p e R s m args below meth c ce so Z C hc hs hz H locs ls hP hS hl
  have ha := sk_W_at (E := E) (h := h) (sk_e_lt he (Nat.lt_of_le_of_lt (Nat.zero_le _) hi.2.2))
  rw [he] at ha
  refine va_iald C.1 C.2.1 C.2.2.2.2.2.1.1 hP a 0 ha rfl hi.vp hd ?_
  rw [hi.2.1]
  exact k p e R s m args below meth c ce so Z C hc hs hz H locs ls hP hS hl
theorem sk_inj {E : sk_V} {H : sk_M} (h : ∀ i j, i < 67 → j < 67 → sk_a E i = sk_a E j → i = j) : va_D (sk_A E) (sk_W E H) := by
  have key : ∀ (k : Nat) (q : Nat × va_E), (sk_W E H)[k]? = some q → k < 67 ∧ q.1 = sk_a E k := by
    intro k q hq
    by_cases hk : k < 67
    · rw [sk_W_at hk] at hq
      cases hq
      exact ⟨hk, rfl⟩
    · simp [sk_W, hk] at hq
  refine ⟨fun i j p q hi hj hpq => ?_, fun k q hk => ⟨k, (key k q hk).1, (key k q hk).2⟩⟩
  obtain ⟨a1, a2⟩ := key i p hi
  obtain ⟨b1, b2⟩ := key j q hj
  exact h i j a1 b1 (by rw [← a2, ← b2]; exact hpq)
theorem sk_S.iast {i x : Int32} {a j n : Nat} {rs : List (Option Nat)} (hd : decode M.2.1 pc = .ok (.iastore, 1)) (he : sk_e a = (0, 0, n, rs)) (hi : sk_ix i j n) (k : sk_S l E d M (pc + 1) L St (sk_u h a j x) Q) : sk_S l E d M pc L (.int x :: .int i :: .ref a :: St) h Q := by
  intro p e R s m args below meth c ce so Z C hc hs hz H locs ls hP hS hl
  have ha := sk_W_at (E := E) (h := h) (sk_e_lt he (Nat.lt_of_le_of_lt (Nat.zero_le _) hi.2.2))
  rw [he] at ha
  refine va_iast C.1 C.2.1 C.2.2.2.2.2.1.1 hP (sk_inj C.2.2.2.2.2.1.2.1) hS a 0 ha rfl hi.vp hd (fun H1 locs1 hP1 hD1 hS1 => ?_)
  rw [hi.2.1, sk_W_row he] at hP1
  exact k p e R s m args below meth c ce so Z C hc hs hz H1 locs1 ls hP1 hS1 hl
theorem sk_S.alen {a t n : Nat} {v : Int32} {rs : List (Option Nat)} (hd : decode M.2.1 pc = .ok (.arraylength, 1)) (he : sk_e a = (0, 0, n, rs)) (hn : 0 < n) (hv : Int32.ofNat n = v) (k : sk_S l E d M (pc + 1) L (.int v :: St) h Q) : sk_S l E d M pc L (.ref a :: St) h Q := by
  intro p e R s m args below meth c ce so Z C hc hs hz H locs ls hP hS hl
  have ha := sk_W_at (E := E) (h := h) (sk_e_lt he hn)
  rw [he] at ha
  exact va_alen C.1 C.2.1 C.2.2.2.2.2.1.1 hP a 0 ha (ty := .int) rfl hv hd (k p e R s m args below meth c ce so Z C hc hs hz H locs ls hP hS hl)
theorem sk_S.aald {i : Int32} {a j n t r : Nat} {X : String} {rs : List (Option Nat)} (hd : decode M.2.1 pc = .ok (.aaload, 1)) (he : sk_e a = (2, t, n, rs)) (hT : [FieldType.int, .object "PromisedFish$Boat", .object "PromisedFish$Law", .object "PromisedFish$Sheet"][t]? = some (.object X)) (hi : sk_ix i j n) (hr : sk_rf rs j = some r) (k : sk_S l E d M (pc + 1) L (.ref r :: St) h Q) : sk_S l E d M pc L (.int i :: .ref a :: St) h Q := by
  intro p e R s m args below meth c ce so Z C hc hs hz H locs ls hP hS hl
  have ha := sk_W_at (E := E) (h := h) (sk_e_lt he (Nat.lt_of_le_of_lt (Nat.zero_le _) hi.2.2))
  rw [he] at ha
  have ht : (sk_y E)[t]? = some (sk_t E t, .object X) := by
    match t, hT with
    | 0, hT => cases hT
    | 1, hT => cases hT; rfl
    | 2, hT => cases hT; rfl
    | 3, hT => cases hT; rfl
    | t + 4, hT => simp at hT
  refine va_aldq C.1 C.2.1 C.2.2.2.2.2.1.1 hP a t ha ht hi.vp hd ?_
  rw [hi.2.1, hr]
  exact k p e R s m args below meth c ce so Z C hc hs hz H locs ls hP hS hl
/-- rows that are only read -/
theorem sk_S.roald {i v : Int32} {a j n : Nat} {f : Nat → Int32} (hd : decode M.2.1 pc = .ok (.iaload, 1)) (he : sk_ro E a = some (n, f)) (hi : sk_ix i j n) (hv : f j = v) (k : sk_S l E d M (pc + 1) L (.int v :: St) h Q) : sk_S l E d M pc L (.int i :: .ref a :: St) h Q := by
  intro p e R s m args below meth c ce so Z C hc hs hz H locs ls hP hS hl
  refine va_ti C.1 C.2.1 (C.2.2.2.2.2.1.2.2.1 a n f he) hS hi.vp (v := .int v) ?_ hd (k p e R s m args below meth c ce so Z C hc hs hz H locs ls hP hS hl)
  rw [hi.2.1, hv]
theorem sk_S.rolen {v : Int32} {a n : Nat} {f : Nat → Int32} (hd : decode M.2.1 pc = .ok (.arraylength, 1)) (he : sk_ro E a = some (n, f)) (hv : Int32.ofNat n = v) (k : sk_S l E d M (pc + 1) L (.int v :: St) h Q) : sk_S l E d M pc L (.ref a :: St) h Q := by
  intro p e R s m args below meth c ce so Z C hc hs hz H locs ls hP hS hl
  exact va_tlen C.1 C.2.1 (C.2.2.2.2.2.1.2.2.1 a n f he) hS hv hd (k p e R s m args below meth c ce so Z C hc hs hz H locs ls hP hS hl)
/-- a static row's place -/
def sk_gs (own : String) (i r : Nat) : Prop := ∃ q ∈ st_K, q.2.2 = r ∧ (Cond.fieldLink own i q.1 q.2.1 "[I" ∈ gg_W ∨ ∃ host, Cond.fieldLinkNest own i q.1 q.2.1 "[I" host ∈ nn_W)
theorem sk_S.gets {own : String} {i r : Nat} (hd : decode M.2.1 pc = .ok (.getstatic i, 3)) (ho : M.1.cls = own) (hg : sk_gs own i r) (k : sk_S l E d M (pc + 3) L (.ref r :: St) h Q) : sk_S l E d M pc L St h Q := by
  intro p e R s m args below meth c ce so Z C hc hs hz H locs ls hP hS hl
  subst ho
  obtain ⟨q, hq, rfl, hw | ⟨host, hw⟩⟩ := hg
  · exact va_gets C.1 C.2.1 (C.2.2.2.2.2.1.2.2.2.1 q hq) hS C.2.2.2.1 (C.2.2.2.2.1 _ hw) (fun _ z => z) hd (k p e R s m args below meth c ce so Z C hc hs hz H locs ls hP hS hl)
  · exact va_getsN C.1 C.2.1 (C.2.2.2.2.2.1.2.2.2.1 q hq) hS C.2.2.2.1 (va_Nw.use rfl (C.2.2.2.2.2.1.2.2.2.2.2.2.2.2 _ hw)) (fun _ z => z) hd (k p e R s m args below meth c ce so Z C hc hs hz H locs ls hP hS hl)
/-- a field, by its class's number and its place -/
def sk_fl (own : String) (i ci f : Nat) : Prop := ∃ (X : String) (T : u_T) (N : Nat), vwCl[ci]? = some (X, T, N) ∧ (∀ w ∈ u_ws X T N, w ∈ gg_W) ∧ f < N ∧ (Cond.fieldLink own i (T f).1 (T f).2.1 (T f).2.2.1 ∈ gg_W ∨ ∃ host, Cond.fieldLinkNest own i (T f).1 (T f).2.1 (T f).2.2.1 host ∈ nn_W)
def sk_fp (own : String) (i ci f : Nat) (ty : FieldType) : Prop := ∃ (X : String) (T : u_T) (N : Nat) (ty0 : Nat → FieldType), vwCl[ci]? = some (X, T, N) ∧ (∀ w ∈ u_ws X T N, w ∈ gg_W) ∧ f < N ∧ (Cond.fieldLink own i (T f).1 (T f).2.1 (T f).2.2.1 ∈ gg_W ∨ ∃ host, Cond.fieldLinkNest own i (T f).1 (T f).2.1 (T f).2.2.1 host ∈ nn_W) ∧
  (∀ k, k < N → parseFieldDescriptor (T k).2.2.1 = some (ty0 k)) ∧ (∀ a, a < N → ∀ b, b < N → a ≠ b → (T a).2.1 ≠ (T b).2.1) ∧ (T f).2.2.2 = false ∧ parseFieldDescriptor (T f).2.2.1 = some ty
theorem sk_S.getf {own : String} {i ci f a n : Nat} {v : Value} {rs : List (Option Nat)} (hd : decode M.2.1 pc = .ok (.getfield i, 3)) (ho : M.1.cls = own) (hf : sk_fl own i ci f) (he : sk_e a = (1, ci, n, rs)) (hn : f < n) (hv : sk_g h a rs f = v) (k : sk_S l E d M (pc + 3) L (v :: St) h Q) : sk_S l E d M pc L (.ref a :: St) h Q := by
  intro p e R s m args below meth c ce so Z C hc hs hz H locs ls hP hS hl
  subst ho; subst hv
  have ha := sk_W_at (E := E) (h := h) (sk_e_lt he (Nat.lt_of_le_of_lt (Nat.zero_le _) hn))
  rw [he] at ha
  obtain ⟨X, T, N, h1, h2, h3, hw | ⟨host, hw⟩⟩ := hf
  · exact va_get C.1 C.2.1 C.2.2.2.2.1 h2 C.2.2.2.1 C.2.2.2.2.2.1.1 hP a ha h1 f h3 (C.2.2.2.2.1 _ hw) (fun _ z => z) (sk_get hn) hd (k p e R s m args below meth c ce so Z C hc hs hz H locs ls hP hS hl)
  · exact va_getN C.1 C.2.1 C.2.2.2.2.1 h2 C.2.2.2.1 C.2.2.2.2.2.1.1 hP a ha h1 f h3 (va_Nw.use rfl (C.2.2.2.2.2.1.2.2.2.2.2.2.2.2 _ hw)) (fun _ z => z) (sk_get hn) hd (k p e R s m args below meth c ce so Z C hc hs hz H locs ls hP hS hl)
theorem sk_S.putf {own : String} {i ci f a n : Nat} {x : Int32} {ty : FieldType} {rs : List (Option Nat)} (hd : decode M.2.1 pc = .ok (.putfield i, 3)) (ho : M.1.cls = own) (hf : sk_fp own i ci f ty) (he : sk_e a = (1, ci, n, rs)) (hn : f < n) (hr : sk_rf rs f = none) (hx : narrow ty (.int x) = .int x) (hfit : fits ty (.int x) = true) (k : sk_S l E d M (pc + 3) L St (sk_u h a f x) Q) : sk_S l E d M pc L (.int x :: .ref a :: St) h Q := by
  intro p e R s m args below meth c ce so Z C hc hs hz H locs ls hP hS hl
  subst ho
  have ha := sk_W_at (E := E) (h := h) (sk_e_lt he (Nat.lt_of_le_of_lt (Nat.zero_le _) hn))
  rw [he] at ha
  obtain ⟨X, T, N, ty0, h1, h2, h3, hw, h4, h5, h6, h7⟩ := hf
  have go : ∀ (H1 : Heap) (locs1 : List Loc), va_P (sk_G E) vwCl ((sk_W E h).set a (sk_a E a, .inr (ci, ((List.range n).map (fun i => sk_v E (sk_g h a rs i))).set f (.int x)))) H1 → va_D (sk_A E) ((sk_W E h).set a (sk_a E a, .inr (ci, ((List.range n).map (fun i => sk_v E (sk_g h a rs i))).set f (.int x)))) → va_S (sk_A E) s.heap H1 locs1 → W p l e R s m args below meth c H1 locs1 ce so Z (F0 m (pc + 3) ls (St.map (sk_v E))) := by
    intro H1 locs1 hP1 _ hS1
    rw [sk_W_obj he hr] at hP1
    exact k p e R s m args below meth c ce so Z C hc hs hz H1 locs1 ls hP1 hS1 hl
  have hl9 : f < ((List.range n).map (fun i => sk_v E (sk_g h a rs i))).length := by simpa using hn
  obtain hw | ⟨host, hw⟩ := hw
  · exact va_put C.1 C.2.1 C.2.2.2.2.1 h2 ty0 h4 h5 C.2.2.2.1 C.2.2.2.2.2.1.1 hP (sk_inj C.2.2.2.2.2.1.2.1) hS a ha h1 f h3 (C.2.2.2.2.1 _ hw) (fun _ z => z) h6 h7 hx hfit hl9 hd go
  · exact va_putN C.1 C.2.1 C.2.2.2.2.1 h2 ty0 h4 h5 C.2.2.2.1 C.2.2.2.2.2.1.1 hP (sk_inj C.2.2.2.2.2.1.2.1) hS a ha h1 f h3 (va_Nw.use rfl (C.2.2.2.2.2.1.2.2.2.2.2.2.2.2 _ hw)) (fun _ z => z) h6 h7 hx hfit hl9 hd go
/-! contracts and calls -/
def sk_Q (E : sk_V) (Q : Option Value → sk_M → Prop) : Array Value → State → Outcome → State → Prop := fun _ st oc t =>
  (∃ (r : Option Value) (h1 : sk_M), oc = .returned (r.map (sk_v E)) ∧ Q r h1 ∧ va_P (sk_G E) vwCl (sk_W E h1) t.heap) ∧ va_F (sk_A E) st t
abbrev sk_w (M : sk_m) : List Cond := .code M.1 M.2.1 M.2.2.1 M.2.2.2 :: gg_W
abbrev sk_R (d : Nat) : Room := { frames := d, cells := 0, slots := 0, locals := 60 * d }
def sk_P (E : sk_V) (h : sk_M) (as : List Value) : Array Value → State → Prop := va_Pc (as.map (sk_v E)) (fun U => va_P (sk_G E) vwCl (sk_W E h) U.heap ∧ sk_F E U)
def sk_K (l : Launch) (E : sk_V) (d : Nat) (M : sk_m) (as : List Value) (h : sk_M) (Q : Option Value → sk_M → Prop) : Prop :=
  Met l M.1 (sk_w M) (sk_R d) (sk_P E h as) (sk_Q E Q) 0 0 (sk_A E)
def sk_in0 (as : List Value) : List (Option Value) := as.flatMap (fun v => if v.category = 2 then [some v, none] else [some v])
def sk_in (as : List Value) (n : Nat) : List (Option Value) := sk_in0 as ++ List.replicate (n - (sk_in0 as).length) none
theorem sk_in0_args {E : sk_V} : ∀ (as : List Value) (k i : Nat) (v : Value), (sk_in0 as)[i]? = some (some v) → (k + i, sk_v E v) ∈ lv_args k (as.map (sk_v E))
  | [], k, i, v, h => by simp [sk_in0] at h
  | w :: as, k, i, v, h => by
    have ih := sk_in0_args (E := E) as
    by_cases hc : w.category = 2
    · have e1 : sk_in0 (w :: as) = some w :: none :: sk_in0 as := by simp [sk_in0, hc]
      rw [e1] at h
      have hc2 : (sk_v E w).category = 2 := (sk_cat E w).trans hc
      match i, h with
      | 0, h =>
        simp only [List.getElem?_cons_zero, Option.some.injEq] at h
        subst h
        exact List.mem_cons_self
      | 1, h => simp at h
      | i + 2, h =>
        have h1 : (sk_in0 as)[i]? = some (some v) := by simpa using h
        have h2 := ih (k + 2) i v h1
        have e2 : k + 2 + i = k + (i + 2) := by omega
        rw [e2] at h2
        show _ ∈ lv_args k (sk_v E w :: as.map (sk_v E))
        rw [lv_args, if_pos hc2]
        exact List.mem_cons_of_mem _ h2
    · have e1 : sk_in0 (w :: as) = some w :: sk_in0 as := by simp [sk_in0, hc]
      rw [e1] at h
      have hc2 : ¬ (sk_v E w).category = 2 := by rw [sk_cat]; exact hc
      match i, h with
      | 0, h =>
        simp only [List.getElem?_cons_zero, Option.some.injEq] at h
        subst h
        exact List.mem_cons_self
      | i + 1, h =>
        have h1 : (sk_in0 as)[i]? = some (some v) := by simpa using h
        have h2 := ih (k + 1) i v h1
        have e2 : k + 1 + i = k + (i + 1) := by omega
        rw [e2] at h2
        show _ ∈ lv_args k (sk_v E w :: as.map (sk_v E))
        rw [lv_args, if_neg hc2]
        exact List.mem_cons_of_mem _ h2
theorem sk_in0_len {E : sk_V} : ∀ (as : List Value), (lg_sl (as.map (sk_v E))).length = (sk_in0 as).length
  | [] => rfl
  | w :: as => by
    have ih := sk_in0_len (E := E) as
    have h1 := sk_cat E w
    unfold lg_sl sk_in0 at ih ⊢
    rw [List.map_cons, List.flatMap_cons, List.flatMap_cons, List.length_append, List.length_append, ih, h1]
    by_cases hc : w.category = 2 <;> simp [hc]
theorem sk_in_l {E : sk_V} {as : List Value} {n : Nat} (hn : (sk_in0 as).length ≤ n) : sk_l E ((lg_sl (as.map (sk_v E)) ++ List.replicate (n - (lg_sl (as.map (sk_v E))).length) Slot.unset).toArray) (sk_in as n) := by
  have h1 := lv_entry (as.map (sk_v E)) (n := n) (by rw [sk_in0_len]; exact hn)
  refine ⟨?_, h1.2.1, fun i v hi => ?_⟩
  · rw [h1.1]
    unfold sk_in
    rw [List.length_append, List.length_replicate]
    omega
  · refine h1.2.2 (i, sk_v E v) ?_
    have h2 : (sk_in0 as)[i]? = some (some v) := by
      unfold sk_in at hi
      by_cases q : i < (sk_in0 as).length
      · rw [List.getElem?_append_left q] at hi
        exact hi
      · rw [List.getElem?_append_right (by omega), List.getElem?_replicate] at hi
        split at hi <;> simp at hi
    have h3 := sk_in0_args (E := E) as 0 i v h2
    rwa [Nat.zero_add] at h3
theorem sk_K.of {as : List Value} (hy : plainName M.1.cls = true) (hn : (sk_in0 as).length ≤ M.2.2.1) (k : sk_S l E d M 0 (sk_in as M.2.2.1) [] h Q) : sk_K l E d M as h Q := by
  refine Met.ofW (cc := M.2.1) (maxL := M.2.2.1) (ret := M.2.2.2) hy rfl ?_
  intro p e s m args below meth c s₁ B hml hv
  obtain ⟨rfl, hP, hF⟩ := hv
  have hx := B.exec
  have hb := B.bytes
  have hr := B.returns
  have hts := atoms_spec (ws := sk_w M) B.pre
  have hown : s.vm.findClass M.1.cls = some m.cls := findClass_of_methodNamed B.named
  have hlocks := B.notSynchronized
  rw [lg_entry_eq]
  refine k p e (sk_R d) s m _ below meth c 0 0 _ ⟨hx, hb, hml, hown, fun w hw => hts w (List.mem_cons_of_mem _ hw), hF, hr, hlocks, Nat.le_refl _, Nat.le_refl _⟩ (Nat.zero_le _) (Nat.zero_le _) ?_ s.heap [] _ hP va_S.rf (sk_in_l hn)
  intro r h1 H locs pc1 ls hq hP1 hS1 hret
  rcases hret with ⟨v, ty, rfl, hty, hn, hd⟩ | ⟨rfl, hty, hd⟩
  · exact W.zret hx hb (hr.trans hty) hn (fun t ht hW => ⟨⟨some (.int v), h1, rfl, hq, by rw [ht]; exact hP1⟩, hS1.F ht⟩) hS1.2.2 hd
  · exact W.vret hx hb (hr.trans hty) (fun t ht hW => ⟨⟨none, h1, rfl, hq, by rw [ht]; exact hP1⟩, hS1.F ht⟩) hS1.2.2 hd
theorem sk_blind {E : sk_V} {h : sk_M} {as : List Value} : FrameBlind (sk_P E h as) := by
  intro a U g mk hv
  obtain ⟨q1, q2, q3⟩ := hv
  exact ⟨q1, q2, q3.go (U := U.calling g mk a) (State.WarmedH.refl U) (fun _ _ _ => rfl)⟩
theorem sk_run {p : Program} {e : Env} {R : Room} {s : State} {m : MethodId} {args : Array Value} {below : List Frame} {meth : Method} {c : Code} {H : Heap} {locs : List Loc} {cells slots : Nat} {Z : State → Prop} {rest st0 : List Value} {ls : Array Slot} {a : Array Value} {Q1 : Option Value → sk_M → Prop}
    (hr : va_Run p l e R s m args below meth c H locs cells slots 0 0 (F0 m pc ls st0) rest (sk_Q E Q1 a) (sk_A E)) (hS : va_S (sk_A E) s.heap H locs)
    (kk : ∀ (r : Option Value) (h1 : sk_M) (H1 : Heap) (locs1 : List Loc), Q1 r h1 → va_P (sk_G E) vwCl (sk_W E h1) H1 → va_S (sk_A E) s.heap H1 locs1 → W p l e R s m args below meth c H1 locs1 cells slots Z (F0 m (pc + 3) ls ((r.map (sk_v E)).toList ++ rest))) : W p l e R s m args below meth c H locs cells slots Z (F0 m pc ls st0) := by
  intro T hT X
  obtain ⟨v, st₀, t, T', L, h0, X', hL, e1, e2, ⟨⟨r, h1, hv, hq, hP1⟩, hz, hk⟩, st⟩ := hr T hT X
  cases hv
  rw [h0] at hz hk
  obtain ⟨t2, a1, b1⟩ := kk r h1 T'.heap (locs ++ L) hq (by rw [e1]; exact hP1)
    ⟨Nat.le_trans hS.1 (by rw [e1]; exact hz), fun q h1 h2 => by rw [e1, hk q (Nat.lt_of_lt_of_le h1 hS.1) h2]; exact hS.2.1 q h1 h2, fun q hq => by
      rcases List.mem_append.mp hq with h | h
      · exact hS.2.2 q h
      · exact hL q h⟩ T' rfl X'
  exact ⟨t2, st t2 a1, b1⟩
/-- a call's words -/
def sk_cl (own : String) (i : Nat) (M : sk_m) (n : Nat) (virt : Bool) : Prop :=
  Cond.code M.1 M.2.1 M.2.2.1 M.2.2.2 ∈ gg_W ∧ Cond.initialized M.1.cls ∈ gg_W ∧ (M.1.cls ≠ "java/lang/invoke/MethodHandle" ∧ M.1.cls ≠ "java/lang/invoke/VarHandle" ∧ (parseMethodDescriptor M.1.desc).map (fun d => d.parameters.length) = some n) ∧ M.2.2.1 ≤ 40 ∧
  (if virt = true then Cond.instanceMethod M.1 ∈ gg_W ∧ Cond.selects M.1.cls M.1 M.1 ∈ gg_W else Cond.static M.1 ∈ gg_W) ∧ (Cond.methodLink own i M.1 ∈ gg_W ∨ ∃ host, Cond.methodLinkNest own i M.1 host ∈ nn_W)
theorem gg_in {ws : List Cond} (h : ∀ w ∈ ws, w ∈ gg_W) : GoodIn gg_W ws := fun w hw => ⟨h w hw, gg_good (h w hw)⟩
theorem sk_w_in {M : sk_m} (h : Cond.code M.1 M.2.1 M.2.2.1 M.2.2.2 ∈ gg_W) : ∀ w ∈ sk_w M, w ∈ gg_W := fun w hw => (List.mem_cons.mp hw).elim (fun e => by rw [e]; exact h) (fun z => z)
theorem sk_rest {E : sk_V} {rest : List Value} (h : (rest.map fun v => v.category).sum ≤ 8) : ((rest.map (sk_v E)).map fun v => v.category).sum ≤ 8 := by
  rw [List.map_map]
  have e : ((fun v : Value => v.category) ∘ sk_v E) = fun v => v.category := by funext v; exact sk_cat E v
  rw [e]
  exact h
theorem sk_S.callV {own : String} {i a ci n : Nat} {as rest : List Value} {M1 : sk_m} {n0 : Nat} {rs : List (Option Nat)} {Q1 : Option Value → sk_M → Prop} (hd : decode M.2.1 pc = .ok (.invokevirtual i, 3)) (ho : M.1.cls = own) (hc : sk_cl own i M1 n true) (hM : sk_K l E d M1 (.ref a :: as) h Q1) (he : sk_e a = (1, ci, n0, rs)) (hn0 : 0 < n0) (hci : (vwCl[ci]?).map (fun q => q.1) = some M1.1.cls) (hlen : as.length = n) (hL : L.length = M.2.2.1) (hst : St = as.reverse ++ .ref a :: rest) (hrest : (rest.map fun v => v.category).sum ≤ 8)
    (k : ∀ r h1, Q1 r h1 → sk_S l E (d + 1) M (pc + 3) L (r.toList ++ rest) h1 Q) : sk_S l E (d + 1) M pc L St h Q := by
  intro p e R s m args below meth c ce so Z C hce hso hz H locs ls hP hS hl
  subst ho; subst hst
  obtain ⟨w1, w2, w3, w4, w5, w6⟩ := hc
  rw [if_pos rfl] at w5
  have ha := sk_W_at (E := E) (h := h) (sk_e_lt he hn0)
  rw [he] at ha
  have hFr : d + 1 ≤ R.frames := C.2.2.2.2.2.2.2.2.1
  have hLo : 60 * (d + 1) ≤ R.locals := C.2.2.2.2.2.2.2.2.2
  obtain ⟨q, hq1, hq2⟩ := Option.map_eq_some_iff.mp hci
  have hrecv := va_recv C.2.2.2.2.2.1.1 hP hq1 ha
  rw [hq2] at hrecv
  have hpre : PreV s H M1.1.cls (sk_a E a) (sk_P E h (.ref a :: as)) (as.map (sk_v E)) := ⟨sk_blind, hrecv, fun U hU hW => ⟨rfl, by rw [hU]; exact hP, C.2.2.2.2.2.1.go hW (fun a h1 h2 => by rw [hU]; exact hS.2.1 a h1 h2)⟩⟩
  have hst : ((as.reverse ++ Value.ref a :: rest).map (sk_v E)) = (as.map (sk_v E)).reverse ++ .ref (sk_a E a) :: rest.map (sk_v E) := by
    rw [List.map_append, List.map_reverse]; rfl
  have fin : ∀ (r : Option Value) (h1 : sk_M) (H1 : Heap) (locs1 : List Loc), Q1 r h1 → va_P (sk_G E) vwCl (sk_W E h1) H1 → va_S (sk_A E) s.heap H1 locs1 → W p l e R s m args below meth c H1 locs1 ce so Z (F0 m (pc + 3) ls ((r.map (sk_v E)).toList ++ rest.map (sk_v E))) := by
    intro r h1 H1 locs1 hq hP1 hS1
    have h2 := k r h1 hq p e R s m args below meth c ce so Z C hce hso hz H1 locs1 ls hP1 hS1 hl
    have e3 : (r.toList ++ rest).map (sk_v E) = (r.map (sk_v E)).toList ++ rest.map (sk_v E) := by cases r <;> simp
    rw [e3] at h2
    exact h2
  have fixx : CallFix p m c M.2.1 M.2.2.1 s args gg_W M.1.cls := ⟨C.1, C.2.1, C.2.2.1, C.2.2.2.1, C.2.2.2.2.1⟩
  have hini : (Cond.initialized M1.1.cls).before args s = true := C.2.2.2.2.1 _ w2
  rcases w6 with w6 | ⟨host, w6⟩
  · have cb : CallB R s args M.1.cls i M1.1 M1.2.1 M1.2.2.1 M1.2.2.2 (sk_w M1) (sk_R d) 0 0 n := callB_of n C.2.2.2.2.1 (gg_in (sk_w_in w1)) rfl rfl rfl hini (C.2.2.2.2.1 _ w6) w3 ⟨by show d + 1 ≤ _; exact hFr, by show 8 + (M1.2.2.1 + 11) + 60 * d ≤ _; omega⟩
    exact sk_run (va_runV (C := M1.1.cls) fixx hM ⟨cb, C.2.2.2.2.1 _ w5.1, C.2.2.2.2.1 _ w5.2⟩ hpre rfl (by rw [List.length_map]; exact hlen) (hl.1.trans hL) hst (lv_room (sk_rest hrest)) hd ⟨hce, hso⟩) hS fin
  · have cb : va_CN R s args M.1.cls i M1.1 host M1.2.1 M1.2.2.1 M1.2.2.2 (sk_w M1) (sk_R d) 0 0 n := va_cnB n C.2.2.2.2.1 (gg_in (sk_w_in w1)) rfl rfl rfl (C.2.2.2.2.2.1.2.2.2.2.2.2.2.2 _ w6) hini w3 ⟨by show d + 1 ≤ _; exact hFr, by show 8 + (M1.2.2.1 + 11) + 60 * d ≤ _; omega⟩
    exact sk_run (va_runVN (C := M1.1.cls) fixx hM ⟨cb, C.2.2.2.2.1 _ w5.1, C.2.2.2.2.1 _ w5.2⟩ hpre rfl (by rw [List.length_map]; exact hlen) (hl.1.trans hL) hst (lv_room (sk_rest hrest)) hd ⟨hce, hso⟩) hS fin
theorem sk_S.callS {own : String} {i n : Nat} {as rest : List Value} {M1 : sk_m} {Q1 : Option Value → sk_M → Prop} (hd : decode M.2.1 pc = .ok (.invokestatic i, 3)) (ho : M.1.cls = own) (hc : sk_cl own i M1 n false) (hM : sk_K l E d M1 as h Q1) (hlen : as.length = n) (hL : L.length = M.2.2.1) (hst : St = as.reverse ++ rest) (hrest : (rest.map fun v => v.category).sum ≤ 8)
    (k : ∀ r h1, Q1 r h1 → sk_S l E (d + 1) M (pc + 3) L (r.toList ++ rest) h1 Q) : sk_S l E (d + 1) M pc L St h Q := by
  intro p e R s m args below meth c ce so Z C hce hso hz H locs ls hP hS hl
  subst ho; subst hst
  obtain ⟨w1, w2, w3, w4, w5, w6⟩ := hc
  rw [if_neg (by decide)] at w5
  have hFr : d + 1 ≤ R.frames := C.2.2.2.2.2.2.2.2.1
  have hLo : 60 * (d + 1) ≤ R.locals := C.2.2.2.2.2.2.2.2.2
  have hpre : PreS s H (sk_P E h as) (as.map (sk_v E)) := ⟨sk_blind, fun U hU hW => ⟨rfl, by rw [hU]; exact hP, C.2.2.2.2.2.1.go hW (fun a h1 h2 => by rw [hU]; exact hS.2.1 a h1 h2)⟩⟩
  have hst : ((as.reverse ++ rest).map (sk_v E)) = (as.map (sk_v E)).reverse ++ rest.map (sk_v E) := by
    rw [List.map_append, List.map_reverse]
  have fin : ∀ (r : Option Value) (h1 : sk_M) (H1 : Heap) (locs1 : List Loc), Q1 r h1 → va_P (sk_G E) vwCl (sk_W E h1) H1 → va_S (sk_A E) s.heap H1 locs1 → W p l e R s m args below meth c H1 locs1 ce so Z (F0 m (pc + 3) ls ((r.map (sk_v E)).toList ++ rest.map (sk_v E))) := by
    intro r h1 H1 locs1 hq hP1 hS1
    have h2 := k r h1 hq p e R s m args below meth c ce so Z C hce hso hz H1 locs1 ls hP1 hS1 hl
    have e3 : (r.toList ++ rest).map (sk_v E) = (r.map (sk_v E)).toList ++ rest.map (sk_v E) := by cases r <;> simp
    rw [e3] at h2
    exact h2
  have fixx : CallFix p m c M.2.1 M.2.2.1 s args gg_W M.1.cls := ⟨C.1, C.2.1, C.2.2.1, C.2.2.2.1, C.2.2.2.2.1⟩
  have hini : (Cond.initialized M1.1.cls).before args s = true := C.2.2.2.2.1 _ w2
  rcases w6 with w6 | ⟨host, w6⟩
  · have cb : CallB R s args M.1.cls i M1.1 M1.2.1 M1.2.2.1 M1.2.2.2 (sk_w M1) (sk_R d) 0 0 n := callB_of n C.2.2.2.2.1 (gg_in (sk_w_in w1)) rfl rfl rfl hini (C.2.2.2.2.1 _ w6) w3 ⟨by show d + 1 ≤ _; exact hFr, by show 8 + (M1.2.2.1 + 11) + 60 * d ≤ _; omega⟩
    exact sk_run (va_runS fixx hM ⟨cb, C.2.2.2.2.1 _ w5⟩ hpre rfl (by rw [List.length_map]; exact hlen) (hl.1.trans hL) hst (lv_room (sk_rest hrest)) hd ⟨hce, hso⟩) hS fin
  · have cb : va_CN R s args M.1.cls i M1.1 host M1.2.1 M1.2.2.1 M1.2.2.2 (sk_w M1) (sk_R d) 0 0 n := va_cnB n C.2.2.2.2.1 (gg_in (sk_w_in w1)) rfl rfl rfl (C.2.2.2.2.2.1.2.2.2.2.2.2.2.2 _ w6) hini w3 ⟨by show d + 1 ≤ _; exact hFr, by show 8 + (M1.2.2.1 + 11) + 60 * d ≤ _; omega⟩
    exact sk_run (va_runSN fixx hM ⟨cb, C.2.2.2.2.1 _ w5, trivial⟩ hpre rfl (by rw [List.length_map]; exact hlen) (hl.1.trans hL) hst (lv_room (sk_rest hrest)) hd ⟨hce, hso⟩) hS fin
/-- the JDK's greater and smaller of two -/
theorem sk_S.mmax {own : String} {i : Nat} {x y : Int32} (hd : decode M.2.1 pc = .ok (.invokestatic i, 3)) (ho : M.1.cls = own) (hw : Cond.methodLink own i Lib.Math.max.name ∈ gg_W) (hw2 : Cond.static Lib.Math.max.name ∈ gg_W) (hw3 : Cond.initialized "java/lang/Math" ∈ gg_W) (hw4 : Cond.code Lib.Math.max.name Lib.Math.max.code 2 (some .int) ∈ gg_W) (hL : L.length = M.2.2.1) (hrest : (St.map fun v => v.category).sum ≤ 8)
    (k : sk_S l E (d + 1) M (pc + 3) L (.int (if x < y then y else x) :: St) h Q) : sk_S l E (d + 1) M pc L (.int y :: .int x :: St) h Q := by
  intro p e R s m args below meth c ce so Z C hc hs hz H locs ls hP hS hl
  subst ho
  have hFr : d + 1 ≤ R.frames := C.2.2.2.2.2.2.2.2.1
  have hLo : 60 * (d + 1) ≤ R.locals := C.2.2.2.2.2.2.2.2.2
  have hre := sk_rest (E := E) hrest
  exact va_mmax C.1 C.2.1 (C.2.2.1.trans (hl.1.trans hL).symm) C.2.2.2.1 (C.2.2.2.2.1 _ hw) (C.2.2.2.2.1 _ hw2) (C.2.2.2.2.1 _ hw3) (C.2.2.2.2.1 _ hw4) (by omega) (by omega) hc hs hd (k p e R s m args below meth c ce so Z C hc hs hz H locs ls hP hS hl)
theorem sk_S.mmin {own : String} {i : Nat} {x y : Int32} (hd : decode M.2.1 pc = .ok (.invokestatic i, 3)) (ho : M.1.cls = own) (hw : Cond.methodLink own i Lib.Math.min.name ∈ gg_W) (hw2 : Cond.static Lib.Math.min.name ∈ gg_W) (hw3 : Cond.initialized "java/lang/Math" ∈ gg_W) (hw4 : Cond.code Lib.Math.min.name Lib.Math.min.code 2 (some .int) ∈ gg_W) (hL : L.length = M.2.2.1) (hrest : (St.map fun v => v.category).sum ≤ 8)
    (k : sk_S l E (d + 1) M (pc + 3) L (.int (if y < x then y else x) :: St) h Q) : sk_S l E (d + 1) M pc L (.int y :: .int x :: St) h Q := by
  intro p e R s m args below meth c ce so Z C hc hs hz H locs ls hP hS hl
  subst ho
  have hFr : d + 1 ≤ R.frames := C.2.2.2.2.2.2.2.2.1
  have hLo : 60 * (d + 1) ≤ R.locals := C.2.2.2.2.2.2.2.2.2
  have hre := sk_rest (E := E) hrest
  exact va_mmin C.1 C.2.1 (C.2.2.1.trans (hl.1.trans hL).symm) C.2.2.2.1 (C.2.2.2.2.1 _ hw) (C.2.2.2.2.1 _ hw2) (C.2.2.2.2.1 _ hw3) (C.2.2.2.2.1 _ hw4) (by omega) (by omega) hc hs hd (k p e R s m args below meth c ce so Z C hc hs hz H locs ls hP hS hl)
/-- the JDK's copy of a row's part -/
theorem sk_S.acopy {own : String} {i a b n0 n1 : Nat} {sp dp n : Int32} {sn dn nn : Nat} {rs0 rs1 : List (Option Nat)} (hd : decode M.2.1 pc = .ok (.invokestatic i, 3)) (ho : M.1.cls = own) (hw : Cond.methodLink own i arraycopyName ∈ gg_W) (hw2 : Cond.native arraycopyName ∈ gg_W) (hw3 : Cond.static arraycopyName ∈ gg_W) (hw4 : Cond.initialized "java/lang/System" ∈ gg_W) (hL : L.length = M.2.2.1) (hrest : (St.map fun v => v.category).sum ≤ 8)
    (he0 : sk_e a = (0, 0, n0, rs0)) (he1 : sk_e b = (0, 0, n1, rs1)) (hn0 : 0 < n0) (hn1 : 0 < n1) (h1 : ¬ sp < 0) (h2 : ¬ dp < 0) (h3 : ¬ n < 0) (e1 : sp.toNatClampNeg = sn) (e2 : dp.toNatClampNeg = dn) (e3 : n.toNatClampNeg = nn) (h4 : sn + nn ≤ n0) (h5 : dn + nn ≤ n1)
    (k : sk_S l E (d + 1) M (pc + 3) L St (sk_r h b (va_cpy (h a) (h b) sn dn nn)) Q) : sk_S l E (d + 1) M pc L (.int n :: .int dp :: .ref b :: .int sp :: .ref a :: St) h Q := by
  intro p e R s m args below meth c ce so Z C hc hs hz H locs ls hP hS hl
  subst ho; subst e1; subst e2; subst e3
  have hFr : d + 1 ≤ R.frames := C.2.2.2.2.2.2.2.2.1
  have hLo : 60 * (d + 1) ≤ R.locals := C.2.2.2.2.2.2.2.2.2
  have hre := sk_rest (E := E) hrest
  have ha0 := sk_W_at (E := E) (h := h) (sk_e_lt he0 hn0)
  have ha1 := sk_W_at (E := E) (h := h) (sk_e_lt he1 hn1)
  rw [he0] at ha0
  rw [he1] at ha1
  have hnat : nativeFrameWords "java/lang/System" "arraycopy" 5 + 11 ≤ 40 := by decide +kernel
  refine va_copyi C.1 C.2.1 (C.2.2.1.trans (hl.1.trans hL).symm) C.2.2.2.1 (C.2.2.2.2.1 _ hw) (C.2.2.2.2.1 _ hw2) (C.2.2.2.2.1 _ hw3) (C.2.2.2.2.1 _ hw4) C.2.2.2.2.2.1.1 hP (sk_inj C.2.2.2.2.2.1.2.1) hS a b 0 0 ha0 ha1 rfl rfl rfl h1 h2 h3 h4 h5 (fun _ _ => rfl) (by omega) (by omega) hd (fun H1 locs1 hP1 _ hS1 => ?_)
  rw [sk_W_row he1] at hP1
  exact k p e R s m args below meth c ce so Z C hc hs hz H1 locs1 ls hP1 hS1 hl
end RULES
