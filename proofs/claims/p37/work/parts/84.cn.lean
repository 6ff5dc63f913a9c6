section CN
def idE : sk_V := (fun _ => 0, fun _ _ => 0, fun _ => 0, fun k => k, 0, fun _ => 0)
theorem idE_v (v : Value) : sk_v idE v = v := by cases v <;> rfl
abbrev cn_A (S0 : Nat) : Nat → Prop := fun q => S0 ≤ q
abbrev cn_y (T : Nat → ClassId) : List (ClassId × FieldType) := [(T 0, .int), (T 1, .object "PromisedFish$Boat"), (T 2, .object "PromisedFish$Law"), (T 3, .object "PromisedFish$Sheet")]
def cn_F (G : va_G) (T : Nat → ClassId) (S0 : Nat) (U : State) : Prop := va_K G vwCl (cn_y T) U ∧ (∀ w ∈ nn_W, va_Nw w U) ∧ S0 ≤ U.heap.size ∧ ∀ C ∈ ["PromisedFish$Boat", "PromisedFish$Law", "PromisedFish$Sheet"], va_AO C U
theorem cn_F.go {G : va_G} {T : Nat → ClassId} {S0 : Nat} {s U : State} (h : cn_F G T S0 s) (hW : s.WarmedH U.vm) (hz : s.heap.size ≤ U.heap.size) : cn_F G T S0 U :=
  ⟨va_K.moved hW.alike h.1, fun w hw => nn_warm (List.mem_filter.mp hw).2 hW (h.2.1 w hw), Nat.le_trans h.2.2.1 hz, fun C hC => va_AO.moved hW.alike (h.2.2.2 C hC)⟩
def cn_C (G : va_G) (T : Nat → ClassId) (S0 d : Nat) (M : sk_m) (p : Program) (R : Room) (s : State) (m : MethodId) (args : Array Value) (meth : Method) (c : Code) : Prop :=
  p.tables.exec = Jvm.exec ∧ c.code = M.2.1 ∧ c.maxLocals = M.2.2.1 ∧ s.vm.findClass M.1.cls = some m.cls ∧ (∀ w ∈ gg_W, w.before args s = true) ∧ cn_F G T S0 s ∧ meth.sig.returnType = M.2.2.2 ∧ meth.locks = false ∧ d ≤ R.frames ∧ 60 * d ≤ R.locals ∧ (M.1.name = "<init>" → meth.name = "<init>")
/-- from this place, with these locals, stack and world, the method comes to its end, where Q holds of the world; c new cells of n slots -/
def cn_S (l : Launch) (G : va_G) (T : Nat → ClassId) (S0 d c n : Nat) (M : sk_m) (pc : Nat) (L : List (Option Value)) (St : List Value) (ws : va_W) (Q : va_W → Nat → List (Option Value) → Prop) : Prop :=
  ∀ (p : Program) (e : Env) (R : Room) (s : State) (m : MethodId) (args : Array Value) (below : List Frame) (meth : Method) (k : Code) (cells slots : Nat) (Z : State → Prop), cn_C G T S0 d M p R s m args meth k → cells + c ≤ R.cells → slots + n ≤ R.slots →
  (∀ (ws1 : va_W) (H : Heap) (locs : List Loc) (pc1 : Nat) (L1 : List (Option Value)) (ls : Array Slot), Q ws1 pc1 L1 → va_P G vwCl ws1 H → va_D (cn_A S0) ws1 → va_S (cn_A S0) s.heap H locs → sk_l idE ls L1 → W p l e R s m args below meth k H locs (cells + c) (slots + n) Z (F0 m pc1 ls [])) →
  ∀ (H : Heap) (locs : List Loc) (ls : Array Slot), va_P G vwCl ws H → va_D (cn_A S0) ws → va_S (cn_A S0) s.heap H locs → sk_l idE ls L → W p l e R s m args below meth k H locs cells slots Z (F0 m pc ls St)
/-- a world: an object of one's own among others, and what came new -/
def cw (X : va_W × Nat × Nat × Nat) (fs : List Value) (tl : va_W) : va_W := X.1.set X.2.1 (X.2.2.1, .inr (X.2.2.2, fs)) ++ tl
theorem cw_own {X : va_W × Nat × Nat × Nat} {fs : List Value} {tl : va_W} (hk : X.2.1 < X.1.length) : (cw X fs tl)[X.2.1]? = some (X.2.2.1, .inr (X.2.2.2, fs)) := by
  unfold cw
  rw [List.getElem?_append_left (by rw [List.length_set]; exact hk), List.getElem?_set, if_pos rfl, if_pos hk]
theorem cw_set {X : va_W × Nat × Nat × Nat} {fs fs1 : List Value} {tl : va_W} (hk : X.2.1 < X.1.length) : (cw X fs tl).set X.2.1 (X.2.2.1, .inr (X.2.2.2, fs1)) = cw X fs1 tl := by
  unfold cw
  rw [List.set_append_left _ _ (by rw [List.length_set]; exact hk), List.set_set]
theorem cw_app {X : va_W × Nat × Nat × Nat} {fs : List Value} {tl t2 : va_W} : cw X fs tl ++ t2 = cw X fs (tl ++ t2) := by
  unfold cw
  rw [List.append_assoc]
theorem cw_tl {X : va_W × Nat × Nat × Nat} {fs : List Value} {tl : va_W} {x : Nat} : (cw X fs tl)[X.1.length + x]? = tl[x]? := by
  unfold cw
  rw [List.getElem?_append_right (by rw [List.length_set]; omega), List.length_set, Nat.add_sub_cancel_left]
theorem cw_stl {X : va_W × Nat × Nat × Nat} {fs : List Value} {tl : va_W} {x : Nat} {z : Nat × va_E} : (cw X fs tl).set (X.1.length + x) z = cw X fs (tl.set x z) := by
  unfold cw
  rw [List.set_append_right _ _ (by rw [List.length_set]; omega), List.length_set, Nat.add_sub_cancel_left]
theorem cw_self {ws : va_W} {k a ci : Nat} {fs : List Value} (h : ws[k]? = some (a, .inr (ci, fs))) : cw (ws, k, a, ci) fs [] = ws := by
  unfold cw
  rw [List.append_nil]
  apply List.ext_getElem?
  intro j
  rw [List.getElem?_set]
  by_cases e : k = j
  · subst e
    rw [if_pos rfl, if_pos (List.getElem?_eq_some_iff.mp h).1, h]
  · rw [if_neg e]
section
variable {l : Launch} {G : va_G} {T : Nat → ClassId} {S0 d c n : Nat} {M : sk_m} {pc : Nat} {L : List (Option Value)} {St : List Value} {ws : va_W} {Q : va_W → Nat → List (Option Value) → Prop} {X : va_W × Nat × Nat × Nat} {fs : List Value} {tl : va_W}
theorem cn_S.ret (hq : Q ws pc L) : cn_S l G T S0 d 0 0 M pc L [] ws Q := by
  intro p e R s m args below meth k ce so Z C hc hs hz H locs ls hP hD hS hl
  exact hz ws H locs pc L ls hq hP hD hS hl
theorem cn_S.aload_n {q : Fin 4} {i : Nat} {x : Nat} (hd : decode M.2.1 pc = .ok (.aload_n q, 1)) (hi : (q : Nat) = i) (hL : L[i]? = some (some (.ref x))) (k : cn_S l G T S0 d c n M (pc + 1) L (.ref x :: St) ws Q) : cn_S l G T S0 d c n M pc L St ws Q := by
  intro p e R s m args below meth kc ce so Z C hc hs hz H locs ls hP hD hS hl
  exact lv_aload_n C.1 C.2.1 hd hi (hl.2.2 i _ hL) (k p e R s m args below meth kc ce so Z C hc hs hz H locs ls hP hD hS hl)
theorem cn_S.iload_n {q : Fin 4} {i : Nat} {x : Int32} (hd : decode M.2.1 pc = .ok (.iload_n q, 1)) (hi : (q : Nat) = i) (hL : L[i]? = some (some (.int x))) (k : cn_S l G T S0 d c n M (pc + 1) L (.int x :: St) ws Q) : cn_S l G T S0 d c n M pc L St ws Q := by
  intro p e R s m args below meth kc ce so Z C hc hs hz H locs ls hP hD hS hl
  exact lv_iload_n C.1 C.2.1 hd hi (hl.2.2 i _ hL) (k p e R s m args below meth kc ce so Z C hc hs hz H locs ls hP hD hS hl)
theorem cn_S.iconst {j : Int} {v : Int32} (hd : decode M.2.1 pc = .ok (.iconst j, 1)) (hv : Int32.ofInt j = v) (k : cn_S l G T S0 d c n M (pc + 1) L (.int v :: St) ws Q) : cn_S l G T S0 d c n M pc L St ws Q := by
  intro p e R s m args below meth kc ce so Z C hc hs hz H locs ls hP hD hS hl
  exact lv_iconst C.1 C.2.1 hd hv (k p e R s m args below meth kc ce so Z C hc hs hz H locs ls hP hD hS hl)
theorem cn_S.bipush {j : Int} {v : Int32} (hd : decode M.2.1 pc = .ok (.bipush j, 2)) (hv : (Int8.ofInt j).toInt32 = v) (k : cn_S l G T S0 d c n M (pc + 2) L (.int v :: St) ws Q) : cn_S l G T S0 d c n M pc L St ws Q := by
  intro p e R s m args below meth kc ce so Z C hc hs hz H locs ls hP hD hS hl
  exact lv_bipush C.1 C.2.1 hd hv (k p e R s m args below meth kc ce so Z C hc hs hz H locs ls hP hD hS hl)
theorem cn_S.sipush {j : Int} {v : Int32} (hd : decode M.2.1 pc = .ok (.sipush j, 3)) (hv : (Int16.ofInt j).toInt32 = v) (k : cn_S l G T S0 d c n M (pc + 3) L (.int v :: St) ws Q) : cn_S l G T S0 d c n M pc L St ws Q := by
  intro p e R s m args below meth kc ce so Z C hc hs hz H locs ls hP hD hS hl
  exact lv_sipush C.1 C.2.1 hd hv (k p e R s m args below meth kc ce so Z C hc hs hz H locs ls hP hD hS hl)
theorem cn_S.iadd {x y : Int32} (hd : decode M.2.1 pc = .ok (.iadd, 1)) (k : cn_S l G T S0 d c n M (pc + 1) L (.int (x + y) :: St) ws Q) : cn_S l G T S0 d c n M pc L (.int y :: .int x :: St) ws Q := by
  intro p e R s m args below meth kc ce so Z C hc hs hz H locs ls hP hD hS hl
  exact lv_iadd C.1 C.2.1 hd (k p e R s m args below meth kc ce so Z C hc hs hz H locs ls hP hD hS hl)
theorem cn_S.goto {off : Int} {tgt : Nat} (hd : decode M.2.1 pc = .ok (.goto off, 3)) (ht : (pc : Int) + off = (tgt : Int)) (k : cn_S l G T S0 d c n M tgt L St ws Q) : cn_S l G T S0 d c n M pc L St ws Q := by
  intro p e R s m args below meth kc ce so Z C hc hs hz H locs ls hP hD hS hl
  exact lv_goto C.1 C.2.1 hd ht (k p e R s m args below meth kc ce so Z C hc hs hz H locs ls hP hD hS hl)
theorem cn_S.ge_t {x y : Int32} {off : Int} {tgt : Nat} (hd : decode M.2.1 pc = .ok (.if_icmp .ge off, 3)) (ht : (pc : Int) + off = (tgt : Int)) (h : y ≤ x) (k : cn_S l G T S0 d c n M tgt L St ws Q) : cn_S l G T S0 d c n M pc L (.int y :: .int x :: St) ws Q := by
  intro p e R s m args below meth kc ce so Z C hc hs hz H locs ls hP hD hS hl
  exact lv_icmp_ge C.1 C.2.1 hd ht (fun _ => k p e R s m args below meth kc ce so Z C hc hs hz H locs ls hP hD hS hl) (fun q => absurd h q)
theorem cn_S.ge_f {x y : Int32} {off : Int} {tgt : Nat} (hd : decode M.2.1 pc = .ok (.if_icmp .ge off, 3)) (ht : (pc : Int) + off = (tgt : Int)) (h : ¬ y ≤ x) (k : cn_S l G T S0 d c n M (pc + 3) L St ws Q) : cn_S l G T S0 d c n M pc L (.int y :: .int x :: St) ws Q := by
  intro p e R s m args below meth kc ce so Z C hc hs hz H locs ls hP hD hS hl
  exact lv_icmp_ge C.1 C.2.1 hd ht (fun q => absurd q h) (fun _ => k p e R s m args below meth kc ce so Z C hc hs hz H locs ls hP hD hS hl)
theorem cn_S.dup {x : Nat} (hd : decode M.2.1 pc = .ok (.dup, 1)) (k : cn_S l G T S0 d c n M (pc + 1) L (.ref x :: .ref x :: St) ws Q) : cn_S l G T S0 d c n M pc L (.ref x :: St) ws Q := by
  intro p e R s m args below meth kc ce so Z C hc hs hz H locs ls hP hD hS hl
  exact lv_dup C.1 C.2.1 hd rfl (k p e R s m args below meth kc ce so Z C hc hs hz H locs ls hP hD hS hl)
theorem cn_S.istore_n {q : Fin 4} {i : Nat} {x : Int32} (hd : decode M.2.1 pc = .ok (.istore_n q, 1)) (hi : (q : Nat) = i) (hn : i < L.length) (hk : sk_ok L i = true) (k : cn_S l G T S0 d c n M (pc + 1) (L.set i (some (.int x))) St ws Q) : cn_S l G T S0 d c n M pc L (.int x :: St) ws Q := by
  intro p e R s m args below meth kc ce so Z C hc hs hz H locs ls hP hD hS hl
  exact lv_istore_n C.1 C.2.1 hd hi hl.has hn rfl (fun ls1 h1 => k p e R s m args below meth kc ce so Z C hc hs hz H locs ls1 hP hD hS (sk_l.of (v := .int x) rfl hn hk (fun _ z => z) h1))
theorem cn_S.astore_n {q : Fin 4} {i : Nat} {x : Nat} (hd : decode M.2.1 pc = .ok (.astore_n q, 1)) (hi : (q : Nat) = i) (hn : i < L.length) (hk : sk_ok L i = true) (k : cn_S l G T S0 d c n M (pc + 1) (L.set i (some (.ref x))) St ws Q) : cn_S l G T S0 d c n M pc L (.ref x :: St) ws Q := by
  intro p e R s m args below meth kc ce so Z C hc hs hz H locs ls hP hD hS hl
  exact lv_astore_n C.1 C.2.1 hd hi hl.has hn rfl (fun ls1 h1 => k p e R s m args below meth kc ce so Z C hc hs hz H locs ls1 hP hD hS (sk_l.of (v := .ref x) rfl hn hk (fun _ z => z) h1))
theorem cn_S.iinc {i : Nat} {j : Int} {x v : Int32} (hd : decode M.2.1 pc = .ok (.iinc i j, 3)) (hL : L[i]? = some (some (.int x))) (hv : x + Int32.ofInt j = v) (hk : sk_ok L i = true) (k : cn_S l G T S0 d c n M (pc + 3) (L.set i (some (.int v))) St ws Q) : cn_S l G T S0 d c n M pc L St ws Q := by
  intro p e R s m args below meth kc ce so Z C hc hs hz H locs ls hP hD hS hl
  have hn : i < L.length := (List.getElem?_eq_some_iff.mp hL).1
  have hh : lv_has ls L.length ((i, .int x) :: sk_p idE L) := ⟨hl.has.1, hl.has.2.1, fun q hq => (List.mem_cons.mp hq).elim (fun e => by rw [e]; exact hl.2.2 i _ hL) (hl.has.2.2 q)⟩
  exact lv_iinc (k := 0) C.1 C.2.1 hd hh rfl hv hn rfl (fun ls1 h1 => k p e R s m args below meth kc ce so Z C hc hs hz H locs ls1 hP hD hS (sk_l.of (v := .int v) rfl hn hk (fun _ z => List.mem_cons_of_mem _ z) h1))
end
end CN
