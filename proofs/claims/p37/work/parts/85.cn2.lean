section CN2
/-- a final field that a constructor sets -/
def cn_ff (own : String) (i ci f : Nat) (ty : FieldType) : Prop := ∃ (X : String) (T : u_T) (N : Nat) (ty0 : Nat → FieldType), vwCl[ci]? = some (X, T, N) ∧ (∀ w ∈ u_ws X T N, w ∈ gg_W) ∧ f < N ∧ Cond.fieldLink own i (T f).1 (T f).2.1 (T f).2.2.1 ∈ gg_W ∧
  (∀ k, k < N → parseFieldDescriptor (T k).2.2.1 = some (ty0 k)) ∧ (∀ a, a < N → ∀ b, b < N → a ≠ b → (T a).2.1 ≠ (T b).2.1) ∧ (T f).2.2.2 = true ∧ (T f).1 = own ∧ parseFieldDescriptor (T f).2.2.1 = some ty
/-- a class of which a new object is made -/
def cn_nw (own : String) (i ci N : Nat) (fs : List Value) : Prop := ∃ (X : String) (T : u_T) (ty : Nat → FieldType), vwCl[ci]? = some (X, T, N) ∧ (∀ w ∈ u_ws X T N, w ∈ gg_W) ∧ (∀ k, k < N → parseFieldDescriptor (T k).2.2.1 = some (ty k)) ∧ Cond.classLink own i X ∈ gg_W ∧ Cond.instantiable X N ∈ gg_W ∧ Cond.initialized X ∈ gg_W ∧ ∀ j, j < N → defaultValue (ty j) = vp_V fs j
/-- a constructor's words -/
def cn_ci (own : String) (i : Nat) (M : sk_m) : Prop :=
  Cond.code M.1 M.2.1 M.2.2.1 M.2.2.2 ∈ gg_W ∧ Cond.initialized M.1.cls ∈ gg_W ∧ (M.1.cls ≠ "java/lang/invoke/MethodHandle" ∧ M.1.cls ≠ "java/lang/invoke/VarHandle" ∧ (parseMethodDescriptor M.1.desc).map (fun d => d.parameters.length) = some 0) ∧ M.2.2.1 ≤ 40 ∧ M.2.2.2 = none ∧ M.1.name = "<init>" ∧ Cond.instanceMethod M.1 ∈ gg_W ∧ (Cond.methodLink own i M.1 ∈ gg_W ∨ ∃ host, Cond.methodLinkNest own i M.1 host ∈ nn_W)
def cn_Q (G : va_G) (S0 : Nat) (Q : va_W → Prop) : Array Value → State → Outcome → State → Prop := fun _ st oc t =>
  (oc = .returned none ∧ ∃ ws, Q ws ∧ va_P G vwCl ws t.heap ∧ va_D (cn_A S0) ws) ∧ va_F (cn_A S0) st t
abbrev cn_R (d c n : Nat) : Room := { frames := d, cells := c, slots := n, locals := 60 * d }
def cn_P (G : va_G) (T : Nat → ClassId) (S0 : Nat) (as : List Value) (ws : va_W) : Array Value → State → Prop := va_Pc as (fun U => va_P G vwCl ws U.heap ∧ va_D (cn_A S0) ws ∧ cn_F G T S0 U)
/-- a method that makes cells: its contract over a world -/
def cn_M (l : Launch) (G : va_G) (T : Nat → ClassId) (S0 d c n : Nat) (M : sk_m) (as : List Value) (ws : va_W) (Q : va_W → Prop) : Prop :=
  Met l M.1 (sk_w M) (cn_R d c n) (cn_P G T S0 as ws) (cn_Q G S0 Q) c n (cn_A S0)
section
variable {l : Launch} {G : va_G} {T : Nat → ClassId} {S0 d c n : Nat} {M : sk_m} {pc : Nat} {L : List (Option Value)} {St : List Value} {ws : va_W} {Q : va_W → Nat → List (Option Value) → Prop} {X : va_W × Nat × Nat × Nat} {fs : List Value} {tl : va_W}
theorem cn_hA {s : State} {p : Program} {R : Room} {m : MethodId} {args : Array Value} {meth : Method} {k : Code} (C : cn_C G T S0 d M p R s m args meth k) : ∀ q, s.heap.size ≤ q → cn_A S0 q := fun q hq => Nat.le_trans C.2.2.2.2.2.1.2.2.1 hq
theorem cn_S.putF {own : String} {i f : Nat} {ty : FieldType} {v : Value} (hd : decode M.2.1 pc = .ok (.putfield i, 3)) (ho : M.1.cls = own) (hi : M.1.name = "<init>") (hf : cn_ff own i X.2.2.2 f ty) (hk : X.2.1 < X.1.length) (hn : narrow ty v = v) (hfit : fits ty v = true) (hl9 : f < fs.length) (k : cn_S l G T S0 d c n M (pc + 3) L St (cw X (fs.set f v) tl) Q) : cn_S l G T S0 d c n M pc L (v :: .ref X.2.2.1 :: St) (cw X fs tl) Q := by
  intro p e R s m args below meth kc ce so Z C hc hs hz H locs ls hP hD hS hl
  subst ho
  obtain ⟨Y, TT, N, ty0, h1, h2, h3, hw, h4, h5, h6, h7, h8⟩ := hf
  exact va_putF C.1 C.2.1 C.2.2.2.2.1 h2 ty0 h4 h5 C.2.2.2.1 C.2.2.2.2.2.1.1 hP hD hS X.2.1 (cw_own hk) h1 f h3 (C.2.2.2.2.1 _ hw) (fun _ z => z) h6 (C.2.2.2.2.2.2.2.2.2.2 hi) h7 h8 hn hfit hl9 hd (fun H1 locs1 hP1 hD1 hS1 => by
    rw [cw_set hk] at hP1 hD1
    exact k p e R s m args below meth kc ce so Z C hc hs hz H1 locs1 ls hP1 hD1 hS1 hl)
theorem cn_S.put {own : String} {i f : Nat} {ty : FieldType} {v : Value} (hd : decode M.2.1 pc = .ok (.putfield i, 3)) (ho : M.1.cls = own) (hf : sk_fp own i X.2.2.2 f ty) (hk : X.2.1 < X.1.length) (hn : narrow ty v = v) (hfit : fits ty v = true) (hl9 : f < fs.length) (k : cn_S l G T S0 d c n M (pc + 3) L St (cw X (fs.set f v) tl) Q) : cn_S l G T S0 d c n M pc L (v :: .ref X.2.2.1 :: St) (cw X fs tl) Q := by
  intro p e R s m args below meth kc ce so Z C hc hs hz H locs ls hP hD hS hl
  subst ho
  obtain ⟨Y, TT, N, ty0, h1, h2, h3, hw, h4, h5, h6, h7⟩ := hf
  have go : ∀ (H1 : Heap) (locs1 : List Loc), va_P G vwCl ((cw X fs tl).set X.2.1 (X.2.2.1, .inr (X.2.2.2, fs.set f v))) H1 → va_D (cn_A S0) ((cw X fs tl).set X.2.1 (X.2.2.1, .inr (X.2.2.2, fs.set f v))) → va_S (cn_A S0) s.heap H1 locs1 → W p l e R s m args below meth kc H1 locs1 ce so Z (F0 m (pc + 3) ls St) := fun H1 locs1 hP1 hD1 hS1 => by
    rw [cw_set hk] at hP1 hD1
    exact k p e R s m args below meth kc ce so Z C hc hs hz H1 locs1 ls hP1 hD1 hS1 hl
  obtain hw | ⟨host, hw⟩ := hw
  · exact va_put C.1 C.2.1 C.2.2.2.2.1 h2 ty0 h4 h5 C.2.2.2.1 C.2.2.2.2.2.1.1 hP hD hS X.2.1 (cw_own hk) h1 f h3 (C.2.2.2.2.1 _ hw) (fun _ z => z) h6 h7 hn hfit hl9 hd go
  · exact va_putN C.1 C.2.1 C.2.2.2.2.1 h2 ty0 h4 h5 C.2.2.2.1 C.2.2.2.2.2.1.1 hP hD hS X.2.1 (cw_own hk) h1 f h3 (va_Nw.use rfl (C.2.2.2.2.2.1.2.1 _ hw)) (fun _ z => z) h6 h7 hn hfit hl9 hd go
theorem cn_S.get {own : String} {i f : Nat} {v : Value} (hd : decode M.2.1 pc = .ok (.getfield i, 3)) (ho : M.1.cls = own) (hf : sk_fl own i X.2.2.2 f) (hk : X.2.1 < X.1.length) (hv : fs[f]? = some v) (k : cn_S l G T S0 d c n M (pc + 3) L (v :: St) (cw X fs tl) Q) : cn_S l G T S0 d c n M pc L (.ref X.2.2.1 :: St) (cw X fs tl) Q := by
  intro p e R s m args below meth kc ce so Z C hc hs hz H locs ls hP hD hS hl
  subst ho
  obtain ⟨Y, TT, N, h1, h2, h3, hw⟩ := hf
  have go := k p e R s m args below meth kc ce so Z C hc hs hz H locs ls hP hD hS hl
  obtain hw | ⟨host, hw⟩ := hw
  · exact va_get C.1 C.2.1 C.2.2.2.2.1 h2 C.2.2.2.1 C.2.2.2.2.2.1.1 hP X.2.1 (cw_own hk) h1 f h3 (C.2.2.2.2.1 _ hw) (fun _ z => z) hv hd go
  · exact va_getN C.1 C.2.1 C.2.2.2.2.1 h2 C.2.2.2.1 C.2.2.2.2.2.1.1 hP X.2.1 (cw_own hk) h1 f h3 (va_Nw.use rfl (C.2.2.2.2.2.1.2.1 _ hw)) (fun _ z => z) hv hd go
theorem cn_S.new {own : String} {i cj N : Nat} {f1 : List Value} (hd : decode M.2.1 pc = .ok (.new i, 3)) (ho : M.1.cls = own) (hn : cn_nw own i cj N f1) (k : ∀ q : Nat, cn_S l G T S0 d c n M (pc + 3) L (.ref q :: St) (cw X fs (tl ++ [(q, .inr (cj, f1))])) Q) : cn_S l G T S0 d (c + 1) (n + N) M pc L St (cw X fs tl) Q := by
  intro p e R s m args below meth kc ce so Z C hc hs hz H locs ls hP hD hS hl
  subst ho
  obtain ⟨Y, TT, ty, h1, h2, h3, h4, h5, h6, h7⟩ := hn
  refine va_new C.1 C.2.1 C.2.2.2.2.1 h2 ty h3 C.2.2.2.1 (C.2.2.2.2.1 _ h4) (C.2.2.2.2.1 _ h5) (C.2.2.2.2.1 _ h6) C.2.2.2.2.2.1.1 hP hD hS (cn_hA C) h1 h7 (by omega) (by omega) hd (fun q H1 hP1 hD1 hS1 => ?_)
  rw [cw_app] at hP1 hD1
  exact k q p e R s m args below meth kc (ce + 1) (so + N) Z C (by omega) (by omega) (fun ws1 H locs pc1 L1 ls a1 a2 a3 a4 a5 => by
    rw [show ce + 1 + c = ce + (c + 1) by omega, show so + N + n = so + (n + N) by omega]
    exact hz ws1 H locs pc1 L1 ls a1 a2 a3 a4 a5) H1 locs ls hP1 hD1 hS1 hl
theorem cn_int : Cond.arrayClass .int ∈ gg_W := gg_at 142 (by decide +kernel)
theorem cn_S.newa {x : Int32} {N : Nat} (hd : decode M.2.1 pc = .ok (.newarray .int, 2)) (hn : ¬ x < 0) (hN : x.toNatClampNeg = N) (hb : N ≤ 1000) (k : ∀ q : Nat, cn_S l G T S0 d c n M (pc + 2) L (.ref q :: St) (cw X fs (tl ++ [(q, .inl (T 0, N, .inl (fun _ => 0)))])) Q) : cn_S l G T S0 d (c + 1) (n + N) M pc L (.int x :: St) (cw X fs tl) Q := by
  intro p e R s m args below meth kc ce so Z C hc hs hz H locs ls hP hD hS hl
  refine va_newa (atype := .int) (ty := .int) (a0 := (N, .inl (fun _ => 0))) C.1 C.2.1 (C.2.2.2.2.1 _ cn_int) rfl C.2.2.2.2.2.1.1 hP hD hS (cn_hA C) (fun cA => rfl) hn hN (by show N * 4 ≤ _; omega) (by omega) (by omega) hd (fun q cA H1 hK1 hP1 hD1 hS1 => ?_)
  have e0 : s.vm.findClass ("[" ++ FieldType.int.toString) = some (T 0) := (C.2.2.2.2.2.1.1.2 0 _ rfl).2
  have e1 : s.vm.findClass ("[" ++ FieldType.int.toString) = some cA := (hK1.2 4 (cA, .int) rfl).2
  have e : cA = T 0 := Option.some.inj (e1.symm.trans e0)
  subst e
  rw [cw_app] at hP1 hD1
  exact k q p e R s m args below meth kc (ce + 1) (so + N) Z C (by omega) (by omega) (fun ws1 H locs pc1 L1 ls a1 a2 a3 a4 a5 => by
    rw [show ce + 1 + c = ce + (c + 1) by omega, show so + N + n = so + (n + N) by omega]
    exact hz ws1 H locs pc1 L1 ls a1 a2 a3 a4 a5) H1 locs ls hP1 hD1 hS1 hl
theorem cn_S.newq {own Y : String} {i t : Nat} {x : Int32} {N : Nat} (hd : decode M.2.1 pc = .ok (.anewarray i, 3)) (ho : M.1.cls = own) (hw : Cond.classLink own i Y ∈ gg_W) (ht : (cn_y T)[t]? = some (T t, .object Y)) (hY : Y ∈ ["PromisedFish$Boat", "PromisedFish$Law", "PromisedFish$Sheet"]) (hn : ¬ x < 0) (hN : x.toNatClampNeg = N) (hb : N ≤ 1000) (k : ∀ q : Nat, cn_S l G T S0 d c n M (pc + 3) L (.ref q :: St) (cw X fs (tl ++ [(q, .inl (T t, N, .inr (.inr (.inr (.inr (fun _ => none))))))])) Q) : cn_S l G T S0 d (c + 1) (n + N) M pc L (.int x :: St) (cw X fs tl) Q := by
  intro p e R s m args below meth kc ce so Z C hc hs hz H locs ls hP hD hS hl
  subst ho
  refine va_newq C.1 C.2.1 C.2.2.2.1 (C.2.2.2.2.1 _ hw) (C.2.2.2.2.2.1.2.2.2 Y hY) C.2.2.2.2.2.1.1 hP hD hS (cn_hA C) hn hN (by omega) (by omega) (by omega) hd (fun q cA H1 hK1 hP1 hD1 hS1 => ?_)
  obtain ⟨-, -, -, -, -, e0⟩ := (C.2.2.2.2.2.1.1.2 t _ ht).2
  obtain ⟨-, -, -, -, -, e1⟩ := (hK1.2 4 (cA, .object Y) rfl).2
  have e : cA = T t := Option.some.inj (e1.symm.trans e0)
  subst e
  rw [cw_app] at hP1 hD1
  exact k q p e R s m args below meth kc (ce + 1) (so + N) Z C (by omega) (by omega) (fun ws1 H locs pc1 L1 ls a1 a2 a3 a4 a5 => by
    rw [show ce + 1 + c = ce + (c + 1) by omega, show so + N + n = so + (n + N) by omega]
    exact hz ws1 H locs pc1 L1 ls a1 a2 a3 a4 a5) H1 locs ls hP1 hD1 hS1 hl
theorem cn_S.aast {t x y a v cj N : Nat} {i : Int32} {r : vw_C} {vs : List Value} {f : Nat → Option Nat} (hd : decode M.2.1 pc = .ok (.aastore, 1)) (ha : tl[x]? = some (a, .inl (T t, N, .inr (.inr (.inr (.inr f)))))) (hv : tl[y]? = some (v, .inr (cj, vs))) (hc : vwCl[cj]? = some r) (ht : (cn_y T)[t]? = some (T t, .object r.1)) (hin : vp_in i N) (k : cn_S l G T S0 d c n M (pc + 1) L St (cw X fs (tl.set x (a, .inl (T t, N, .inr (.inr (.inr (.inr (va_up f i.toNatClampNeg (some v))))))))) Q) : cn_S l G T S0 d c n M pc L (.ref v :: .int i :: .ref a :: St) (cw X fs tl) Q := by
  intro p e R s m args below meth kc ce so Z C hcc hs hz H locs ls hP hD hS hl
  exact va_astq C.1 C.2.1 C.2.2.2.2.2.1.1 hP hD hS (X.1.length + x) t (X.1.length + y) cj (cw_tl.trans ha) ht (cw_tl.trans hv) hc hin hd (fun H1 locs1 hP1 hD1 hS1 => by
    rw [cw_stl] at hP1 hD1
    exact k p e R s m args below meth kc ce so Z C hcc hs hz H1 locs1 ls hP1 hD1 hS1 hl)
theorem cn_S.iast {x a N : Nat} {i z : Int32} {f : Nat → Int32} (hd : decode M.2.1 pc = .ok (.iastore, 1)) (ha : tl[x]? = some (a, .inl (T 0, N, .inl f))) (hin : vp_in i N) (k : cn_S l G T S0 d c n M (pc + 1) L St (cw X fs (tl.set x (a, .inl (T 0, N, .inl (upd f i.toNatClampNeg z))))) Q) : cn_S l G T S0 d c n M pc L (.int z :: .int i :: .ref a :: St) (cw X fs tl) Q := by
  intro p e R s m args below meth kc ce so Z C hcc hs hz H locs ls hP hD hS hl
  exact va_iast C.1 C.2.1 C.2.2.2.2.2.1.1 hP hD hS (X.1.length + x) 0 (cw_tl.trans ha) rfl hin hd (fun H1 locs1 hP1 hD1 hS1 => by
    rw [cw_stl] at hP1 hD1
    exact k p e R s m args below meth kc ce so Z C hcc hs hz H1 locs1 ls hP1 hD1 hS1 hl)
theorem cn_S.alen {x a N : Nat} {v : Int32} {f : Nat → Int32} (hd : decode M.2.1 pc = .ok (.arraylength, 1)) (ha : tl[x]? = some (a, .inl (T 0, N, .inl f))) (hv : Int32.ofNat N = v) (k : cn_S l G T S0 d c n M (pc + 1) L (.int v :: St) (cw X fs tl) Q) : cn_S l G T S0 d c n M pc L (.ref a :: St) (cw X fs tl) Q := by
  intro p e R s m args below meth kc ce so Z C hcc hs hz H locs ls hP hD hS hl
  exact va_alen C.1 C.2.1 C.2.2.2.2.2.1.1 hP (X.1.length + x) 0 (cw_tl.trans ha) rfl hv hd (k p e R s m args below meth kc ce so Z C hcc hs hz H locs ls hP hD hS hl)
theorem cn_oi : Cond.instanceMethod objectInit ∈ gg_W := gg_at 106 (by decide +kernel)
theorem cn_oc : Cond.code objectInit ⟨#[0xb1]⟩ 1 none ∈ gg_W := gg_at 107 (by decide +kernel)
theorem cn_S.obj {own : String} {i a : Nat} (hd : decode M.2.1 pc = .ok (.invokespecial i, 3)) (ho : M.1.cls = own) (hw : Cond.methodLink own i objectInit ∈ gg_W) (hL : L.length = M.2.2.1) (hSt : (St.map fun v => v.category).sum ≤ 8) (k : cn_S l G T S0 (d + 1) c n M (pc + 3) L St ws Q) : cn_S l G T S0 (d + 1) c n M pc L (.ref a :: St) ws Q := by
  intro p e R s m args below meth kc ce so Z C hc hs hz H locs ls hP hD hS hl
  subst ho
  have hFr : d + 1 ≤ R.frames := C.2.2.2.2.2.2.2.2.1
  have hLo : 60 * (d + 1) ≤ R.locals := C.2.2.2.2.2.2.2.2.2.1
  refine W.objInit C.1 C.2.1 C.2.2.2.1 (C.2.2.2.2.1 _ hw) (C.2.2.2.2.1 _ cn_oi) (C.2.2.2.2.1 _ cn_oc) (g := F0 m pc ls (.ref a :: St)) rfl (by rw [C.2.2.1, ← hL]; exact hl.1) rfl hd (by omega) (by show 2 * 0 + _ + 12 ≤ _; omega) ?_
  exact W.eq (g2 := F0 m (pc + 3) ls St) rfl (k p e R s m args below meth kc ce so Z C hc hs hz H locs ls hP hD hS hl)
end
end CN2
