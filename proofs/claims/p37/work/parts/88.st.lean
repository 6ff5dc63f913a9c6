section ST
theorem st_eq {args : Array Value} {s : State} {a : Term} {n : Int32} (h : (Cond.eq a (.int n)).before args s = true) : a.eval args s none [] s = some (.int n) := Cond.eq_int h rfl
abbrev tA : Term := .static "PromisedFish" "ABOVE" "[I"
abbrev tB : Term := .static "PromisedFish$Voices" "BODIES" "[I"
abbrev tS : Term := .string "PromisedFish$Reader" 82
abbrev flL : List Cond := flatC (Jvm.Cond.and given_1 narrow_1)
theorem mA : ∀ j, j < 7 → Cond.eq (.elem tA (.int (Int32.ofNat j))) (.int (ab_L.getD j 0)) ∈ flL := by decide +kernel
theorem mB : ∀ j, j < 28 → Cond.eq (.elem tB (.int (Int32.ofNat j))) (.int (bo_L.getD j 0)) ∈ flL := by decide +kernel
theorem mS : ∀ j, j < 6 → Cond.eq (.elem (.field tS "java/lang/String" "value" "[B") (.int (Int32.ofNat j))) (.int (([99, 115, 110, 112, 116, 110] : List Int32).getD j 0)) ∈ flL := by decide +kernel
section
variable {s : State} {b : Nat}
theorem st_A (hs : ∀ c ∈ flL, c.before #[Value.ref b] s = true) (hw : ∀ w ∈ lw_tbl, w.before #[Value.ref b] s = true) : ∃ t : Nat, va_T .int t 7 (fun j => .int (ab_L.getD j 0)) (cn_A s.heap.size) s s.heap ∧ va_Z "PromisedFish" "ABOVE" "[I" (.ref t) (cn_A s.heap.size) s s.heap := by
  have hA : ∀ a : Nat, a < s.heap.size → ¬ cn_A s.heap.size a := fun a h q => absurd h (Nat.not_lt.mpr q)
  obtain ⟨t, e, h⟩ := va_Tof (tm := tA) (ty := .int) (N := 7) (f := fun j => .int (ab_L.getD j 0)) (A := cn_A s.heap.size) (by decide) (hs (.arrayOf tA .int) (by decide +kernel)) (st_eq (hs (.eq (.length tA) (.int 7)) (by decide +kernel))) (fun j hj => st_eq (hs _ (mA j hj))) hA
  exact ⟨t, h, va_Zof (hw (.laysStatic "PromisedFish" "ABOVE" "[I") (by decide +kernel)) (hw (.initialized "PromisedFish") (by decide +kernel)) e hA⟩
theorem st_B (hs : ∀ c ∈ flL, c.before #[Value.ref b] s = true) (hw : ∀ w ∈ lw_tbl, w.before #[Value.ref b] s = true) : ∃ t : Nat, va_T .int t 28 (fun j => .int (bo_L.getD j 0)) (cn_A s.heap.size) s s.heap ∧ va_Z "PromisedFish$Voices" "BODIES" "[I" (.ref t) (cn_A s.heap.size) s s.heap := by
  have hA : ∀ a : Nat, a < s.heap.size → ¬ cn_A s.heap.size a := fun a h q => absurd h (Nat.not_lt.mpr q)
  obtain ⟨t, e, h⟩ := va_Tof (tm := tB) (ty := .int) (N := 28) (f := fun j => .int (bo_L.getD j 0)) (A := cn_A s.heap.size) (by decide) (hs (.arrayOf tB .int) (by decide +kernel)) (st_eq (hs (.eq (.length tB) (.int 28)) (by decide +kernel))) (fun j hj => st_eq (hs _ (mB j hj))) hA
  exact ⟨t, h, va_Zof (hw (.laysStatic "PromisedFish$Voices" "BODIES" "[I") (by decide +kernel)) (hw (.initialized "PromisedFish$Voices") (by decide +kernel)) e hA⟩
theorem st_S (hs : ∀ c ∈ flL, c.before #[Value.ref b] s = true) (hw : ∀ w ∈ lw_tbl, w.before #[Value.ref b] s = true) : ∃ k v : Nat, vk_S 1 [6] [[99, 115, 110, 112, 116, 110]] (fun _ => k) (fun _ => v) (cn_A s.heap.size) s s.heap ∧ vk_R "PromisedFish$Reader" 82 "csnptn" k s := by
  have hA : ∀ a : Nat, a < s.heap.size → ¬ cn_A s.heap.size a := fun a h q => absurd h (Nat.not_lt.mpr q)
  obtain ⟨adK, adV, h, e⟩ := vk_Sof (N := 1) (tm := fun _ => tS) (len := [6]) (byt := [[99, 115, 110, 112, 116, 110]]) (A := cn_A s.heap.size) (fun i hi => by rw [show i = 0 by omega]; decide) (fun i hi => hs (.exactly tS "java/lang/String") (by decide +kernel)) (fun i hi => hs (.eq (.field tS "java/lang/String" "coder" "B") (.int 0)) (by decide +kernel)) (fun i hi => hs (.arrayOf (.field tS "java/lang/String" "value" "[B") .byte) (by decide +kernel)) (fun i hi => by rw [show i = 0 by omega]; exact hs (.eq (.length (.field tS "java/lang/String" "value" "[B")) (.int 6)) (by decide +kernel)) (fun i hi j hj => by
    rw [show i = 0 by omega] at hj ⊢
    exact hs _ (mS j hj)) (fun i j hi hj hij => absurd (show i = j by omega) hij) hA
  refine ⟨adK 0, adV 0, ⟨fun i hi => ?_, fun i j hi hj _ => by omega⟩, vk_R.of (hw (.stringRef "PromisedFish$Reader" 82 "csnptn") (by decide +kernel)) (e 0 (by decide))⟩
  have h0 := h.1 i hi
  rw [show i = 0 by omega] at h0 ⊢
  exact h0
theorem st_C (hs : ∀ c ∈ flL, c.before #[Value.ref b] s = true) (hw : ∀ w ∈ lw_tbl, w.before #[Value.ref b] s = true) : va_Z "java/lang/String" "COMPACT_STRINGS" "Z" (.int 1) (cn_A s.heap.size) s s.heap ∧ va_Zq "jdk/internal/util/Preconditions" "SIOOBE_FORMATTER" "Ljava/util/function/BiFunction;" (cn_A s.heap.size) s s.heap := by
  have hA : ∀ a : Nat, a < s.heap.size → ¬ cn_A s.heap.size a := fun a h q => absurd h (Nat.not_lt.mpr q)
  exact ⟨va_Zof (hw (.laysStatic "java/lang/String" "COMPACT_STRINGS" "Z") (by decide +kernel)) (hw (.initialized "java/lang/String") (by decide +kernel)) (st_eq (hs (.eq (.static "java/lang/String" "COMPACT_STRINGS" "Z") (.int 1)) (by decide +kernel))) hA,
    va_Zqof (hw (.laysStatic "jdk/internal/util/Preconditions" "SIOOBE_FORMATTER" "Ljava/util/function/BiFunction;") (by decide +kernel)) (hw (.initialized "jdk/internal/util/Preconditions") (by decide +kernel)) (hs (.isRef (.static "jdk/internal/util/Preconditions" "SIOOBE_FORMATTER" "Ljava/util/function/BiFunction;")) (by decide +kernel)) hA⟩
/-- the classes and the rows' classes at the start -/
theorem st_arr (hw : ∀ w ∈ lw_tbl, w.before #[Value.ref b] s = true) {C : String} (hC : Cond.arrayOver (.object C) ∈ lw_tbl) : va_AO C s ∧ ∃ cA : ClassId, ArrOfT s cA (.object C) ∧ va_RA s cA (.object C) := by
  have h := hw _ hC
  obtain ⟨comp, c, k, h1, h2, h3, h4, h5⟩ := Cond.arrayOver_spec h
  exact ⟨va_AO.of h, c, fun N z => ⟨(fun k h => by cases h), k, h3, comp, h4⟩, k, comp, h3, h4, h1, h5⟩
theorem st_int (hw : ∀ w ∈ lw_tbl, w.before #[Value.ref b] s = true) : ∃ cA : ClassId, ArrOfT s cA .int ∧ va_RA s cA .int := by
  obtain ⟨c, k, comp, h1, h2, h3⟩ := Cond.arrayClass_spec (hw (.arrayClass .int) (by decide +kernel))
  exact ⟨c, fun N z => ⟨(fun k h => by cases h), k, h2, comp, h3⟩, h1⟩
theorem st_F (hw : ∀ w ∈ lw_tbl, w.before #[Value.ref b] s = true) : ∃ (G : va_G) (T : Nat → ClassId), cn_F G T s.heap.size s := by
  have gw : ∀ w ∈ gg_W, w.before #[Value.ref b] s = true := fun w h => hw w (List.mem_filter.mp h).1
  have kn : ∀ (c : Nat) (q : vw_C), vwCl[c]? = some q → ∃ (cC : ClassId) (iS : Nat → Nat), u_Kn s q.1 q.2.1 q.2.2 cC iS := by
    intro c q hq
    match c, hq with
    | 0, hq => cases hq; exact u_known (n := 3) gw uX0 (hw (.instantiable RX0 3) (by decide +kernel))
    | 1, hq => cases hq; exact u_known (n := 4) gw uX1 (hw (.instantiable RX1 4) (by decide +kernel))
    | 2, hq => cases hq; exact u_known (n := 15) gw uX2 (hw (.instantiable RX2 15) (by decide +kernel))
    | 3, hq => cases hq; exact u_known (n := 6) gw uX3 (hw (.instantiable RX3 6) (by decide +kernel))
    | 4, hq => cases hq; exact u_known (n := 3) gw uX4 (hw (.instantiable RX4 3) (by decide +kernel))
    | 5, hq => cases hq; exact u_known (n := 6) gw uX6 (hw (.instantiable RX6 6) (by decide +kernel))
    | 6, hq => cases hq; exact u_known (n := 7) gw uX7 (hw (.instantiable RX7 7) (by decide +kernel))
    | 7, hq => cases hq; exact u_known (n := 20) gw uX8 (hw (.instantiable RX8 20) (by decide +kernel))
    | c + 8, hq => simp [vwCl] at hq
  have kn2 : ∀ c : Nat, ∃ z : ClassId × (Nat → Nat), ∀ q : vw_C, vwCl[c]? = some q → u_Kn s q.1 q.2.1 q.2.2 z.1 z.2 := by
    intro c
    cases e : vwCl[c]? with
    | none => exact ⟨(0, fun _ => 0), fun q hq => by cases hq⟩
    | some q =>
      obtain ⟨cC, iS, h⟩ := kn c q e
      exact ⟨(cC, iS), fun q2 hq => by cases hq; exact h⟩
  obtain ⟨f, hf⟩ := Classical.axiomOfChoice kn2
  obtain ⟨t0, a0, r0⟩ := st_int hw
  obtain ⟨o1, t1, a1, r1⟩ := st_arr hw (C := "PromisedFish$Boat") (by decide +kernel)
  obtain ⟨o2, t2, a2, r2⟩ := st_arr hw (C := "PromisedFish$Law") (by decide +kernel)
  obtain ⟨o3, t3, a3, r3⟩ := st_arr hw (C := "PromisedFish$Sheet") (by decide +kernel)
  refine ⟨(fun c => (f c).1, fun c => (f c).2), fun k => match k with | 0 => t0 | 1 => t1 | 2 => t2 | _ => t3, ⟨fun c q hq => hf c q hq, fun k q hq => ?_⟩, fun w hn => ?_, Nat.le_refl _, fun C hC => ?_⟩
  · match k, hq with
    | 0, hq => cases hq; exact ⟨a0, r0⟩
    | 1, hq => cases hq; exact ⟨a1, r1⟩
    | 2, hq => cases hq; exact ⟨a2, r2⟩
    | 3, hq => cases hq; exact ⟨a3, r3⟩
    | k + 4, hq => simp at hq
  · have h1 := List.mem_filter.mp hn
    have h2 := hw w (List.mem_append_right _ h1.1)
    have hb := h1.2
    cases w <;> first | exact va_Nw.of rfl h2 | (simp [nn_b] at hb)
  · simp only [List.mem_cons, List.not_mem_nil, or_false] at hC
    rcases hC with rfl | rfl | rfl
    · exact o1
    · exact o2
    · exact o3
end
end ST
