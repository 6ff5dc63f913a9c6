section SPEC17
def psB (h g : sk_M) (op p : Nat) : Prop := sk_o [54, 61, 62] h g ∧ (∀ k, ¬ k = 11 → ¬ k = 12 → ¬ k = 13 → ¬ k = 14 → g 54 k = h 54 k) ∧ g 54 12 = nI p ∧ g 54 13 = nI op
def psI (h g : sk_M) (op p : Nat) (o : psO) : Prop := psB h g op p ∧ g 54 14 = 0 ∧ g 54 11 = nI o.length ∧ o.length ≤ p ∧ ∀ (i : Nat) (q : Int32 × Int32), o[i]? = some q → g 61 i = q.1 ∧ g 62 i = q.2
def psF (h g : sk_M) (op p : Nat) : Prop := psB h g op p ∧ g 54 14 = 1 ∧ ∃ l, l ≤ 60 ∧ g 54 11 = nI l
def psR (h g : sk_M) (tp op : Nat) (x : psT) : Prop := x.2.1 ≤ tp ∧ ((x.1 = true ∧ psI h g op x.2.1 x.2.2) ∨ (x.1 = false ∧ psF h g op x.2.1))
theorem psR.B {h g : sk_M} {tp op : Nat} {x : psT} (q : psR h g tp op x) : psB h g op x.2.1 := by
  rcases q.2 with ⟨-, y⟩ | ⟨-, y⟩
  · exact y.1
  · exact y.1
theorem psR.ok {h g : sk_M} {tp op : Nat} {x : psT} (q : psR h g tp op x) (e : g 54 14 = 0) : x.1 = true ∧ psI h g op x.2.1 x.2.2 := by
  rcases q.2 with y | ⟨-, y⟩
  · exact y
  · rw [y.2.1] at e
    exact absurd e (by decide)
theorem psR.no {h g : sk_M} {tp op : Nat} {x : psT} (q : psR h g tp op x) (e : ¬ g 54 14 = 0) : x.1 = false ∧ psF h g op x.2.1 := by
  rcases q.2 with ⟨-, y⟩ | y
  · exact absurd y.2.1 e
  · exact y
theorem psR.laid {h g : sk_M} {tp op : Nat} {x : psT} (ht : tp ≤ 60) (q : psR h g tp op x) : ∃ n, n ≤ 60 ∧ g 54 11 = nI n := by
  have h1 := q.1
  rcases q.2 with ⟨-, y⟩ | ⟨-, y⟩
  · exact ⟨_, by have := y.2.2.2.1; omega, y.2.2.1⟩
  · exact y.2.2
theorem psI.lay {h g g1 : sk_M} {op p n : Nat} {o : psO} {w v : Int32} (x : psI h g op p o) (o9 : sk_o [54, 61, 62] g g1) (a9 : ∀ k, ¬ k = 11 → g1 54 k = g 54 k) (l9 : layQ g g1 n w v) (hn : g 54 11 = nI n) (hn60 : n ≤ 60) (hp : p ≤ 60) (hl : o.length < p) : psI h g1 op p (o ++ [(w, v)]) := by
  obtain ⟨⟨b1, b2, b3, b4⟩, x1, x2, x3, x4⟩ := x
  have hno : n = o.length := nI_inj (by omega) (by omega) (hn.symm.trans x2)
  subst hno
  rcases l9 with ⟨c1, c2, c3, c4⟩ | ⟨c1, -⟩
  · refine ⟨⟨b1.tr o9, fun k k1 k2 k3 k4 => (a9 k k1).trans (b2 k k1 k2 k3 k4), (a9 12 (by decide)).trans b3, (a9 13 (by decide)).trans b4⟩, (a9 14 (by decide)).trans x1, by rw [c2, List.length_append]; rfl, by rw [List.length_append]; exact hl, ?_⟩
    intro i q hq
    rw [c3, c4]
    by_cases e : i = o.length
    · subst e
      rw [List.getElem?_append_right (Nat.le_refl _), Nat.sub_self] at hq
      cases hq
      exact ⟨upd_eq, upd_eq⟩
    · have hi : i < o.length := by
        have := (List.getElem?_eq_some_iff.mp hq).1
        rw [List.length_append] at this
        have h1 : [(w, v)].length = 1 := rfl
        omega
      rw [List.getElem?_append_left hi] at hq
      rw [upd_ne e, upd_ne e]
      exact x4 i q hq
  · omega
theorem psF.lay {h g g1 : sk_M} {op p n : Nat} {w v : Int32} (x : psF h g op p) (o9 : sk_o [54, 61, 62] g g1) (a9 : ∀ k, ¬ k = 11 → g1 54 k = g 54 k) (l9 : layQ g g1 n w v) : psF h g1 op p := by
  obtain ⟨⟨b1, b2, b3, b4⟩, x1, -⟩ := x
  refine ⟨⟨b1.tr o9, fun k k1 k2 k3 k4 => (a9 k k1).trans (b2 k k1 k2 k3 k4), (a9 12 (by decide)).trans b3, (a9 13 (by decide)).trans b4⟩, (a9 14 (by decide)).trans x1, ?_⟩
  rcases l9 with ⟨c1, c2, -⟩ | ⟨c1, c2⟩
  · exact ⟨_, by omega, c2⟩
  · exact ⟨60, Nat.le_refl _, c2⟩
/-- one byte on -/
theorem psI.step {h g : sk_M} {op p : Nat} {o : psO} (x : psI h g op p o) : psI h (sk_u g 54 12 (g 54 12 + 1)) op (p + 1) o := by
  obtain ⟨⟨b1, b2, b3, b4⟩, x1, x2, x3, x4⟩ := x
  have e : ∀ k, ¬ k = 12 → sk_u g 54 12 (g 54 12 + 1) 54 k = g 54 k := fun k hk => by rw [sk_u_at, if_pos rfl, if_neg hk]
  refine ⟨⟨b1.u (by decide), fun k k1 k2 k3 k4 => (e k k2).trans (b2 k k1 k2 k3 k4), ?_, (e 13 (by decide)).trans b4⟩, (e 14 (by decide)).trans x1, (e 11 (by decide)).trans x2, by omega, x4⟩
  rw [sk_u_at, if_pos rfl, if_pos rfl, b3, nI_succ]
theorem lpP_len {f : Nat → psO → psT} {T : Nat → Int32} {lev : Nat} (hf : ∀ p o, (f p o).1 = true → p < (f p o).2.1 ∧ (f p o).2.2.length + p ≤ o.length + (f p o).2.1) : ∀ c p o, (lpP f T lev c p o).1 = true → p ≤ (lpP f T lev c p o).2.1 ∧ (lpP f T lev c p o).2.2.length + p ≤ o.length + (lpP f T lev c p o).2.1
  | 0, p, o, _ => ⟨Nat.le_refl _, Nat.le_refl _⟩
  | c + 1, p, o, h => by
    unfold lpP at h ⊢
    by_cases q : lvP (T p) = lev
    · rw [if_pos q] at h ⊢
      by_cases q2 : (f (p + 1) o).1 = true
      · rw [if_pos q2] at h ⊢
        have h1 := hf (p + 1) o q2
        have h2 := lpP_len hf c _ _ h
        rw [List.length_append] at h2
        have h3 : [(T p, (0 : Int32))].length = 1 := rfl
        omega
      · rw [if_neg q2] at h
        exact absurd h q2
    · rw [if_neg q] at h ⊢
      exact ⟨Nat.le_refl _, Nat.le_refl _⟩
theorem pP_len {T : Nat → Int32} {u : Nat} : ∀ n lev op p o, (pP T u n lev op p o).1 = true → p < (pP T u n lev op p o).2.1 ∧ (pP T u n lev op p o).2.2.length + p ≤ o.length + (pP T u n lev op p o).2.1
  | 0, lev, op, p, o, h => absurd h (by unfold pP; exact Bool.false_ne_true)
  | n + 1, lev, op, p, o, h => by
    have ih := pP_len (T := T) (u := u) n
    unfold pP at h ⊢
    by_cases q : 5 ≤ lev
    · rw [if_pos q] at h ⊢
      unfold itP at h ⊢
      by_cases q1 : 0 ≤ nmI u (T p)
      · rw [if_pos q1]
        simp only [List.length_append, List.length_cons, List.length_nil]
        omega
      · rw [if_neg q1] at h ⊢
        by_cases q2 : T p = 33
        · rw [if_pos q2] at h ⊢
          by_cases q3 : op = 5
          · rw [if_pos q3] at h; exact absurd h Bool.false_ne_true
          · rw [if_neg q3] at h ⊢
            by_cases q4 : (pP T u n 5 (op + 1) (p + 1) o).1 = true
            · rw [if_pos q4]
              have h1 := ih 5 (op + 1) (p + 1) o q4
              simp only [List.length_append, List.length_cons, List.length_nil]
              omega
            · rw [if_neg q4] at h; exact absurd h q4
        · rw [if_neg q2] at h ⊢
          by_cases q5 : T p = 40
          · rw [if_pos q5] at h ⊢
            by_cases q3 : op = 5
            · rw [if_pos q3] at h; exact absurd h Bool.false_ne_true
            · rw [if_neg q3] at h ⊢
              by_cases q4 : (pP T u n 0 (op + 1) (p + 1) o).1 = true
              · rw [if_pos q4] at h ⊢
                have h1 := ih 0 (op + 1) (p + 1) o q4
                by_cases q6 : T (pP T u n 0 (op + 1) (p + 1) o).2.1 = 41
                · rw [if_pos q6]
                  dsimp only
                  omega
                · rw [if_neg q6] at h; exact absurd h Bool.false_ne_true
              · rw [if_neg q4] at h; exact absurd h q4
          · rw [if_neg q5] at h ⊢
            by_cases q6 : (nuL T 4 p 0).1 = p
            · rw [if_pos q6] at h; exact absurd h Bool.false_ne_true
            · rw [if_neg q6]
              have h1 := (nuL_ge (T := T) 4 p 0).1
              simp only [List.length_append, List.length_cons, List.length_nil]
              omega
    · rw [if_neg q] at h ⊢
      by_cases q1 : (pP T u n (lev + 1) op p o).1 = true
      · rw [if_pos q1] at h ⊢
        have h1 := ih (lev + 1) op p o q1
        have h2 := lpP_len (f := pP T u n (lev + 1) op) (fun p o => ih (lev + 1) op p o) _ _ _ h
        omega
      · rw [if_neg q1] at h; exact absurd h q1
def ndD (op lev : Nat) : Nat := (5 - op) * 6 + (6 - lev)
theorem tk_lt {g : Nat → Int32} {tp p : Nat} (h : lvP (tkT g tp p) < 5) : p < tp := by
  apply Decidable.byContradiction
  intro q
  have e : tkT g tp p = -1 := if_neg q
  rw [e] at h
  exact absurd h (by decide)
theorem tk_no {g : Nat → Int32} {tp p : Nat} (h : tp ≤ p) : tkT g tp p = -1 := if_neg (by omega)
/-- what a method of reading answers for -/
def psK (l : Launch) (E : sk_V) (h : sk_M) (g0 : Nat → Int32) (tp u n lev : Nat) (M : sk_m) : Prop := ∀ (d op p : Nat) (o : psO) (g : sk_M), op ≤ 5 → p ≤ tp → ndD op lev ≤ n → psI h g op p o → sk_K l E (2 * n + d + 2) M [.ref 54] g (fun r h1 => psR h h1 tp op (pP (tkT g0 tp) u n lev op p o) ∧ none = r)
theorem pP_no {T : Nat → Int32} {u n lev op p : Nat} {o : psO} (hl : lev < 5) (q : (pP T u n (lev + 1) op p o).1 = false) : pP T u (n + 1) lev op p o = pP T u n (lev + 1) op p o := by
  rw [pP, if_neg (by omega), if_neg (by rw [q]; exact Bool.false_ne_true)]
theorem pP_yes {T : Nat → Int32} {u n lev op p : Nat} {o : psO} (hl : lev < 5) (q : (pP T u n (lev + 1) op p o).1 = true) : pP T u (n + 1) lev op p o = lpP (pP T u n (lev + 1) op) T lev (if lev = 2 then 1 else 60) (pP T u n (lev + 1) op p o).2.1 (pP T u n (lev + 1) op p o).2.2 := by
  rw [pP, if_neg (by omega), if_pos q]
theorem lp_out {f : Nat → psO → psT} {T : Nat → Int32} {lev c p : Nat} {o : psO} (q : ¬ lvP (T p) = lev) : lpP f T lev c p o = (true, p, o) := by
  cases c with
  | zero => rfl
  | succ c => rw [lpP, if_neg q]
theorem lp_yes {f : Nat → psO → psT} {T : Nat → Int32} {lev c p : Nat} {o : psO} (q : lvP (T p) = lev) (q2 : (f (p + 1) o).1 = true) : lpP f T lev (c + 1) p o = lpP f T lev c (f (p + 1) o).2.1 ((f (p + 1) o).2.2 ++ [(T p, 0)]) := by
  rw [lpP, if_pos q, if_pos q2]
theorem lp_no {f : Nat → psO → psT} {T : Nat → Int32} {lev c p : Nat} {o : psO} (q : lvP (T p) = lev) (q2 : (f (p + 1) o).1 = false) : lpP f T lev (c + 1) p o = f (p + 1) o := by
  rw [lpP, if_pos q, if_neg (by rw [q2]; exact Bool.false_ne_true)]
theorem lv_x {b : Int32} {k : Nat} (hk : k < 5) (ys : List Int32) (hy : ∀ y ∈ ys, lvP y = k) (hn : ∀ y ∈ ([124, 38, 60, 61, 62, 43, 45, 42, 47, 37] : List Int32), lvP y = k → y ∈ ys) : lvP b = k ↔ b ∈ ys := by
  constructor
  · intro h
    have hb : b ∈ ([124, 38, 60, 61, 62, 43, 45, 42, 47, 37] : List Int32) := by
      apply Decidable.byContradiction
      intro q
      simp only [List.mem_cons, not_or, List.not_mem_nil, not_false_eq_true, and_true] at q
      obtain ⟨q1, q2, q3, q4, q5, q6, q7, q8, q9, q10⟩ := q
      have e : lvP b = 5 := by simp [lvP, q1, q2, q3, q4, q5, q6, q7, q8, q9, q10]
      omega
    exact hn b hb h
  · exact hy b
theorem lv_1 {b : Int32} : lvP b = 1 ↔ b ∈ ([38] : List Int32) := lv_x (by decide) _ (by decide) (by decide)
theorem lv_2 {b : Int32} : lvP b = 2 ↔ b ∈ ([60, 61, 62] : List Int32) := lv_x (by decide) _ (by decide) (by decide)
theorem lv_3 {b : Int32} : lvP b = 3 ↔ b ∈ ([43, 45] : List Int32) := lv_x (by decide) _ (by decide) (by decide)
theorem lv_4 {b : Int32} : lvP b = 4 ↔ b ∈ ([42, 47, 37] : List Int32) := lv_x (by decide) _ (by decide) (by decide)
theorem lv_00 {b : Int32} : lvP b = 0 ↔ b ∈ ([124] : List Int32) := lv_x (by decide) _ (by decide) (by decide)
end SPEC17
