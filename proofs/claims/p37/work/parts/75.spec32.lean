section SPEC32
theorem txL_A {g : Nat → Int32} {u : Nat} {o : psO} {i : Nat} : ∀ k, k ≤ 60 → i < k → txL g u o k (120 + 121 * u + i) = (o.getD i (0, 0)).1
  | 0, _, h => absurd h (Nat.not_lt_zero _)
  | k + 1, hk, h => by
    unfold txL
    rw [upd_ne (by omega)]
    by_cases q : i = k
    · rw [q, upd_eq]
    · rw [upd_ne (by omega)]
      exact txL_A k (by omega) (by omega)
theorem txL_B {g : Nat → Int32} {u : Nat} {o : psO} {i : Nat} : ∀ k, k ≤ 60 → i < k → txL g u o k (180 + 121 * u + i) = (o.getD i (0, 0)).2
  | 0, _, h => absurd h (Nat.not_lt_zero _)
  | k + 1, hk, h => by
    unfold txL
    by_cases q : i = k
    · rw [q, upd_eq]
    · rw [upd_ne (by omega), upd_ne (by omega)]
      exact txL_B k (by omega) (by omega)
theorem txL_no {g : Nat → Int32} {u : Nat} {o : psO} {p : Nat} (hp : p < 120 + 121 * u ∨ 240 + 121 * u ≤ p) : ∀ k, k ≤ 60 → txL g u o k p = g p
  | 0, _ => rfl
  | k + 1, hk => by
    unfold txL
    rw [upd_ne (by omega), upd_ne (by omega)]
    exact txL_no hp k (by omega)
theorem okL_at : ∀ (o : psO) (d k : Nat) (q : Int32 × Int32), okL d o → o[k]? = some q → okQ (dpL d (o.take k)) q
  | [], d, k, q, _, e => by simp at e
  | a :: o, d, 0, q, h, e => by
    have e2 : a = q := by simpa using e
    rw [← e2]
    exact h.1
  | a :: o, d, k + 1, q, h, e => by
    have e2 : o[k]? = some q := by simpa using e
    exact okL_at o (stQ d a) k q h.2 e2
theorem dep_dp {A : Nat → Int32} {o : psO} (hA : ∀ i, i < o.length → A i = (o.getD i (0, 0)).1) : ∀ k, k ≤ o.length → depN A k = dpL 0 (o.take k)
  | 0, _ => by rw [List.take_zero]; rfl
  | k + 1, h => by
    have ih := dep_dp hA k (by omega)
    have hk : k < o.length := by omega
    have e : o[k]? = some o[k] := List.getElem?_eq_getElem hk
    have e1 : A k = o[k].1 := by rw [hA k hk, List.getD_eq_getElem?_getD, e]; rfl
    rw [List.take_add_one, e, dpL_app, ← ih]
    show depN A (k + 1) = stQ (depN A k) o[k]
    have e6 : depN A (k + 1) = if A k = 1 then depN A k + 1 else if A k = 2 then depN A k + 1 else if A k = 3 then depN A k else depN A k - 1 := rfl
    rw [e6, e1]
    rfl
theorem txR_lo {g : Nat → Int32} {u : Nat} {o : psO} (h60 : o.length ≤ 60) : laN (txR g u o) u = o.length ∧ txR g u o (119 + 121 * u) = nI o.length ∧ (∀ i, i < o.length → laA (txR g u o) u i = (o.getD i (0, 0)).1) ∧ (∀ i, i < o.length → laB (txR g u o) u i = (o.getD i (0, 0)).2) := by
  have e : txR g u o (119 + 121 * u) = nI o.length := by
    unfold txR
    rw [txL_no (by omega) _ h60, upd_eq]
  refine ⟨by unfold laN; rw [e, nI_clamp (by omega)], e, fun i hi => ?_, fun i hi => ?_⟩
  · exact txL_A _ h60 hi
  · exact txL_B _ h60 hi
theorem txR_law {g : Nat → Int32} {u : Nat} {o : psO} (h60 : o.length ≤ 60) (hok : ∀ d, okL d o ∧ dpL d o = d + 1) : lawI (txR g u o) u ∧ lawS (txR g u o) u := by
  obtain ⟨e1, e2, e3, e4⟩ := txR_lo (g := g) (u := u) h60
  have hd := dep_dp e3
  have hq : ∀ k, k < o.length → okQ (depN (laA (txR g u o) u) k) (laA (txR g u o) u k, laB (txR g u o) u k) := by
    intro k hk
    have e : o[k]? = some o[k] := List.getElem?_eq_getElem hk
    have e5 : o.getD k (0, 0) = o[k] := by rw [List.getD_eq_getElem?_getD, e]; rfl
    rw [hd k (by omega), e3 k hk, e4 k hk, e5]
    exact okL_at o 0 k _ (hok 0).1 e
  refine ⟨⟨by rw [e1]; exact e2, by rw [e1]; exact h60, fun k hk => ?_, fun h0 => ?_⟩, fun k hk => ?_⟩
  · rw [e1] at hk
    have hq2 := hq k hk
    unfold okQ at hq2
    dsimp only at hq2
    rcases hq2 with ⟨a, b⟩ | ⟨a, b⟩ | ⟨a, b⟩ | ⟨a, b⟩
    · exact ⟨fun z => by rw [a] at z; exact absurd z (by decide), fun z => by rw [a] at z; exact absurd z (by decide), fun z => absurd a z⟩
    · exact ⟨fun _ => b, fun z => by rw [a] at z; exact absurd z (by decide), fun _ z => absurd a z⟩
    · exact ⟨fun z => by rw [a] at z; exact absurd z (by decide), fun _ => b, fun _ _ z => absurd a z⟩
    · obtain ⟨a1, a2, a3, -⟩ := sg_no a
      exact ⟨fun z => absurd z a2, fun z => absurd z a3, fun _ _ _ => b⟩
  · rw [e1, hd _ (Nat.le_refl _), List.take_length, (hok 0).2]
    exact Nat.le_refl _
  · rw [e1] at hk
    have hq2 := hq k hk
    unfold okQ at hq2
    dsimp only at hq2
    rcases hq2 with ⟨a, b⟩ | ⟨a, b⟩ | ⟨a, b⟩ | ⟨a, b⟩
    · exact Or.inl ⟨a, b⟩
    · exact Or.inr (Or.inl ⟨a, b⟩)
    · exact Or.inr (Or.inr (Or.inl a))
    · exact Or.inr (Or.inr (Or.inr a))
theorem txR_ot {g : Nat → Int32} {u p : Nat} {o : psO} (h60 : o.length ≤ 60) (h1 : p < 119 + 121 * u ∨ 240 + 121 * u ≤ p) : txR g u o p = upd g 7 0 p := by
  unfold txR
  rw [txL_no (by omega) _ h60, upd_ne (by omega)]
theorem txP_ok {g : Nat → Int32} {tp u : Nat} (ht : tp ≤ 60) (h1 : (txP g tp u).1 = true) (h2 : (txP g tp u).2.1 = tp) : (txP g tp u).2.2.length ≤ 60 ∧ ∀ d, okL d (txP g tp u).2.2 ∧ dpL d (txP g tp u).2.2 = d + 1 := by
  have hl := pP_len 36 0 0 0 [] h1
  obtain ⟨l, e, k⟩ := pP_ok 36 0 0 0 [] h1
  have e2 : (txP g tp u).2.2 = l := e
  have h3 : (txP g tp u).2.2.length + 0 ≤ ([] : psO).length + (txP g tp u).2.1 := hl.2
  rw [h2] at h3
  refine ⟨?_, by rw [e2]; exact k⟩
  have h4 : ([] : psO).length = 0 := rfl
  omega
theorem txR_G {g : Nat → Int32} {u : Nat} {o : psO} (H : RG g) (hu : u < 2) (h60 : o.length ≤ 60) (hok : ∀ d, okL d o ∧ dpL d o = d + 1) : RG (txR g u o) := by
  have H7 : RG (upd g 7 0) := H.u7 ⟨0, by decide, rfl⟩
  have hij : ∀ v, v < 2 → lawI (txR g u o) v ∧ lawS (txR g u o) v := by
    intro v hv
    by_cases q : v = u
    · subst q; exact txR_law h60 hok
    · have e : ∀ p, 119 + 121 * v ≤ p → p < 240 + 121 * v → txR g u o p = upd g 7 0 p := fun p a b => txR_ot h60 (by omega)
      exact ⟨lawI_cu e (H7.i hv), lawS_cu (laN_lt (H7.i hv)) e (H7.s hv)⟩
  exact H7.lw (fun p hp => txR_ot h60 (by omega)) (hij 0 (by decide)).1 (hij 1 (by decide)).1 (hij 0 (by decide)).2 (hij 1 (by decide)).2
theorem textF_G {g : Nat → Int32} {x : Int32} (H : RG g) : RG (textF g x).1 := by
  refine cif_P (fun z : aF => RG z.1) (fun c => cif_P (fun z : aF => RG z.1) (fun c2 => ?_) (fun _ => H.u7 ⟨0, by decide, rfl⟩)) (fun _ => H)
  obtain ⟨j, hj, rfl⟩ := c
  obtain ⟨tp, ht, et⟩ := H.tp
  rw [et, clN (show tp < 2147483648 by omega), clN (show j < 2147483648 by omega)] at c2 ⊢
  obtain ⟨h60, hok⟩ := txP_ok ht c2.1 c2.2
  exact txR_G H hj h60 hok
/-- the class's text, once read, is as the row has it -/
theorem txC {h : sk_M} {lo co u : Nat} {g : Nat → Int32} {o : psO} (h60 : o.length ≤ 60) (hok : ∀ d, okL d o ∧ dpL d o = d + 1) (e2 : h lo 2 = nI o.length) (e3 : h lo 3 = 1) (ec : ∀ (i : Nat) (q : Int32 × Int32), o[i]? = some q → h co i = encC q.1 q.2) : lawC h lo co (txR g u o) u := by
  obtain ⟨a1, a2, a3, a4⟩ := txR_lo (g := g) (u := u) h60
  have h0 : 0 < o.length := by
    apply Nat.pos_of_ne_zero
    intro q
    have e := List.eq_nil_of_length_eq_zero q
    have := (hok 0).2
    rw [e] at this
    exact absurd this (by decide)
  refine ⟨by rw [a1, if_pos h0]; exact e3, fun _ => by rw [a1]; exact e2, fun k hk => ?_⟩
  rw [a1] at hk
  have e : o[k]? = some o[k] := List.getElem?_eq_getElem hk
  have e5 : o.getD k (0, 0) = o[k] := by rw [List.getD_eq_getElem?_getD, e]; rfl
  rw [a3 k hk, a4 k hk, e5]
  exact ec k _ e
end SPEC32
section SPEC32B
theorem lpP_le {f : Nat → psO → psT} {g : Nat → Int32} {tp lev : Nat} (hlev : lev < 5) (hf : ∀ p o, p ≤ tp → (f p o).2.1 ≤ tp) : ∀ c p o, p ≤ tp → (lpP f (tkT g tp) lev c p o).2.1 ≤ tp
  | 0, p, o, h => h
  | c + 1, p, o, h => by
    unfold lpP
    by_cases q : lvP (tkT g tp p) = lev
    · rw [if_pos q]
      have hp : p < tp := tk_lt (g := g) (by rw [q]; exact hlev)
      by_cases q2 : (f (p + 1) o).1 = true
      · rw [if_pos q2]
        exact lpP_le hlev hf c _ _ (hf _ _ (by omega))
      · rw [if_neg q2]
        exact hf _ _ (by omega)
    · rw [if_neg q]
      exact h
theorem pP_le {g : Nat → Int32} {tp u : Nat} : ∀ n lev op p o, p ≤ tp → (pP (tkT g tp) u n lev op p o).2.1 ≤ tp
  | 0, lev, op, p, o, h => h
  | n + 1, lev, op, p, o, h => by
    have ih := pP_le (g := g) (tp := tp) (u := u) n
    unfold pP
    by_cases q : 5 ≤ lev
    · rw [if_pos q]
      unfold itP
      by_cases q1 : 0 ≤ nmI u (tkT g tp p)
      · rw [if_pos q1]
        exact nm_lt q1
      · rw [if_neg q1]
        by_cases q2 : tkT g tp p = 33
        · have hp : p < tp := tk_sg q2 (Or.inl rfl)
          rw [if_pos q2]
          by_cases q3 : op = 5
          · rw [if_pos q3]; exact h
          · rw [if_neg q3]
            by_cases q4 : (pP (tkT g tp) u n 5 (op + 1) (p + 1) o).1 = true
            · rw [if_pos q4]; exact ih _ _ _ _ (by omega)
            · rw [if_neg q4]; exact ih _ _ _ _ (by omega)
        · rw [if_neg q2]
          by_cases q5 : tkT g tp p = 40
          · have hp : p < tp := tk_sg q5 (Or.inr rfl)
            rw [if_pos q5]
            by_cases q3 : op = 5
            · rw [if_pos q3]; exact h
            · rw [if_neg q3]
              by_cases q4 : (pP (tkT g tp) u n 0 (op + 1) (p + 1) o).1 = true
              · rw [if_pos q4]
                by_cases q6 : tkT g tp (pP (tkT g tp) u n 0 (op + 1) (p + 1) o).2.1 = 41
                · rw [if_pos q6]
                  show (pP (tkT g tp) u n 0 (op + 1) (p + 1) o).2.1 + 1 ≤ tp
                  apply Decidable.byContradiction
                  intro q7
                  rw [tk_no (by omega)] at q6
                  exact absurd q6 (by decide)
                · rw [if_neg q6]; exact ih _ _ _ _ (by omega)
              · rw [if_neg q4]; exact ih _ _ _ _ (by omega)
          · rw [if_neg q5]
            by_cases q6 : (nuL (tkT g tp) 4 p 0).1 = p
            · rw [if_pos q6]; exact h
            · rw [if_neg q6]; exact nuL_tp 4 p 0 h
    · rw [if_neg q]
      by_cases q1 : (pP (tkT g tp) u n (lev + 1) op p o).1 = true
      · rw [if_pos q1]
        exact lpP_le (by omega) (fun p o h => ih _ _ _ _ h) _ _ _ (ih _ _ _ _ h)
      · rw [if_neg q1]
        exact ih _ _ _ _ h
theorem txP_lt {g : Nat → Int32} {tp u : Nat} (ht : tp ≤ 60) : (txP g tp u).2.1 < 2147483648 := by
  have : (txP g tp u).2.1 ≤ tp := pP_le 36 0 0 0 [] (Nat.zero_le _)
  omega
end SPEC32B
