section SPEC27
/-- what stays while the class reads a text -/
def rdC (h : sk_M) (ρ : Nat → Int32) (tp u : Nat) : Prop := h 3 3 = nI tp ∧ h 3 5 = nI u ∧ (∀ k, k < tp → h 16 k = ρ (35 + k)) ∧ tp ≤ 60 ∧ u < 2
def rdB (h g : sk_M) (p : Nat) : Prop := sk_o [3, 15] h g ∧ (∀ k, ¬ k = 1 → ¬ k = 4 → g 3 k = h 3 k) ∧ g 3 4 = nI p
def rdI (h g : sk_M) (p : Nat) (o : psO) : Prop := rdB h g p ∧ g 3 1 = nI o.length ∧ o.length ≤ p ∧ ∀ (i : Nat) (q : Int32 × Int32), o[i]? = some q → g 15 i = encC q.1 q.2
def rdR (h g : sk_M) (tp : Nat) (x : psT) : Prop := x.2.1 ≤ tp ∧ ((x.1 = true ∧ rdI h g x.2.1 x.2.2) ∨ (x.1 = false ∧ rdB h g x.2.1))
theorem rdC.up {h g : sk_M} {ρ : Nat → Int32} {tp u p : Nat} (C : rdC h ρ tp u) (b : rdB h g p) : rdC g ρ tp u :=
  ⟨(b.2.1 3 (by decide) (by decide)).trans C.1, (b.2.1 5 (by decide) (by decide)).trans C.2.1, fun k hk => by rw [b.1 16 (by decide)]; exact C.2.2.1 k hk, C.2.2.2.1, C.2.2.2.2⟩
theorem rdR.B {h g : sk_M} {tp : Nat} {x : psT} (q : rdR h g tp x) : rdB h g x.2.1 := by
  rcases q.2 with ⟨-, y⟩ | ⟨-, y⟩
  · exact y.1
  · exact y
theorem rdR.ok {h g : sk_M} {tp : Nat} {x : psT} (q : rdR h g tp x) (e : x.1 = true) : rdI h g x.2.1 x.2.2 := by
  rcases q.2 with ⟨-, y⟩ | ⟨f, -⟩
  · exact y
  · rw [f] at e; exact absurd e Bool.false_ne_true
theorem rdI.mv {h g g1 : sk_M} {p p1 : Nat} {o : psO} (x : rdI h g p o) (o9 : sk_o [3] g g1) (a9 : ∀ k, ¬ k = 4 → g1 3 k = g 3 k) (e : g1 3 4 = nI p1) (hp : o.length ≤ p1) : rdI h g1 p1 o := by
  obtain ⟨⟨b1, b2, b3⟩, x1, x2, x3⟩ := x
  refine ⟨⟨b1.tr (o9.more (by decide)), fun k k1 k2 => (a9 k k2).trans (b2 k k1 k2), e⟩, (a9 1 (by decide)).trans x1, hp, fun i q hq => ?_⟩
  rw [o9 15 (by decide)]
  exact x3 i q hq
theorem rdI.step {h g : sk_M} {p : Nat} {o : psO} (x : rdI h g p o) : rdI h (sk_u g 3 4 (g 3 4 + 1)) (p + 1) o :=
  x.mv (sk_o.rf.u (by decide)) (fun k hk => by rw [sk_u_at, if_pos rfl, if_neg hk]) (by rw [sk_u_at, if_pos rfl, if_pos rfl, x.1.2.2, nI_succ]) (by have := x.2.2.1; omega)
theorem rdB.step {h g : sk_M} {p : Nat} (x : rdB h g p) : rdB h (sk_u g 3 4 (g 3 4 + 1)) (p + 1) := by
  obtain ⟨b1, b2, b3⟩ := x
  refine ⟨b1.u (by decide), fun k k1 k2 => ?_, ?_⟩
  · rw [sk_u_at, if_pos rfl, if_neg k2]; exact b2 k k1 k2
  · rw [sk_u_at, if_pos rfl, if_pos rfl, b3, nI_succ]
theorem rdI.lay {h g : sk_M} {p : Nat} {o : psO} {a b v : Int32} (x : rdI h g p o) (hv : v = encC a b) (hl : o.length < p) : rdI h (sk_u (sk_u g 15 o.length v) 3 1 (nI (o.length + 1))) p (o ++ [(a, b)]) := by
  obtain ⟨⟨b1, b2, b3⟩, x1, x2, x3⟩ := x
  refine ⟨⟨(b1.u (by decide)).u (by decide), fun k k1 k2 => ?_, ?_⟩, ?_, ?_, fun i q hq => ?_⟩
  · rw [sk_u_at, if_pos rfl, if_neg k1, sk_u_at, if_neg (by decide)]; exact b2 k k1 k2
  · rw [sk_u_at, if_pos rfl, if_neg (by decide), sk_u_at, if_neg (by decide)]; exact b3
  · rw [sk_u_at, if_pos rfl, if_pos rfl, List.length_append]; rfl
  · rw [List.length_append]; exact hl
  · rw [sk_u_at, if_neg (by decide), sk_u_at, if_pos rfl]
    by_cases e : i = o.length
    · subst e
      rw [List.getElem?_append_right (Nat.le_refl _), Nat.sub_self] at hq
      cases hq
      rw [if_pos rfl]
      exact hv
    · have hi : i < o.length := by
        have := (List.getElem?_eq_some_iff.mp hq).1
        rw [List.length_append] at this
        have h1 : [(a, b)].length = 1 := rfl
        omega
      rw [List.getElem?_append_left hi] at hq
      rw [if_neg e]
      exact x3 i q hq
def nmC (u : Nat) (b : Int32) : Int32 := if 0 ≤ nmI u b then -1 - nmI u b else 0
theorem nmI_rg {u : Nat} {b : Int32} : nmI u b = -1 ∨ nmI u b = 0 ∨ nmI u b = 1 ∨ nmI u b = 2 := by
  unfold nmI
  (repeat' split) <;> simp
theorem nmC_neg {u : Nat} {b : Int32} : nmC u b < 0 ↔ 0 ≤ nmI u b := by
  unfold nmC
  rcases nmI_rg (u := u) (b := b) with e | e | e | e <;> rw [e] <;> decide
theorem nmC_enc {u : Nat} {b : Int32} (h : 0 ≤ nmI u b) : nmC u b = encC 2 (nmI u b) := by
  unfold nmC
  rw [if_pos h]
  rfl
theorem nmI_no {u : Nat} {b : Int32} (h : b = 33 ∨ b = 40 ∨ (48 ≤ b ∧ b ≤ 57)) : ¬ 0 ≤ nmI u b := by
  have e : ∀ c : Int32, (c = 110 ∨ c = 99 ∨ c = 115 ∨ c = 112 ∨ c = 116) → ¬ b = c := by
    intro c hc q
    subst q
    rcases hc with rfl | rfl | rfl | rfl | rfl <;> exact absurd h (by decide)
  unfold nmI
  rw [if_neg (e 110 (by simp)), if_neg (e 99 (by simp)), if_neg (e 115 (by simp)), if_neg (e 112 (by simp)), if_neg (e 116 (by simp))]
  decide
section
variable {r5 r0 : Nat → psO → psT} {T : Nat → Int32} {u op p : Nat} {o : psO}
theorem it_nm (h : 0 ≤ nmI u (T p)) : itP r5 r0 T u op p o = (true, p + 1, o ++ [(2, nmI u (T p))]) := by
  unfold itP; rw [if_pos h]
theorem it_num (h : 48 ≤ T p ∧ T p ≤ 57) : itP r5 r0 T u op p o = (true, (nuL T 4 p 0).1, o ++ [(1, (nuL T 4 p 0).2)]) := by
  have h33 : ¬ T p = 33 := fun e => by rw [e] at h; exact absurd h (by decide)
  have h40 : ¬ T p = 40 := fun e => by rw [e] at h; exact absurd h (by decide)
  unfold itP
  have hp : ¬ (nuL T 4 p 0).1 = p := by
    rw [nuL_1 h]
    have := (nuL_ge (T := T) 3 (p + 1) (10 * 0 + T p - 48)).1
    omega
  rw [if_neg (nmI_no (Or.inr (Or.inr h))), if_neg h33, if_neg h40, if_neg hp]
theorem it_bad (hn : ¬ 0 ≤ nmI u (T p)) (hd : ¬ (48 ≤ T p ∧ T p ≤ 57)) (h : op = 5 ∨ (¬ T p = 33 ∧ ¬ T p = 40)) : itP r5 r0 T u op p o = (false, p, o) := by
  unfold itP
  rw [if_neg hn]
  by_cases h1 : T p = 33
  · rw [if_pos h1, if_pos (h.resolve_right (fun q => q.1 h1))]
  · rw [if_neg h1]
    by_cases h2 : T p = 40
    · rw [if_pos h2, if_pos (h.resolve_right (fun q => q.2 h2))]
    · rw [if_neg h2, nuL_0 hd, if_pos rfl]
theorem it_den (h : T p = 33) (h5 : ¬ op = 5) (e : (r5 (p + 1) o).1 = true) : itP r5 r0 T u op p o = (true, (r5 (p + 1) o).2.1, (r5 (p + 1) o).2.2 ++ [(3, 0)]) := by
  unfold itP
  rw [if_neg (nmI_no (Or.inl h)), if_pos h, if_neg h5, if_pos e]
theorem it_den0 (h : T p = 33) (h5 : ¬ op = 5) (e : (r5 (p + 1) o).1 = false) : itP r5 r0 T u op p o = r5 (p + 1) o := by
  unfold itP
  rw [if_neg (nmI_no (Or.inl h)), if_pos h, if_neg h5, if_neg (by rw [e]; exact Bool.false_ne_true)]
theorem it_br (h : T p = 40) (h5 : ¬ op = 5) (e : (r0 (p + 1) o).1 = true) : itP r5 r0 T u op p o = if T (r0 (p + 1) o).2.1 = 41 then (true, (r0 (p + 1) o).2.1 + 1, (r0 (p + 1) o).2.2) else (false, (r0 (p + 1) o).2.1, o) := by
  unfold itP
  rw [if_neg (nmI_no (Or.inr (Or.inl h))), if_neg (by rw [h]; decide), if_pos h, if_neg h5, if_pos e]
theorem it_br0 (h : T p = 40) (h5 : ¬ op = 5) (e : (r0 (p + 1) o).1 = false) : itP r5 r0 T u op p o = r0 (p + 1) o := by
  unfold itP
  rw [if_neg (nmI_no (Or.inr (Or.inl h))), if_neg (by rw [h]; decide), if_pos h, if_neg h5, if_neg (by rw [e]; exact Bool.false_ne_true)]
end
theorem tk_dg {g : Nat → Int32} {tp p : Nat} (h : 48 ≤ tkT g tp p ∧ tkT g tp p ≤ 57) : p < tp := by
  apply Decidable.byContradiction
  intro q
  rw [tk_no (by omega)] at h
  exact absurd h (by decide)
theorem lvP_le {b : Int32} : lvP b ≤ 5 := by
  unfold lvP
  (repeat' split) <;> omega
end SPEC27
