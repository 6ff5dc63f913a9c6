section SPEC18
theorem psB.up {h g g1 : sk_M} {op p op1 p1 : Nat} (b : psB h g op p) (o : sk_o [54] g g1) (a : ∀ k, ¬ k = 12 → ¬ k = 13 → ¬ k = 14 → g1 54 k = g 54 k) (e12 : g1 54 12 = nI p1) (e13 : g1 54 13 = nI op1) : psB h g1 op1 p1 :=
  ⟨b.1.tr (o.more (by decide)), fun k k1 k2 k3 k4 => (a k k2 k3 k4).trans (b.2.1 k k1 k2 k3 k4), e12, e13⟩
theorem psI.up {h g g1 : sk_M} {op p op1 p1 : Nat} {os : psO} (x : psI h g op p os) (o : sk_o [54] g g1) (a : ∀ k, ¬ k = 12 → ¬ k = 13 → ¬ k = 14 → g1 54 k = g 54 k) (e12 : g1 54 12 = nI p1) (e13 : g1 54 13 = nI op1) (e14 : g1 54 14 = 0) (hp : os.length ≤ p1) : psI h g1 op1 p1 os :=
  ⟨x.1.up o a e12 e13, e14, (a 11 (by decide) (by decide) (by decide)).trans x.2.2.1, hp, fun i q hq => by rw [o 61 (by decide), o 62 (by decide)]; exact x.2.2.2.2 i q hq⟩
theorem psF.up {h g g1 : sk_M} {op p op1 p1 : Nat} (x : psB h g op p) (hl : ∃ l, l ≤ 60 ∧ g 54 11 = nI l) (o : sk_o [54] g g1) (a : ∀ k, ¬ k = 12 → ¬ k = 13 → ¬ k = 14 → g1 54 k = g 54 k) (e12 : g1 54 12 = nI p1) (e13 : g1 54 13 = nI op1) (e14 : g1 54 14 = 1) : psF h g1 op1 p1 := by
  obtain ⟨l, hl, e⟩ := hl
  exact ⟨x.up o a e12 e13, e14, l, hl, (a 11 (by decide) (by decide) (by decide)).trans e⟩
theorem nI_p1 {n : Nat} : nI (n + 1) - 1 = nI n := nI_pred n
theorem psI.num {h g g1 : sk_M} {op p n p1 : Nat} {o : psO} {w v : Int32} (x : psI h g op p o) (o9 : sk_o [54, 61, 62] g g1) (a9 : ∀ k, ¬ k = 11 → ¬ k = 12 → ¬ k = 14 → g1 54 k = g 54 k) (e12 : g1 54 12 = nI p1) (e14 : g1 54 14 = 0) (l9 : layQ g g1 n w v) (hn : g 54 11 = nI n) (hn60 : n ≤ 60) (hp : p1 ≤ 60) (hl : o.length < p1) : psI h g1 op p1 (o ++ [(w, v)]) := by
  obtain ⟨⟨b1, b2, b3, b4⟩, x1, x2, x3, x4⟩ := x
  have hno : n = o.length := nI_inj (by omega) (by omega) (hn.symm.trans x2)
  subst hno
  rcases l9 with ⟨c1, c2, c3, c4⟩ | ⟨c1, -⟩
  · refine ⟨⟨b1.tr o9, fun k k1 k2 k3 k4 => (a9 k k1 k2 k4).trans (b2 k k1 k2 k3 k4), e12, (a9 13 (by decide) (by decide) (by decide)).trans b4⟩, e14, by rw [c2, List.length_append]; rfl, by rw [List.length_append]; exact hl, ?_⟩
    intro i q hq
    rw [c3, c4]
    by_cases e : i = o.length
    · subst e
      rw [List.getElem?_append_right (Nat.le_refl _), Nat.sub_self] at hq
      cases hq
      exact ⟨upd_eq, upd_eq⟩
    · have hi : i < o.length := by
        have := (List.getElem?_eq_some_iff.mp hq).1
        rw [List.length_append] at this
        have h1 : [(w, v)].length = 1 := rfl
        omega
      rw [List.getElem?_append_left hi] at hq
      rw [upd_ne e, upd_ne e]
      exact x4 i q hq
  · omega
theorem psF.num {h g g1 : sk_M} {op p n p1 : Nat} {w v : Int32} (x : psB h g op p) (o9 : sk_o [54, 61, 62] g g1) (a9 : ∀ k, ¬ k = 11 → ¬ k = 12 → ¬ k = 14 → g1 54 k = g 54 k) (e12 : g1 54 12 = nI p1) (e14 : g1 54 14 = 1) (l9 : layQ g g1 n w v) : psF h g1 op p1 := by
  obtain ⟨b1, b2, b3, b4⟩ := x
  refine ⟨⟨b1.tr o9, fun k k1 k2 k3 k4 => (a9 k k1 k2 k4).trans (b2 k k1 k2 k3 k4), e12, (a9 13 (by decide) (by decide) (by decide)).trans b4⟩, e14, ?_⟩
  rcases l9 with ⟨c1, c2, -⟩ | ⟨c1, c2⟩
  · exact ⟨_, by omega, c2⟩
  · exact ⟨60, Nat.le_refl _, c2⟩
theorem nm_lt {g : Nat → Int32} {tp p u : Nat} (h : 0 ≤ nmI u (tkT g tp p)) : p < tp := by
  apply Decidable.byContradiction
  intro q
  have e : tkT g tp p = -1 := if_neg q
  rw [e, show nmI u (-1) = -1 from by unfold nmI; rw [if_neg (by decide), if_neg (by decide), if_neg (by decide), if_neg (by decide), if_neg (by decide)]] at h
  exact absurd h (by decide)
theorem nuL_tp {g : Nat → Int32} {tp : Nat} : ∀ c p v, p ≤ tp → (nuL (tkT g tp) c p v).1 ≤ tp
  | 0, p, v, h => h
  | c + 1, p, v, h => by
    unfold nuL
    split
    · rename_i q
      refine nuL_tp c (p + 1) _ ?_
      apply Nat.lt_of_not_le
      intro q2
      rw [tk_no q2] at q
      exact absurd q (by decide)
    · exact h
end SPEC18
