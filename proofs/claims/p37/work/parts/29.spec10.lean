section SPEC10
def cpyN (f g : Nat → Int32) (n : Nat) : Nat → Int32 := fun k => if k < n then f k else g k
theorem cpyN_0 {f g : Nat → Int32} : cpyN f g 0 = g := by
  funext k
  unfold cpyN
  rw [if_neg (Nat.not_lt_zero _)]
theorem cpyN_s {f g : Nat → Int32} {n : Nat} : upd (cpyN f g n) n (f n) = cpyN f g (n + 1) := by
  funext k
  unfold cpyN upd
  by_cases q : k = n
  · rw [if_pos q, if_pos (by omega), q]
  · rw [if_neg q]
    show (if k < n then f k else g k) = _
    by_cases q2 : k < n
    · rw [if_pos q2, if_pos (by omega)]
    · rw [if_neg q2, if_neg (by omega)]
/-- the place of the first number that waits and isn't what is sold -/
def chP (g : Nat → Int32) (i : Nat) : Bool := decide (¬ (i < 4 ∧ g (95 + i) = g (9 + i)))
def chV (g : Nat → Int32) (n : Nat) (q : Nat) : Int32 := if q < n then nI (1 + q) else 0
def pcN (r : Nat) : Nat := r % 2 + r / 2 % 2 + r / 4 % 2 + r / 8 % 2 + r / 16 % 2 + r / 32 % 2
theorem pcN_s : ∀ r, r < 64 → 0 < r → (nI r &&& (nI r - 1)) = nI (r &&& (r - 1)) ∧ (r &&& (r - 1)) < r ∧ pcN r = pcN (r &&& (r - 1)) + 1 := by decide +kernel
theorem pcN_le : ∀ r, r < 64 → pcN r ≤ 6 := by decide +kernel
abbrev bitP (s j : Nat) : Prop := (nI s >>> (nI j &&& 31)) &&& 1 = 1
def setS (X : Nat → Nat → Int32) (s f : Nat) : Nat → Int32 := sumN (fun b => if bitP s b then X b f else 0)
/-- a set of boats is enough for the first n fish -/
def setE (g : Nat → Int32) (X : Nat → Nat → Int32) (s : Nat) : Nat → Prop
  | 0 => True
  | f + 1 => setE g X s f ∧ g (9 + f) ≤ setS X s f (boN g)
/-- the least of the fewest so far; 64: none -/
noncomputable def ndN (g : Nat → Int32) (X : Nat → Nat → Int32) : Nat → Nat
  | 0 => 64
  | s + 1 => @ite _ ((ndN g X s = 64 ∨ pcN s < pcN (ndN g X s)) ∧ setE g X s 4) (Classical.propDecidable _) s (ndN g X s)
def ndI (n : Nat) : Int32 := if n = 64 then -1 else nI n
theorem ndN_le {g : Nat → Int32} {X : Nat → Nat → Int32} : ∀ s, ndN g X s = 64 ∨ ndN g X s < s
  | 0 => Or.inl rfl
  | s + 1 => by
    have ih := ndN_le (g := g) (X := X) s
    unfold ndN
    split <;> omega
theorem ndN_1 {g : Nat → Int32} {X : Nat → Nat → Int32} {s : Nat} (q : (ndN g X s = 64 ∨ pcN s < pcN (ndN g X s)) ∧ setE g X s 4) : ndN g X (s + 1) = s := by
  rw [ndN, if_pos q]
theorem ndN_0 {g : Nat → Int32} {X : Nat → Nat → Int32} {s : Nat} (q : ¬ ((ndN g X s = 64 ∨ pcN s < pcN (ndN g X s)) ∧ setE g X s 4)) : ndN g X (s + 1) = ndN g X s := by
  rw [ndN, if_neg q]
theorem shl_nb : ∀ n, n ≤ 6 → (1 : Int32) <<< (nI n &&& 31) = nI (2 ^ n) := by
  intro n hn
  have h : n = 0 ∨ n = 1 ∨ n = 2 ∨ n = 3 ∨ n = 4 ∨ n = 5 ∨ n = 6 := by omega
  rcases h with rfl | rfl | rfl | rfl | rfl | rfl | rfl <;> decide +kernel
theorem pow_nb {n : Nat} (hn : n ≤ 6) : 2 ^ n ≤ 64 := by
  have h : n = 0 ∨ n = 1 ∨ n = 2 ∨ n = 3 ∨ n = 4 ∨ n = 5 ∨ n = 6 := by omega
  rcases h with rfl | rfl | rfl | rfl | rfl | rfl | rfl <;> decide
theorem ndI_neg {n : Nat} (h : n = 64) : ndI n = -1 := if_pos h
theorem ndI_pos {n : Nat} (h : ¬ n = 64) : ndI n = nI n := if_neg h
/-- what boats land, for what is sold -/
def lndX (g : Nat → Int32) (b f : Nat) : Int32 := landsG g b (nI f) (g (9 + f)) (g 3) (g 0)
end SPEC10
section SPEC10B
theorem setE_dn {g : Nat → Int32} {X : Nat → Nat → Int32} {s f : Nat} (hf : f < 4) (hm : f + 1 ≤ 4) (q : setE g X s 4) : setE g X s f ∧ g (9 + f) ≤ setS X s f (boN g) := by
  obtain ⟨⟨⟨⟨-, a0⟩, a1⟩, a2⟩, a3⟩ := q
  have h : f = 0 ∨ f = 1 ∨ f = 2 ∨ f = 3 := by omega
  rcases h with rfl | rfl | rfl | rfl
  · exact ⟨trivial, a0⟩
  · exact ⟨⟨trivial, a0⟩, a1⟩
  · exact ⟨⟨⟨trivial, a0⟩, a1⟩, a2⟩
  · exact ⟨⟨⟨⟨trivial, a0⟩, a1⟩, a2⟩, a3⟩
end SPEC10B
section SPEC10C
theorem sumN_cg2 {f g : Nat → Int32} {n : Nat} (h : ∀ k, k < n → f k = g k) : sumN f n = sumN g n := sumN_cg n h
theorem setE_cg {g : Nat → Int32} {X Y : Nat → Nat → Int32} {s : Nat} (h : ∀ b f, b < boN g → f < 4 → X b f = Y b f) : ∀ n, n ≤ 4 → (setE g X s n ↔ setE g Y s n)
  | 0, _ => Iff.rfl
  | n + 1, hn => by
    have ih := setE_cg (s := s) h n (by omega)
    have e : setS X s n (boN g) = setS Y s n (boN g) := by
      unfold setS
      exact sumN_cg _ (fun b hb => by show (if _ then _ else _) = _; rw [h b n hb (by omega)])
    show (setE g X s n ∧ _ ≤ setS X s n (boN g)) ↔ (setE g Y s n ∧ _ ≤ setS Y s n (boN g))
    rw [ih, e]
theorem nd80 {N : Nat} (hN : N < 100) (c : ndI N < 0) : N = 64 := by
  apply Decidable.byContradiction
  intro q
  rw [ndI_pos q] at c
  exact nI_pos (by omega) c
theorem nd91 {a b : Nat} (ha : a < 64) (hb : b < 64) (c : ¬ nI (pcN b) ≤ nI (pcN a)) : pcN a < pcN b := by
  apply Decidable.byContradiction
  intro q
  have h1 := pcN_le a ha
  exact c (nI_le (by omega) (by omega))
theorem nd91n {a b : Nat} (ha : a < 64) (c : nI (pcN b) ≤ nI (pcN a)) (hb : b < 64) : ¬ pcN a < pcN b := by
  have h1 := pcN_le a ha
  have h2 := pcN_le b hb
  rw [nI_leI (by omega) (by omega)] at c
  omega
theorem div_4 {k : Nat} (hk : k < 2 ^ 31) : nI k / 4 = nI (k / 4) := div_nI hk (by decide) (by decide)
end SPEC10C
section SPEC10D
theorem sk_S.bic_eq {l : Launch} {E : sk_V} {d : Nat} {M : sk_m} {pc : Nat} {L : List (Option Value)} {St : List Value} {h : sk_M} {Q : Option Value → sk_M → Prop} {c : Prop} {i : Decidable c} {off : Int} {tgt : Nat} (hd : decode M.2.1 pc = .ok (.ifCond .eq off, 3)) (ht : (pc : Int) + off = (tgt : Int)) (kt : ¬ c → sk_S l E d M tgt L St h Q) (kf : c → sk_S l E d M (pc + 3) L St h Q) : sk_S l E d M pc L (.int (@bi c i) :: St) h Q :=
  sk_S.bif_eq hd ht kt kf
theorem sk_S.bic_ne {l : Launch} {E : sk_V} {d : Nat} {M : sk_m} {pc : Nat} {L : List (Option Value)} {St : List Value} {h : sk_M} {Q : Option Value → sk_M → Prop} {c : Prop} {i : Decidable c} {off : Int} {tgt : Nat} (hd : decode M.2.1 pc = .ok (.ifCond .ne off, 3)) (ht : (pc : Int) + off = (tgt : Int)) (kt : c → sk_S l E d M tgt L St h Q) (kf : ¬ c → sk_S l E d M (pc + 3) L St h Q) : sk_S l E d M pc L (.int (@bi c i) :: St) h Q :=
  sk_S.bif_ne hd ht kt kf
end SPEC10D
