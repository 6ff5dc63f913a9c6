section SPEC28
def rdL (l : Launch) (E : sk_V) (h : sk_M) (ρ : Nat → Int32) (tp u n lev : Nat) : Prop := ∀ (d op p : Nat) (o : psO) (g : sk_M), op ≤ 5 → p ≤ tp → ndD op lev ≤ n → rdI h g p o → sk_K l E (3 * n + d + 6) MX3_readLevel [.ref 3, .int (nI lev), .int (nI op)] g (fun r h1 => rdR h h1 tp (pP (tkT ρ tp) u n lev op p o) ∧ some (.int (bi ((pP (tkT ρ tp) u n lev op p o).1 = true))) = r)
def rdT (l : Launch) (E : sk_V) (h : sk_M) (ρ : Nat → Int32) (tp u n : Nat) : Prop := ∀ (d op p : Nat) (o : psO) (g : sk_M), op ≤ 5 → p ≤ tp → ndD op 5 ≤ n → rdI h g p o → sk_K l E (3 * n + d + 5) MX3_readItem [.ref 3, .int (nI op)] g (fun r h1 => rdR h h1 tp (pP (tkT ρ tp) u n 5 op p o) ∧ some (.int (bi ((pP (tkT ρ tp) u n 5 op p o).1 = true))) = r)
theorem enc_sg {b : Int32} (h : lvP b < 5) : encC b 0 = -b := by
  unfold encC
  rw [if_neg (fun e => by rw [e] at h; exact absurd h (by decide)), if_neg (fun e => by rw [e] at h; exact absurd h (by decide)), if_neg (fun e => by rw [e] at h; exact absurd h (by decide))]
theorem rdR.t {h g : sk_M} {tp : Nat} {p : Nat} {o : psO} {x : psT} (e : x = (true, p, o)) (hp : p ≤ tp) (y : rdI h g p o) : rdR h g tp x ∧ bi (x.1 = true) = 1 := by
  subst e
  exact ⟨⟨hp, Or.inl ⟨rfl, y⟩⟩, rfl⟩
theorem rdR.f {h g : sk_M} {tp : Nat} {p : Nat} {o : psO} {x : psT} (e : x = (false, p, o)) (hp : p ≤ tp) (y : rdB h g p) : rdR h g tp x ∧ bi (x.1 = true) = 0 := by
  subst e
  exact ⟨⟨hp, Or.inr ⟨rfl, y⟩⟩, rfl⟩
theorem ps_e {x : psT} {a : Bool} (e : x.1 = a) : x = (a, x.2.1, x.2.2) := by
  obtain ⟨b, p, o⟩ := x
  cases e
  rfl
theorem bi_r {c : Prop} [Decidable c] {v : Int32} (e : bi c = v) : some (Value.int (bi c)) = some (.int v) := by rw [e]
end SPEC28
