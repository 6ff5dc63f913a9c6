section SPEC24
theorem cntN_all {p : Nat → Bool} : ∀ k, (∀ w, w < k → p w = true) → cntN p k = k
  | 0, _ => rfl
  | k + 1, h => by
    show cntN p k + _ = _
    rw [cntN_all k (fun w hw => h w (by omega)), if_pos (h k (by omega))]
theorem cntN_not {p : Nat → Bool} {w : Nat} (hw : p w = false) : ∀ k, w < k → ¬ cntN p k = k
  | 0, h => absurd h (Nat.not_lt_zero _)
  | k + 1, h => by
    have h1 := cntN_le p k
    show ¬ cntN p k + _ = _
    by_cases q : w = k
    · rw [← q, if_neg (by rw [hw]; exact Bool.false_ne_true), q]
      omega
    · have := cntN_not hw k (by omega)
      split <;> omega
theorem cntD_N {p : Nat → Bool} : ∀ m, m ≤ 100 → cntN p (100 - m) + cntD p m = cntN p 100
  | 0, _ => by
    show cntN p (100 - 0) + 0 = cntN p 100
    rw [Nat.sub_zero, Nat.add_zero]
  | m + 1, h => by
    have ih := cntD_N (p := p) m (by omega)
    have e : 100 - m = (99 - m) + 1 := by omega
    rw [e] at ih
    have e2 : cntN p (99 - m + 1) = cntN p (99 - m) + (if p (99 - m) = true then 1 else 0) := rfl
    rw [e2] at ih
    have e3 : cntD p (m + 1) = cntD p m + (if p (99 - m) = true then 1 else 0) := rfl
    rw [e3, show 100 - (m + 1) = 99 - m from by omega]
    omega
theorem cntD_100 {p : Nat → Bool} : cntD p 100 = cntN p 100 := by
  have e := cntD_N (p := p) 100 (Nat.le_refl _)
  rw [Nat.sub_self] at e
  have e2 : cntN p 0 = 0 := rfl
  rw [e2, Nat.zero_add] at e
  exact e
theorem mul_step {x a s t : Int32} : x - a * s - a * t = x - a * (s + t) := by
  simp only [Int32.mul_add, Int32.sub_eq_add_neg, Int32.neg_add, Int32.add_assoc]
theorem mul_0 {x a : Int32} : x = x - a * 0 := by rw [Int32.mul_zero, Int32.sub_zero]
theorem bst_gain {g : Nat → Int32} {j : Nat} : ∀ n, 1 ≤ n → ∃ k, k < n ∧ bstG g j n = (nI k, gainG g j k)
  | 0, h => absurd h (by decide)
  | n + 1, _ => by
    by_cases q : n = 0 ∨ (bstG g j n).2 < gainG g j n
    · exact ⟨n, by omega, bst_s1 q⟩
    · obtain ⟨k, hk, e⟩ := bst_gain (g := g) (j := j) n (by omega)
      exact ⟨k, by omega, (bst_s0 q).trans e⟩
/-- the greatest number from 2 to k + 1 that goes into A and into 10; 1: none -/
def gdN (A : Nat) : Nat → Nat
  | 0 => 1
  | k + 1 => if A % (k + 2) = 0 ∧ 10 % (k + 2) = 0 then k + 2 else gdN A k
theorem gdN_rg {A : Nat} : ∀ k, 1 ≤ gdN A k ∧ gdN A k ≤ k + 1
  | 0 => ⟨Nat.le_refl _, Nat.le_refl _⟩
  | k + 1 => by
    have ih := gdN_rg (A := A) k
    unfold gdN
    split <;> omega
theorem gdN_9 {A : Nat} : gdN A 9 = Nat.gcd A 10 := by
  have e : gdN A 9 = if A % 10 = 0 then 10 else if A % 5 = 0 then 5 else if A % 2 = 0 then 2 else 1 := by
    simp [gdN]
  rw [e, Nat.gcd_comm, Nat.gcd_rec 10 A, Nat.gcd_comm]
  have h : A % 10 = 0 ∨ A % 10 = 1 ∨ A % 10 = 2 ∨ A % 10 = 3 ∨ A % 10 = 4 ∨ A % 10 = 5 ∨ A % 10 = 6 ∨ A % 10 = 7 ∨ A % 10 = 8 ∨ A % 10 = 9 := by omega
  rcases h with h | h | h | h | h | h | h | h | h | h
  · rw [h, if_pos rfl]; rfl
  · rw [h, if_neg (by decide), if_neg (by omega), if_neg (by omega)]; rfl
  · rw [h, if_neg (by decide), if_neg (by omega), if_pos (by omega)]; rfl
  · rw [h, if_neg (by decide), if_neg (by omega), if_neg (by omega)]; rfl
  · rw [h, if_neg (by decide), if_neg (by omega), if_pos (by omega)]; rfl
  · rw [h, if_neg (by decide), if_pos (by omega)]; rfl
  · rw [h, if_neg (by decide), if_neg (by omega), if_pos (by omega)]; rfl
  · rw [h, if_neg (by decide), if_neg (by omega), if_neg (by omega)]; rfl
  · rw [h, if_neg (by decide), if_neg (by omega), if_pos (by omega)]; rfl
  · rw [h, if_neg (by decide), if_neg (by omega), if_neg (by omega)]; rfl
theorem nI_z {n : Nat} (hn : n < 2147483648) : nI n = 0 ↔ n = 0 := nI_eq hn (by decide)
end SPEC24
