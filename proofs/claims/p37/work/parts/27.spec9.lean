section SPEC9
theorem heldV_N (x : Int32) : ∃ k, k ≤ 99 ∧ heldV x 0 99 = nI k := by
  unfold heldV
  by_cases h1 : x < 0
  · rw [if_pos h1]; exact ⟨0, by omega, rfl⟩
  · rw [if_neg h1]
    by_cases h2 : 99 < x
    · rw [if_pos h2]; exact ⟨99, by omega, rfl⟩
    · rw [if_neg h2]
      obtain ⟨j, hj, e⟩ := (inN_le (x := x) (M := 99) (n := 100) (by decide)).mp ⟨Int32.not_lt.mp h1, Int32.not_lt.mp h2⟩
      exact ⟨j, by omega, e⟩
theorem landsG_N (g : Nat → Int32) (j : Nat) (f s sea day : Int32) : ∃ k, k ≤ 99 ∧ landsG g j f s sea day = nI k := by
  unfold landsG
  split
  · exact ⟨0, by omega, rfl⟩
  · exact heldV_N _
theorem sumN_N {f : Nat → Int32} {b : Nat} : ∀ n, (∀ k, k < n → ∃ q, q ≤ b ∧ f k = nI q) → ∃ q, q ≤ b * n ∧ sumN f n = nI q
  | 0, _ => ⟨0, Nat.le_refl _, rfl⟩
  | n + 1, h => by
    obtain ⟨q, hq, e⟩ := sumN_N n (fun k hk => h k (by omega))
    obtain ⟨q2, hq2, e2⟩ := h n (by omega)
    refine ⟨q + q2, by rw [Nat.mul_succ]; omega, ?_⟩
    show sumN f n + f n = _
    rw [e, e2, nI_add]
theorem catchG_N {g : Nat → Int32} (hb : boI g) (f s sea day : Int32) : ∃ k, k ≤ 594 ∧ catchG g f s sea day = nI k := by
  obtain ⟨q, hq, e⟩ := sumN_N (b := 99) (boN g) (fun k _ => landsG_N g k f s sea day)
  have := hb.2
  exact ⟨q, by omega, e⟩
def meanI (g : Nat → Int32) (j : Nat) : Int32 := sumN (fun w => catchG g (nI j) (g (9 + j)) (nI w) (g 0)) 10
def meanN (g : Nat → Int32) (j : Nat) : Nat := (meanI g j).toNatClampNeg
theorem meanN_e {g : Nat → Int32} (hb : boI g) (j : Nat) : meanI g j = nI (meanN g j) ∧ meanN g j ≤ 5940 := by
  obtain ⟨q, hq, e⟩ := sumN_N (b := 594) (f := fun w => catchG g (nI j) (g (9 + j)) (nI w) (g 0)) 10 (fun k _ => catchG_N hb _ _ _ _)
  have e2 : meanN g j = q := by unfold meanN meanI; rw [e, nI_clamp (by omega)]
  exact ⟨by rw [e2]; exact e, by omega⟩
/-- the first d from d on, m tries, for which p holds; else the end -/
def soF (p : Nat → Bool) : Nat → Nat → Nat
  | 0, d => d
  | m + 1, d => if p d = true then d else soF p m (d + 1)
theorem soF_le (p : Nat → Bool) : ∀ m d, soF p m d ≤ d + m
  | 0, d => Nat.le_refl _
  | m + 1, d => by
    have ih := soF_le p m (d + 1)
    unfold soF
    split <;> omega
def soP (g : Nat → Int32) (f n : Int32) (dy d : Nat) : Bool := decide (n ≤ catchG g f n (g 3) (nI (dy + d)))
theorem catchG_d {g : Nat → Int32} {f n x : Int32} : catchG (upd g 0 x) f n ((upd g 0 x) 3) ((upd g 0 x) 0) = catchG g f n (g 3) x := by
  rw [upd_eq, upd_ne (by decide)]
  exact catchG_cg (fun k hk => upd_ne (by omega)) (upd_ne (by decide))
/-- an error behind thoughts -/
def erT (h : sk_M) (k : Nat) (h1 : sk_M) (r : Option Value) : Prop := ∃ g, sk_o [63, 64] h g ∧ erM g k h1 r
theorem bst_s1 {g : Nat → Int32} {j n : Nat} (q : n = 0 ∨ (bstG g j n).2 < gainG g j n) : bstG g j (n + 1) = (nI n, gainG g j n) := by
  show (if _ then _ else _) = _
  rw [if_pos q]
theorem bst_s0 {g : Nat → Int32} {j n : Nat} (q : ¬ (n = 0 ∨ (bstG g j n).2 < gainG g j n)) : bstG g j (n + 1) = bstG g j n := by
  show (if _ then _ else _) = _
  rw [if_neg q]
end SPEC9
