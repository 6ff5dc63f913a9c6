section SPEC21
/-- how the class keeps a step of a text -/
def encC (a b : Int32) : Int32 := if a = 1 then b else if a = 2 then -1 - b else if a = 3 then -33 else -a
def lawS (g : Nat → Int32) (u : Nat) : Prop := ∀ k, k < laN g u → (laA g u k = 1 ∧ 0 ≤ laB g u k) ∨ (laA g u k = 2 ∧ (laB g u k = 0 ∨ laB g u k = 1 ∨ laB g u k = 2)) ∨ laA g u k = 3 ∨ laA g u k ∈ sgL
def lawC (h : sk_M) (lo co : Nat) (g : Nat → Int32) (u : Nat) : Prop := h lo 3 = (if 0 < laN g u then 1 else 0) ∧ (0 < laN g u → h lo 2 = nI (laN g u)) ∧ ∀ k, k < laN g u → h co k = encC (laA g u k) (laB g u k)
theorem sg_no {w : Int32} (hw : w ∈ sgL) : ¬ w = 1 ∧ ¬ w = 2 ∧ ¬ w = 3 ∧ -w < -3 ∧ ¬ -w = -33 ∧ - -w = w := by
  simp only [sgL, List.mem_cons, List.not_mem_nil, or_false] at hw
  rcases hw with rfl | rfl | rfl | rfl | rfl | rfl | rfl | rfl | rfl | rfl <;> decide
end SPEC21
