section SPEC4
theorem ix_at (u : Nat) : (119 : Int32) + 121 * nI u = nI (119 + 121 * u) := by
  show nI 119 + nI 121 * nI u = _
  rw [nI_mul, nI_add]
theorem ix_add (a : Nat) (j : Nat) : nI a + nI j = nI (a + j) := nI_add a j
theorem nI_le0 {n : Nat} (h : n < 2 ^ 31) (q : nI n ≤ 0) : n = 0 := by
  have h1 : nI n ≤ nI 0 := q
  rw [nI_leI h (by decide)] at h1
  omega
theorem lawV_any {g : Nat → Int32} {u : Nat} {a b c : Int32} {p : Nat → Int32} (hi : lawI g u) (h0 : 0 < laN g u) : (evS (laA g u) (laB g u) a b c p (laN g u)).2 0 = lawV g u a b c :=
  evS_low hi.2 (laN g u) (Nat.le_refl _) 0 (hi.2.2.2 h0)
theorem laN_lt {g : Nat → Int32} {u : Nat} (hi : lawI g u) : laN g u ≤ 60 := hi.2.1
/-- how many boats there are -/
def boI (g : Nat → Int32) : Prop := g 2 = nI (boN g) ∧ boN g ≤ 6
end SPEC4
section SPEC4B
def ushr8 (x : Int32) : Int32 := (x.toUInt32 >>> ((8 : Int32).toUInt32 &&& Int32.toUInt32 31)).toInt32
end SPEC4B
