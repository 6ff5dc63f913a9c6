section SPEC19
theorem tk_sg {g : Nat → Int32} {tp p : Nat} {b : Int32} (h : tkT g tp p = b) (hb : b = 33 ∨ b = 40) : p < tp := by
  apply Decidable.byContradiction
  intro q
  rw [tk_no (by omega)] at h
  rw [← h] at hb
  rcases hb with hb | hb
  · exact absurd hb (by decide)
  · exact absurd hb (by decide)
def txL (g : Nat → Int32) (u : Nat) (o : psO) : Nat → (Nat → Int32)
  | 0 => g
  | k + 1 => upd (upd (txL g u o k) (120 + 121 * u + k) (o.getD k (0, 0)).1) (180 + 121 * u + k) (o.getD k (0, 0)).2
/-- the row behind a text that was read -/
def txR (g : Nat → Int32) (u : Nat) (o : psO) : Nat → Int32 := txL (upd (upd g 7 0) (119 + 121 * u) (nI o.length)) u o o.length
/-- a text read off the tape -/
def txP (g : Nat → Int32) (tp u : Nat) : psT := pP (tkT g tp) u 36 0 0 0 []
theorem pP_it {T : Nat → Int32} {u n op p : Nat} {o : psO} : pP T u (n + 1) 5 op p o = itP (pP T u n 5 (op + 1)) (pP T u n 0 (op + 1)) T u op p o := by
  rw [pP, if_pos (by decide)]
theorem psK_0 {l : Launch} {E : sk_V} {h : sk_M} {g0 : Nat → Int32} {tp u lev : Nat} {M : sk_m} (hl : lev ≤ 5) : psK l E h g0 tp u 0 lev M := by
  intro d op p o g hop hp hnd
  unfold ndD at hnd
  omega
end SPEC19
