section SPEC16
/-- the byte at a place of the tape; -1 behind its end -/
def tkT (g : Nat → Int32) (tp p : Nat) : Int32 := if p < tp then g (35 + p) else -1
def nmI (u : Nat) (b : Int32) : Int32 := if b = 110 then 2 else if b = 99 then (if u = 0 then 0 else -1) else if b = 115 then (if u = 0 then 1 else -1) else if b = 112 then (if u = 1 then 0 else -1) else if b = 116 then (if u = 1 then 1 else -1) else -1
def nuL (T : Nat → Int32) : Nat → Nat → Int32 → Nat × Int32
  | 0, p, v => (p, v)
  | c + 1, p, v => if 48 ≤ T p ∧ T p ≤ 57 then nuL T c (p + 1) (10 * v + T p - 48) else (p, v)
def lvP (b : Int32) : Nat := if b = 124 then 0 else if b = 38 then 1 else if b = 60 ∨ b = 61 ∨ b = 62 then 2 else if b = 43 ∨ b = 45 then 3 else if b = 42 ∨ b = 47 ∨ b = 37 then 4 else 5
abbrev psO : Type := List (Int32 × Int32)
abbrev psT : Type := Bool × Nat × psO
def lpP (f : Nat → psO → psT) (T : Nat → Int32) (lev : Nat) : Nat → Nat → psO → psT
  | 0, p, o => (true, p, o)
  | c + 1, p, o => if lvP (T p) = lev then (if (f (p + 1) o).1 = true then lpP f T lev c (f (p + 1) o).2.1 ((f (p + 1) o).2.2 ++ [(T p, 0)]) else f (p + 1) o) else (true, p, o)
def itP (r5 r0 : Nat → psO → psT) (T : Nat → Int32) (u op p : Nat) (o : psO) : psT :=
  if 0 ≤ nmI u (T p) then (true, p + 1, o ++ [(2, nmI u (T p))])
  else if T p = 33 then (if op = 5 then (false, p, o) else if (r5 (p + 1) o).1 = true then (true, (r5 (p + 1) o).2.1, (r5 (p + 1) o).2.2 ++ [(3, 0)]) else r5 (p + 1) o)
  else if T p = 40 then (if op = 5 then (false, p, o) else if (r0 (p + 1) o).1 = true then (if T (r0 (p + 1) o).2.1 = 41 then (true, (r0 (p + 1) o).2.1 + 1, (r0 (p + 1) o).2.2) else (false, (r0 (p + 1) o).2.1, o)) else r0 (p + 1) o)
  else if (nuL T 4 p 0).1 = p then (false, p, o) else (true, (nuL T 4 p 0).1, o ++ [(1, (nuL T 4 p 0).2)])
/-- reading a text: by levels 0 T, 1 A, 2 B, 3 S, 4 P, 5 Q; n: how deep it may go -/
def pP (T : Nat → Int32) (u : Nat) : Nat → Nat → Nat → Nat → psO → psT
  | 0, _, _, p, o => (false, p, o)
  | n + 1, lev, op, p, o => if 5 ≤ lev then itP (pP T u n 5 (op + 1)) (pP T u n 0 (op + 1)) T u op p o
    else if (pP T u n (lev + 1) op p o).1 = true then lpP (pP T u n (lev + 1) op) T lev (if lev = 2 then 1 else 60) (pP T u n (lev + 1) op p o).2.1 (pP T u n (lev + 1) op p o).2.2 else pP T u n (lev + 1) op p o
def layQ (h h1 : sk_M) (n : Nat) (w v : Int32) : Prop := (n < 60 ∧ h1 54 11 = nI (n + 1) ∧ h1 61 = upd (h 61) n w ∧ h1 62 = upd (h 62) n v) ∨ (n = 60 ∧ h1 54 11 = nI 60)
theorem nuL_ge {T : Nat → Int32} : ∀ c p v, p ≤ (nuL T c p v).1 ∧ (nuL T c p v).1 ≤ p + c
  | 0, p, v => ⟨Nat.le_refl _, Nat.le_refl _⟩
  | c + 1, p, v => by
    unfold nuL
    split
    · have ih := nuL_ge (T := T) c (p + 1) (10 * v + T p - 48)
      omega
    · exact ⟨Nat.le_refl _, by show p ≤ _; omega⟩
theorem nuL_1 {T : Nat → Int32} {c p : Nat} {v : Int32} (q : 48 ≤ T p ∧ T p ≤ 57) : nuL T (c + 1) p v = nuL T c (p + 1) (10 * v + T p - 48) := by
  rw [nuL, if_pos q]
theorem nuL_0 {T : Nat → Int32} {c p : Nat} {v : Int32} (q : ¬ (48 ≤ T p ∧ T p ≤ 57)) : nuL T (c + 1) p v = (p, v) := by
  rw [nuL, if_neg q]
end SPEC16
section SPEC16B
theorem layQ.cg {h g h1 : sk_M} {n : Nat} {w v : Int32} (a : g 61 = h 61) (b : g 62 = h 62) (x : layQ g h1 n w v) : layQ h h1 n w v := by
  unfold layQ at *
  rw [a, b] at x
  exact x
end SPEC16B
