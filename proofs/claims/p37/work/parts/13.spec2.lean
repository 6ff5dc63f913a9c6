section SPEC2
/-- what a sign of a text joins two numbers to -/
def twoV (s x y : Int32) : Int32 :=
  if s = 43 then x + y else if s = 45 then x - y else if s = 42 then x * y else if s = 47 then (if y = 0 then 0 else x / y) else if s = 37 then (if y = 0 then 0 else x - x / y * y)
  else if s = 60 then bi (x < y) else if s = 61 then bi (x = y) else if s = 62 then bi (y < x) else if s = 38 then bi (¬ x = 0 ∧ ¬ y = 0) else bi (¬ x = 0 ∨ ¬ y = 0)
def nmV (v a b c : Int32) : Int32 := if v = 0 then a else if v = 1 then b else c
/-- one step of a text on a pile -/
def evT (w v a b c : Int32) (s : Nat × (Nat → Int32)) : Nat × (Nat → Int32) :=
  if w = 1 then (s.1 + 1, upd s.2 s.1 v) else if w = 2 then (s.1 + 1, upd s.2 s.1 (nmV v a b c)) else if w = 3 then (s.1, upd s.2 (s.1 - 1) (bi (s.2 (s.1 - 1) = 0)))
  else (s.1 - 1, upd s.2 (s.1 - 2) (twoV w (s.2 (s.1 - 2)) (s.2 (s.1 - 1))))
def evS (A B : Nat → Int32) (a b c : Int32) (p : Nat → Int32) : Nat → Nat × (Nat → Int32)
  | 0 => (0, p)
  | k + 1 => evT (A k) (B k) a b c (evS A B a b c p k)
def depN (A : Nat → Int32) : Nat → Nat
  | 0 => 0
  | k + 1 => if A k = 1 then depN A k + 1 else if A k = 2 then depN A k + 1 else if A k = 3 then depN A k else depN A k - 1
theorem depN_le (A : Nat → Int32) : ∀ k, depN A k ≤ k
  | 0 => Nat.le_refl _
  | k + 1 => by
    have ih := depN_le A k
    unfold depN
    split <;> (try split) <;> (try split) <;> omega
theorem evS_dep {A B : Nat → Int32} {a b c : Int32} {p : Nat → Int32} : ∀ k, (evS A B a b c p k).1 = depN A k
  | 0 => rfl
  | k + 1 => by
    have ih := evS_dep (A := A) (B := B) (a := a) (b := b) (c := c) (p := p) k
    unfold evS depN evT
    split <;> (try split) <;> (try split) <;> simp_all
/-- a text that can be worked out -/
def lawW (n : Nat) (A B : Nat → Int32) : Prop := n ≤ 60 ∧ (∀ k, k < n → (A k = 2 → B k = 0 ∨ B k = 1 ∨ B k = 2) ∧ (A k = 3 → 1 ≤ depN A k) ∧ (¬ A k = 1 → ¬ A k = 2 → ¬ A k = 3 → 2 ≤ depN A k)) ∧ (0 < n → 1 ≤ depN A n)
/-- what stands on the pile doesn't hang on what stood above it -/
theorem evS_low {A B : Nat → Int32} {a b c : Int32} {p q : Nat → Int32} {n : Nat} (hw : lawW n A B) : ∀ k, k ≤ n → ∀ i, i < depN A k → (evS A B a b c p k).2 i = (evS A B a b c q k).2 i
  | 0, _, i, hi => absurd hi (Nat.not_lt_zero _)
  | k + 1, hk, i, hi => by
    have ih := evS_low hw (a := a) (b := b) (c := c) (p := p) (q := q) k (by omega)
    have e1 := evS_dep (A := A) (B := B) (a := a) (b := b) (c := c) (p := p) k
    have e2 := evS_dep (A := A) (B := B) (a := a) (b := b) (c := c) (p := q) k
    obtain ⟨w1, w2, w3⟩ := hw.2.1 k (by omega)
    show (evT (A k) (B k) a b c (evS A B a b c p k)).2 i = (evT (A k) (B k) a b c (evS A B a b c q k)).2 i
    unfold depN at hi
    unfold evT upd
    by_cases h1 : A k = 1
    · rw [if_pos h1] at hi
      simp only [if_pos h1, e1, e2]
      by_cases q1 : i = depN A k
      · simp [q1]
      · simp only [if_neg q1]; exact ih i (by omega)
    · by_cases h2 : A k = 2
      · rw [if_neg h1, if_pos h2] at hi
        simp only [if_neg h1, if_pos h2, e1, e2]
        by_cases q1 : i = depN A k
        · simp [q1]
        · simp only [if_neg q1]
          exact ih i (by omega)
      · by_cases h3 : A k = 3
        · rw [if_neg h1, if_neg h2, if_pos h3] at hi
          have w := w2 h3
          simp only [if_neg h1, if_neg h2, if_pos h3, e1, e2, ih (depN A k - 1) (by omega)]
          by_cases q1 : i = depN A k - 1
          · simp [q1]
          · simp only [if_neg q1]
            exact ih i (by omega)
        · rw [if_neg h1, if_neg h2, if_neg h3] at hi
          have w := w3 h1 h2 h3
          simp only [if_neg h1, if_neg h2, if_neg h3, e1, e2, ih (depN A k - 1) (by omega), ih (depN A k - 2) (by omega)]
          by_cases q1 : i = depN A k - 2
          · simp [q1]
          · simp only [if_neg q1]
            exact ih i (by omega)
/-- the texts in the reference's row -/
abbrev laA (g : Nat → Int32) (u : Nat) : Nat → Int32 := fun k => g (120 + 121 * u + k)
abbrev laB (g : Nat → Int32) (u : Nat) : Nat → Int32 := fun k => g (180 + 121 * u + k)
def laN (g : Nat → Int32) (u : Nat) : Nat := (g (119 + 121 * u)).toNatClampNeg
def lawI (g : Nat → Int32) (u : Nat) : Prop := g (119 + 121 * u) = nI (laN g u) ∧ lawW (laN g u) (laA g u) (laB g u)
def lawV (g : Nat → Int32) (u : Nat) (a b c : Int32) : Int32 := (evS (laA g u) (laB g u) a b c (fun _ => 0) (laN g u)).2 0
def gvV (g : Nat → Int32) (u : Nat) (a b c : Int32) : Int32 := heldV (if 0 < laN g u then lawV g u a b c else a) 0 99
def landsG (g : Nat → Int32) (j : Nat) (f s sea day : Int32) : Int32 := if g (17 + 3 * j + 2) = 1 then 0 else gvV g 0 (haulsV (g (17 + 3 * j)) (g (17 + 3 * j + 1)) sea day f) sea s
def sumN (f : Nat → Int32) : Nat → Int32
  | 0 => 0
  | n + 1 => sumN f n + f n
def boN (g : Nat → Int32) : Nat := (g 2).toNatClampNeg
def catchG (g : Nat → Int32) (f s sea day : Int32) : Int32 := sumN (fun j => landsG g j f s sea day) (boN g)
def shortG (g : Nat → Int32) (f s : Int32) : Int32 := if s - catchG g f s (g 3) (g 0) < 0 then 0 else s - catchG g f s (g 3) (g 0)
def coinsG (g : Nat → Int32) (f : Nat) (s : Int32) : Int32 := gvV g 1 (g (13 + f)) (g 6) s
/-- rows that stayed -/
def sk_o (S : List Nat) (h g : sk_M) : Prop := ∀ k, k ∉ S → g k = h k
theorem sk_o.rf {S : List Nat} {h : sk_M} : sk_o S h h := fun _ _ => rfl
theorem sk_o.tr {S : List Nat} {h g f : sk_M} (a : sk_o S h g) (b : sk_o S g f) : sk_o S h f := fun k hk => (b k hk).trans (a k hk)
theorem sk_o.r {S : List Nat} {h g : sk_M} {k : Nat} {f : Nat → Int32} (a : sk_o S h g) (hk : k ∈ S) : sk_o S h (sk_r g k f) := fun j hj => (sk_r_ne g f (fun e => hj (by rw [e]; exact hk))).trans (a j hj)
theorem sk_o.u {S : List Nat} {h g : sk_M} {k i : Nat} {x : Int32} (a : sk_o S h g) (hk : k ∈ S) : sk_o S h (sk_u g k i x) := a.r hk
theorem sk_o.more {S S1 : List Nat} {h g : sk_M} (a : sk_o S h g) (hk : ∀ k ∈ S, k ∈ S1) : sk_o S1 h g := fun j hj => a j (fun q => hj (hk j q))
theorem sk_u_at (h : sk_M) (k i : Nat) (x : Int32) (a j : Nat) : sk_u h k i x a j = if a = k then (if j = i then x else h k j) else h a j := by
  unfold sk_u sk_r upd
  split <;> rfl
theorem nI_sub {a b : Nat} (h : b ≤ a) : nI a - nI b = nI (a - b) := by
  have e : nI a = nI (a - b) + nI b := by rw [nI_add, Nat.sub_add_cancel h]
  rw [e, Int32.add_sub_cancel]
end SPEC2
