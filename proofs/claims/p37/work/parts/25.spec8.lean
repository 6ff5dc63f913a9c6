section SPEC8
/-- how much a number sold would bring -/
def gainG (g : Nat → Int32) (j n : Nat) : Int32 := 10 * nI n * coinsG g j 0 - 2 * g (13 + j) * sumN (shW g (nI j) (nI n)) 10
def bstG (g : Nat → Int32) (j : Nat) : Nat → Int32 × Int32
  | 0 => (0, 0)
  | n + 1 => if n = 0 ∨ (bstG g j n).2 < gainG g j n then (nI n, gainG g j n) else bstG g j n
/-- which numbers agree with themselves -/
def agP (g : Nat → Int32) (f : Int32) (n : Nat) : Bool := decide (catchG g f (nI n) (g 3) (g 0) = nI n)
/-- the least number from k on, below 100, for which p holds; -1: none (counted from above: k = 100 - m) -/
def lstN (p : Nat → Bool) : Nat → Int32
  | 0 => -1
  | m + 1 => if p (99 - m) = true then nI (99 - m) else lstN p m
def cntD (p : Nat → Bool) : Nat → Nat
  | 0 => 0
  | m + 1 => cntD p m + (if p (99 - m) = true then 1 else 0)
theorem cntD_le (p : Nat → Bool) : ∀ m, cntD p m ≤ m
  | 0 => Nat.le_refl _
  | m + 1 => by
    have ih := cntD_le p m
    unfold cntD
    split <;> omega
/-- the as of a kind -/
def asV (k i : Int32) : Prop := k = 0 ∨ k = i ∨ (k = 1 ∧ i = 4) ∨ (k = 2 ∧ i = 5)
def isV (g : Nat → Int32) (j w : Nat) : Int32 := if w < 3 then g (17 + 3 * j + w) else if w = 3 then eatsV (g (17 + 3 * j)) (g 0) else landsG g j (nI (w - 4)) (g (9 + (w - 4))) (g 3) (g 0)
theorem div_nI {a b : Nat} (ha : a < 2 ^ 31) (hb0 : 0 < b) (hb : b < 2 ^ 31) : nI a / nI b = nI (a / b) := pk_div ha hb0 hb
theorem gcd_step {a b : Nat} (h : 0 < a) : Nat.gcd (b % a) a = Nat.gcd a b := by
  rw [Nat.gcd_rec a b]
end SPEC8
section SPEC8B
theorem i3lt {i : Nat} (hi : i < 100) (c : ¬ 3 ≤ nI i) : i < 3 := by
  apply Decidable.byContradiction
  intro q
  exact c (nI_le (a := 3) (by omega) (by omega))
theorem i3ge {i : Nat} (hi : i < 100) (c : 3 ≤ nI i) : ¬ i < 3 := by
  have h1 : nI 3 ≤ nI i := c
  rw [nI_leI (by decide) (by omega)] at h1
  omega
theorem i3eq {i : Nat} (hi : i < 100) (c : nI i = 3) : i = 3 := (nI_eq (by omega) (by decide)).mp c
theorem i3ne {i : Nat} (c : ¬ nI i = 3) : ¬ i = 3 := fun q => c (by rw [q]; rfl)
end SPEC8B
