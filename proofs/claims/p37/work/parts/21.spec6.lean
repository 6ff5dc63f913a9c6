section SPEC6
def cntV (h : sk_M) (j : Nat) : Int32 := match j with
  | 0 => h 55 2
  | 1 => h 55 3
  | 2 => h 55 0
  | 3 => h 55 4
  | 4 => h 55 5
  | 5 => h 55 6
  | 6 => h 55 7
  | 7 => h 55 8
  | 8 => h 54 18
  | _ => h 55 1
/-- an evening -/
def lessG (g : Nat → Int32) (f : Nat) : Int32 := shortG g (nI f) (g (9 + f))
def purF (g : Nat → Int32) : Nat → Int32
  | 0 => g 4
  | f + 1 => heldV (purF g f - 2 * lessG g f * g (13 + f)) (-99999) 99999
def allF (g : Nat → Int32) : Nat → Int32
  | 0 => 0
  | f + 1 => allF g f + lessG g f
def soldK (g : Nat → Int32) (f : Nat) : Nat → Int32 := fun k => if 9 ≤ k ∧ k < 9 + f then 0 else g k
def purB (g : Nat → Int32) : Nat → Int32
  | 0 => purF g 4
  | b + 1 => heldV (purB g b - (if g (17 + 3 * b + 2) = 1 then 0 else eatsV (g (17 + 3 * b)) (g 0))) (-99999) 99999
def talR (g : Nat → Int32) : Nat → Int32 :=
  upd (upd (upd (upd (soldK g 4) 4 (purB g (boN g))) 5 (heldV (g 5 + allF g 4) 0 99999)) 6 (heldV (g 6 + (if allF g 4 = 0 then 1 else -2)) 0 99)) 0 (g 0 + 1)
theorem upd_upd {f : Nat → Int32} {k : Nat} {x y : Int32} : upd (upd f k x) k y = upd f k y := by
  funext j
  unfold upd
  split <;> rfl
theorem upd_self {f : Nat → Int32} {k : Nat} : upd f k (f k) = f := by
  funext j
  unfold upd
  split
  · rename_i q
    rw [q]
  · rfl
theorem soldK_0 {g : Nat → Int32} : soldK g 0 = g := by
  funext k
  unfold soldK
  rw [if_neg (by omega)]
theorem soldK_s {g : Nat → Int32} {f : Nat} : upd (soldK g f) (9 + f) 0 = soldK g (f + 1) := by
  funext k
  unfold soldK upd
  by_cases q : k = 9 + f
  · rw [if_pos q, if_pos (by omega)]
  · rw [if_neg q]
    show (if 9 ≤ k ∧ k < 9 + f then 0 else g k) = _
    by_cases q2 : 9 ≤ k ∧ k < 9 + f
    · rw [if_pos q2, if_pos (by omega)]
    · rw [if_neg q2, if_neg (by omega)]
theorem soldK_up {g : Nat → Int32} {f : Nat} {x : Int32} : soldK (upd g 4 x) f = upd (soldK g f) 4 x := by
  funext k
  unfold soldK upd
  by_cases q : k = 4
  · rw [if_neg (by omega), if_pos q, if_pos q]
  · simp only [if_neg q]
theorem soldK_no {g : Nat → Int32} {f k : Nat} (h : k < 9 ∨ 9 + f ≤ k) : soldK g f k = g k := if_neg (by omega)
end SPEC6
