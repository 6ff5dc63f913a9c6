section SPEC11
/-- sheets -/
def shN (h : sk_M) (j : Nat) : Nat := (h 59 j).toNatClampNeg
def shI (h : sk_M) : Prop := ∀ j, j < 4 → h 59 j = nI (shN h j) ∧ shN h j ≤ 24
abbrev ceV (h : sk_M) (j : Nat) : Nat → Int32 := fun i => h 60 (24 * j + i)
def rgP (g : Nat → Int32) (c : Nat → Int32) (len : Nat) (sea : Int32) (i : Nat) : Bool := decide (¬ (i < len ∧ c i = catchG g (nI i) (g (9 + i)) sea (g 0)))
def rgN (g : Nat → Int32) (c : Nat → Int32) (len : Nat) (sea : Int32) : Nat := soF (rgP g c len sea) 4 0
def fsP (g : Nat → Int32) (c : Nat → Int32) (len : Nat) (w : Nat) : Bool := decide (rgN g c len (nI w) = len)
def setT (p : Nat → Bool) : Nat → Int32
  | 0 => 0
  | m + 1 => setT p m ||| (if p (9 - m) = true then 1 <<< (nI (9 - m) &&& 31) else 0)
def lstT (p : Nat → Bool) : Nat → Int32
  | 0 => -1
  | m + 1 => if p (9 - m) = true then nI (9 - m) else lstT p m
theorem rgP_w {g c : Nat → Int32} {len : Nat} {x : Int32} : rgP (upd g 3 x) c len ((upd g 3 x) 3) = rgP g c len x := by
  funext i
  unfold rgP
  rw [catchG_w, upd_ne (by omega)]
theorem rgN_w {g c : Nat → Int32} {len : Nat} {x : Int32} : rgN (upd g 3 x) c len ((upd g 3 x) 3) = rgN g c len x := by
  unfold rgN
  rw [rgP_w]
/-- why not, by number -/
def wI (k : Nat) : Int32 := match k with
  | 0 => 0
  | k => erI k
theorem wI_0 {k : Nat} (h : wI k = 0) (hk : k ≤ 6) : k = 0 := by
  have h2 : k = 0 ∨ k = 1 ∨ k = 2 ∨ k = 3 ∨ k = 4 ∨ k = 5 ∨ k = 6 := by omega
  rcases h2 with rfl | rfl | rfl | rfl | rfl | rfl | rfl
  · rfl
  all_goals exact absurd h (by decide)
theorem wI_ix {k : Nat} (h0 : ¬ k = 0) (hk : k ≤ 6) : sk_ix (-1000000000 - wI k) k 7 := by
  have h2 : k = 1 ∨ k = 2 ∨ k = 3 ∨ k = 4 ∨ k = 5 ∨ k = 6 := by omega
  rcases h2 with rfl | rfl | rfl | rfl | rfl | rfl <;> exact ⟨by decide, by decide, by decide⟩
theorem wI_er {k : Nat} (h0 : ¬ k = 0) : wI k = erI k := by
  cases k with
  | zero => exact absurd rfl h0
  | succ n => rfl
noncomputable def ntK (h : sk_M) (x : Int32) : Nat := @ite _ (inN x 4) (Classical.propDecidable _) (if h 58 x.toNatClampNeg = 0 then 2 else 0) 1
theorem ntK_le (h : sk_M) (x : Int32) : ntK h x ≤ 2 := by
  unfold ntK
  split
  · split <;> omega
  · omega
theorem ntK_no {h : sk_M} {x : Int32} (q : ¬ inN x 4) : ntK h x = 1 := if_neg q
theorem ntK_in {h : sk_M} {j : Nat} (hj : j < 4) : ntK h (nI j) = if h 58 j = 0 then 2 else 0 := by
  unfold ntK
  rw [if_pos ⟨j, hj, rfl⟩, nI_clamp (by omega)]
theorem ntK_0 {h : sk_M} {x : Int32} (q : ntK h x = 0) : ∃ j, j < 4 ∧ x = nI j ∧ ¬ h 58 j = 0 := by
  have hx : inN x 4 := by
    apply Classical.byContradiction
    intro q2
    rw [ntK_no q2] at q
    omega
  obtain ⟨j, hj, rfl⟩ := hx
  rw [ntK_in hj] at q
  exact ⟨j, hj, rfl, fun q2 => by rw [if_pos q2] at q; omega⟩
/-- what a number of so many bits holds -/
def ptV (b v : Int32) : Int32 := if b = 8 then v.toInt8.toInt32 else if b = 16 then v.toInt16.toInt32 else v
def okB (b : Int32) : Prop := b = 0 ∨ b = 8 ∨ b = 16 ∨ b = 32
def clrN (f : Nat → Int32) (a n : Nat) : Nat → Int32 := fun k => if a ≤ k ∧ k < a + n then 0 else f k
theorem clrN_0 {f : Nat → Int32} {a : Nat} : clrN f a 0 = f := by
  funext k
  unfold clrN
  rw [if_neg (by omega)]
theorem clrN_s {f : Nat → Int32} {a n : Nat} : upd (clrN f a n) (a + n) 0 = clrN f a (n + 1) := by
  funext k
  unfold clrN upd
  by_cases q : k = a + n
  · rw [if_pos q, if_pos (by omega)]
  · rw [if_neg q]
    show (if a ≤ k ∧ k < a + n then 0 else f k) = _
    by_cases q2 : a ≤ k ∧ k < a + n
    · rw [if_pos q2, if_pos (by omega)]
    · rw [if_neg q2, if_neg (by omega)]
theorem ix_24 (j i : Nat) : (24 : Int32) * nI j + nI i = nI (24 * j + i) := by
  show nI 24 * nI j + nI i = _
  rw [nI_mul, nI_add]
/-- numbers as priced: how many, from the first -/
def prP (c : Nat → Int32) (len : Nat) (i : Nat) : Bool := decide (¬ (i < len ∧ 0 ≤ c i ∧ c i ≤ 9))
def prR (g c : Nat → Int32) (n : Nat) : Nat → Int32 := fun k => if 13 ≤ k ∧ k < 13 + n then c (k - 13) else g k
theorem prR_0 {g c : Nat → Int32} : prR g c 0 = g := by
  funext k
  unfold prR
  rw [if_neg (by omega)]
theorem prR_s {g c : Nat → Int32} {n : Nat} : upd (prR g c n) (13 + n) (c n) = prR g c (n + 1) := by
  funext k
  unfold prR upd
  by_cases q : k = 13 + n
  · rw [if_pos q, if_pos (by omega), q]
    congr 1
    omega
  · rw [if_neg q]
    show (if 13 ≤ k ∧ k < 13 + n then c (k - 13) else g k) = _
    by_cases q2 : 13 ≤ k ∧ k < 13 + n
    · rw [if_pos q2, if_pos (by omega)]
    · rw [if_neg q2, if_neg (by omega)]
end SPEC11
