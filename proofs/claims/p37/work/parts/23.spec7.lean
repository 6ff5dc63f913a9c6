section SPEC7
theorem nI_rem {a b : Nat} (ha : a < 2 ^ 31) (hb0 : 0 < b) (hb : b < 2 ^ 31) : nI a - nI a / nI b * nI b = nI (a % b) := pk_rem ha hb0 hb
/-- draws -/
def zN (z : Int32) : Int32 := z * 1103515245 + 12345
def dv (z : Int32) : Nat := z.toUInt32.toNat / 256
theorem ushr8_dv (z : Int32) : ushr8 z = nI (dv z) ∧ dv z < 16777216 := by
  have h1 : z.toUInt32.toNat < 4294967296 := z.toUInt32.toNat_lt
  have h2 : dv z < 16777216 := by unfold dv; omega
  refine ⟨?_, h2⟩
  have e1 : (z.toUInt32 >>> ((8 : Int32).toUInt32 &&& Int32.toUInt32 31)).toNat = dv z := by
    have e2 : ((8 : Int32).toUInt32 &&& Int32.toUInt32 31) = 8 := by decide
    rw [e2, UInt32.toNat_shiftRight, Nat.shiftRight_eq_div_pow]
    rfl
  unfold ushr8
  apply Int32.toInt_inj.mp
  rw [nI_toInt (by omega), ← e1]
  generalize hq : z.toUInt32 >>> ((8 : Int32).toUInt32 &&& Int32.toUInt32 31) = q at *
  have h3 : q.toNat < 16777216 := by rw [e1]; exact h2
  show q.toBitVec.toInt = (q.toBitVec.toNat : Int)
  exact BitVec.toInt_eq_toNat_of_lt (by show 2 * q.toNat < 4294967296; omega)
def cntN (p : Nat → Bool) : Nat → Nat
  | 0 => 0
  | k + 1 => cntN p k + (if p k = true then 1 else 0)
theorem cntN_le (p : Nat → Bool) : ∀ k, cntN p k ≤ k
  | 0 => Nat.le_refl _
  | k + 1 => by
    have ih := cntN_le p k
    unfold cntN
    split <;> omega
/-- by which waves a catch is enough -/
def enP (g : Nat → Int32) (f n : Int32) (w : Nat) : Bool := decide (n ≤ catchG g f n (nI w) (g 0))
def shW (g : Nat → Int32) (f n : Int32) (w : Nat) : Int32 := if n - catchG g f n (nI w) (g 0) < 0 then 0 else n - catchG g f n (nI w) (g 0)
def safeN (g : Nat → Int32) (f : Int32) : Nat → Nat
  | 0 => 0
  | n + 1 => if cntN (enP g f (nI (n + 1))) 10 = 10 then n + 1 else safeN g f n
theorem catchG_w {g : Nat → Int32} {f n x : Int32} : catchG (upd g 3 x) f n ((upd g 3 x) 3) ((upd g 3 x) 0) = catchG g f n x (g 0) := by
  rw [upd_eq, upd_ne (by decide)]
  exact catchG_cg (fun k hk => upd_ne (by omega)) (upd_ne (by decide))
theorem shortG_w {g : Nat → Int32} {f n : Int32} {w : Nat} : shortG (upd g 3 (nI w)) f n = shW g f n w := by
  unfold shortG shW
  rw [catchG_w]
/-- a day by draws, up to its evening -/
def drF (g : Nat → Int32) : Nat := dv (zN (g 1)) % 4
def drN (g : Nat → Int32) : Nat := dv (zN (zN (g 1))) % 30
def drS (g : Nat → Int32) : Nat → Int32 := if upd g 1 (zN (zN (g 1))) (9 + drF g) + nI (drN g) ≤ 99 then sellR (upd g 1 (zN (zN (g 1)))) (drF g) (nI (drN g)) else upd g 1 (zN (zN (g 1)))
def drR (g : Nat → Int32) : Nat → Int32 := upd (upd (drS g) 1 (zN (zN (zN (g 1))))) 3 (nI (dv (zN (zN (zN (g 1)))) % 10))
theorem sellR_no {g : Nat → Int32} {j k : Nat} {n : Int32} (hj : j < 4) (h : k < 4 ∨ k = 5 ∨ k = 6 ∨ k = 7 ∨ k = 8 ∨ 13 ≤ k) : sellR g j n k = g k := by
  unfold sellR
  rw [upd_ne (by omega), upd_ne (by omega)]
theorem drF_lt {g : Nat → Int32} : drF g < 4 := Nat.mod_lt _ (by decide)
theorem drS_no {g : Nat → Int32} {k : Nat} (h : k = 2 ∨ 13 ≤ k) : drS g k = g k := by
  unfold drS
  split
  · rw [sellR_no drF_lt (by omega), upd_ne (by omega)]
  · rw [upd_ne (by omega)]
theorem drR_no {g : Nat → Int32} {k : Nat} (h : k = 2 ∨ 13 ≤ k) : drR g k = g k := by
  unfold drR
  rw [upd_ne (by omega), upd_ne (by omega), drS_no h]
theorem talR_no {g : Nat → Int32} {k : Nat} (h : k = 2 ∨ 13 ≤ k) : talR g k = g k := by
  unfold talR
  rw [upd_ne (by omega), upd_ne (by omega), upd_ne (by omega), upd_ne (by omega), soldK_no (by omega)]
def looR (g : Nat → Int32) : Nat → (Nat → Int32)
  | 0 => g
  | k + 1 => talR (drR (looR g k))
def looA (g : Nat → Int32) : Nat → Int32
  | 0 => 0
  | k + 1 => looA g k + allF (drR (looR g k)) 4
theorem looR_no {g : Nat → Int32} {k : Nat} (h : k = 2 ∨ 13 ≤ k) : ∀ i, looR g i k = g k
  | 0 => rfl
  | i + 1 => by
    show talR (drR (looR g i)) k = g k
    rw [talR_no h, drR_no h, looR_no h i]
end SPEC7
section SPEC7B
theorem rg30 {k : Int32} (c : 1 ≤ k ∧ k ≤ 30) : ∃ j, 1 ≤ j ∧ j ≤ 30 ∧ k = nI j := by
  have h0 : (0 : Int32) ≤ k := Int32.le_trans (by decide) c.1
  obtain ⟨j, hj, rfl⟩ := (inN_le (x := k) (M := 30) (n := 31) (by decide)).mp ⟨h0, c.2⟩
  refine ⟨j, ?_, by omega, rfl⟩
  have h1 : nI 1 ≤ nI j := c.1
  rw [nI_leI (by decide) (by omega)] at h1
  exact h1
theorem back_o {h g : sk_M} (a : sk_o [55, 63, 64] h g) (e : g 55 = h 55) : sk_o [63, 64] h g := by
  intro k hk
  by_cases q : k = 55
  · rw [q]; exact e
  · exact a k (by simp only [List.mem_cons, not_or] at hk ⊢; exact ⟨q, hk⟩)
end SPEC7B
section SPEC7C
theorem rem_4 {a : Nat} (ha : a < 2 ^ 31) : nI a - nI a / 4 * 4 = nI (a % 4) := nI_rem ha (by decide) (by decide)
theorem rem_10 {a : Nat} (ha : a < 2 ^ 31) : nI a - nI a / 10 * 10 = nI (a % 10) := nI_rem ha (by decide) (by decide)
theorem rem_30 {a : Nat} (ha : a < 2 ^ 31) : nI a - nI a / 30 * 30 = nI (a % 30) := nI_rem ha (by decide) (by decide)
end SPEC7C
