section SPEC22
theorem mn_hel {v : Int32} (h : -99999 ≤ v) : (if v < 99999 then v else 99999) = heldV v (-99999) 99999 := by
  unfold heldV
  simp only [Int32.lt_iff_toInt_lt, Int32.le_iff_toInt_le] at *
  (repeat' split) <;> first | rfl | (exfalso; omega) | (apply Int32.toInt_inj.mp; omega)
theorem mx_hel {v : Int32} (h : v ≤ 99999) : (if -99999 < v then v else -99999) = heldV v (-99999) 99999 := by
  unfold heldV
  simp only [Int32.lt_iff_toInt_lt, Int32.le_iff_toInt_le] at *
  (repeat' split) <;> first | rfl | (exfalso; omega) | (apply Int32.toInt_inj.mp; omega)
theorem mn_hel0 {v : Int32} (h : 0 ≤ v) : (if v < 99999 then v else 99999) = heldV v 0 99999 := by
  unfold heldV
  simp only [Int32.lt_iff_toInt_lt, Int32.le_iff_toInt_le] at *
  (repeat' split) <;> first | rfl | (exfalso; omega) | (apply Int32.toInt_inj.mp; omega)
theorem mx_0 {v : Int32} : (if 0 < v then v else 0) = if v < 0 then 0 else v := by
  simp only [Int32.lt_iff_toInt_lt] at *
  (repeat' split) <;> first | rfl | (exfalso; omega) | (apply Int32.toInt_inj.mp; omega)
theorem hel_rg {v : Int32} : -99999 ≤ heldV v (-99999) 99999 ∧ heldV v (-99999) 99999 ≤ 99999 := by
  unfold heldV
  simp only [Int32.lt_iff_toInt_lt, Int32.le_iff_toInt_le] at *
  have e1 : (-99999 : Int32).toInt = -99999 := rfl
  have e2 : (99999 : Int32).toInt = 99999 := rfl
  (repeat' split) <;> constructor <;> omega
theorem hel_id {v : Int32} (h : -99999 ≤ v ∧ v ≤ 99999) : heldV v (-99999) 99999 = v := by
  unfold heldV
  rw [if_neg (Int32.not_lt.mpr h.1), if_neg (Int32.not_lt.mpr h.2)]
theorem hel_N {v : Int32} {m : Nat} (hm : m < 2147483647) : inN (heldV v 0 (nI m)) (m + 1) := by
  unfold heldV
  by_cases h1 : v < 0
  · rw [if_pos h1]; exact ⟨0, by omega, rfl⟩
  · rw [if_neg h1]
    by_cases h2 : nI m < v
    · rw [if_pos h2]; exact ⟨m, by omega, rfl⟩
    · rw [if_neg h2]
      exact (inN_le (by rw [nI_toInt (by omega)]; rfl)).mp ⟨Int32.not_lt.mp h1, Int32.not_lt.mp h2⟩
theorem add_I {x : Int32} {m : Nat} (h1 : x.toInt + (m : Int) < 2147483648) (hm : m < 2147483648) : (x + nI m).toInt = x.toInt + (m : Int) := by
  have := Int32.le_toInt x
  rw [Int32.toInt_add, nI_toInt hm]
  exact Int.bmod_eq_of_le (by omega) (by omega)
theorem sub_I {x : Int32} {m : Nat} (h1 : -2147483648 ≤ x.toInt - (m : Int)) (hm : m < 2147483648) : (x - nI m).toInt = x.toInt - (m : Int) := by
  have := Int32.toInt_lt x
  rw [Int32.toInt_sub, nI_toInt hm]
  exact Int.bmod_eq_of_le (by omega) (by omega)
theorem inN.mul {x y : Int32} {a b : Nat} (hx : inN x (a + 1)) (hy : inN y (b + 1)) : ∃ m, m ≤ a * b ∧ x * y = nI m := by
  obtain ⟨i, hi, rfl⟩ := hx
  obtain ⟨j, hj, rfl⟩ := hy
  exact ⟨i * j, Nat.mul_le_mul (by omega) (by omega), nI_mul i j⟩
theorem coins_N {g : Nat → Int32} {j : Nat} {s : Int32} : inN (coinsG g j s) 100 := by
  obtain ⟨k, hk, e⟩ := heldV_N (if 0 < laN g 1 then lawV g 1 (g (13 + j)) (g 6) s else g (13 + j))
  exact ⟨k, by omega, e⟩
theorem paid_lo {x n c : Int32} (hx : -99999 ≤ x ∧ x ≤ 99999) (hn : inN n 100) (hc : inN c 100) : -99999 ≤ x + n * c := by
  obtain ⟨m, hm, e⟩ := hn.mul hc
  rw [e]
  simp only [Int32.le_iff_toInt_le] at *
  have e1 : (-99999 : Int32).toInt = -99999 := rfl
  have e2 : (99999 : Int32).toInt = 99999 := rfl
  rw [add_I (by omega) (by omega)]
  omega
theorem lessG_N {g : Nat → Int32} (hG : RG g) {f : Nat} (hf : f < 4) : inN (lessG g f) 100 := by
  obtain ⟨a, ha, e⟩ := hG.so hf
  obtain ⟨c, hc, e2⟩ := catchG_N hG.b (nI f) (g (9 + f)) (g 3) (g 0)
  unfold lessG shortG
  by_cases q : g (9 + f) - catchG g (nI f) (g (9 + f)) (g 3) (g 0) < 0
  · rw [if_pos q]; exact ⟨0, by omega, rfl⟩
  · rw [if_neg q]
    rw [e2, e] at q ⊢
    by_cases w : c ≤ a
    · exact ⟨a - c, by omega, nI_sub w⟩
    · exfalso
      apply q
      rw [Int32.lt_iff_toInt_lt, sub_toInt (by omega) (by omega)]
      show _ < (0 : Int)
      omega
theorem allF_N {g : Nat → Int32} (hG : RG g) : ∀ f, f ≤ 4 → ∃ m, m ≤ 99 * f ∧ allF g f = nI m
  | 0, _ => ⟨0, Nat.le_refl _, rfl⟩
  | f + 1, hf => by
    obtain ⟨m, hm, e⟩ := allF_N hG f (by omega)
    obtain ⟨k, hk, e2⟩ := lessG_N hG (f := f) (by omega)
    refine ⟨m + k, by omega, ?_⟩
    show allF g f + lessG g f = _
    rw [e, e2, nI_add]
theorem purF_rg {g : Nat → Int32} (hG : RG g) : ∀ f, -99999 ≤ purF g f ∧ purF g f ≤ 99999
  | 0 => hG.pu
  | f + 1 => hel_rg
theorem purB_rg {g : Nat → Int32} (hG : RG g) : ∀ f, -99999 ≤ purB g f ∧ purB g f ≤ 99999
  | 0 => purF_rg hG 4
  | f + 1 => hel_rg
theorem pur_hi {x y : Int32} (hx : -99999 ≤ x ∧ x ≤ 99999) {m : Nat} (hy : y = nI m) (hm : m ≤ 100000) : x - y ≤ 99999 := by
  rw [hy]
  simp only [Int32.le_iff_toInt_le] at *
  have e1 : (-99999 : Int32).toInt = -99999 := rfl
  have e2 : (99999 : Int32).toInt = 99999 := rfl
  rw [sub_I (by omega) (by omega)]
  omega
theorem fine_N {x y : Int32} (hx : inN x 100) (hy : inN y 10) : ∃ m, m ≤ 1782 ∧ 2 * x * y = nI m := by
  obtain ⟨i, hi, rfl⟩ := hx
  obtain ⟨j, hj, rfl⟩ := hy
  refine ⟨2 * i * j, (Nat.mul_le_mul (show 2 * i ≤ 198 by omega) (show j ≤ 9 by omega)), ?_⟩
  show nI 2 * nI i * nI j = _
  rw [nI_mul, nI_mul]
theorem lawS_cg {g g1 : Nat → Int32} (e : ∀ k, 119 ≤ k → g1 k = g k) {u : Nat} (h : lawS g u) : lawS g1 u := by
  have a1 : laA g1 u = laA g u := funext fun k => e _ (by omega)
  have a2 : laB g1 u = laB g u := funext fun k => e _ (by omega)
  have a3 : laN g1 u = laN g u := by unfold laN; rw [e _ (by omega)]
  unfold lawS
  rw [a1, a2, a3]
  exact h
/-- a place of a row may take a number -/
def okP (p : Nat) (x : Int32) : Prop := (p = 2 → inN x 7) ∧ (p = 7 → inN x 61) ∧ (p = 8 → inN x 25) ∧ (p = 0 → inN x 10000) ∧ (9 ≤ p → p < 13 → inN x 100) ∧ (13 ≤ p → p < 17 → inN x 10) ∧ (17 ≤ p → p < 35 → (p % 3 = 2 → inN x 7) ∧ (p % 3 = 0 → inN x 10) ∧ (p % 3 = 1 → inN x 2)) ∧ (p = 3 → inN x 10) ∧ (p = 4 → -99999 ≤ x ∧ x ≤ 99999) ∧ (p = 5 → inN x 100000) ∧ (p = 6 → inN x 100)
theorem RG.up {g : Nat → Int32} {p : Nat} {x : Int32} (H : RG g) (hp : p < 119) (c : okP p x) : RG (upd g p x) := by
  obtain ⟨c1, c2, c3, c4, c5, c6, c7, c8, c9, c10, c11⟩ := c
  have e : ∀ k, 119 ≤ k → upd g p x k = g k := fun k hk => upd_ne (by omega)
  have A : ∀ (k : Nat) (Z : Int32 → Prop), (k = p → Z x) → Z (g k) → Z (upd g p x k) := by
    intro k Z h1 h2
    by_cases q : k = p
    · subst q; rw [upd_eq]; exact h1 rfl
    · rw [upd_ne q]; exact h2
  have hN : ∀ {y : Int32} {n : Nat}, (∃ m, m ≤ n ∧ y = nI m) ↔ inN y (n + 1) := by
    intro y n
    constructor
    · rintro ⟨m, hm, e⟩; exact ⟨m, by omega, e⟩
    · rintro ⟨m, hm, e⟩; exact ⟨m, by omega, e⟩
  refine ⟨⟨?_, lawI_cg e H.i0, lawI_cg e H.i1, lawS_cg e H.s0, lawS_cg e H.s1⟩, ⟨?_, ?_, ?_⟩, fun j hj => ?_, fun j hj => ?_, fun j hj => ⟨?_, ?_, ?_⟩, ?_, ?_, ?_, ?_⟩
  · have hb : inN (upd g p x 2) 7 := A 2 (fun y => inN y 7) (fun q => c1 q.symm) ⟨boN g, by have := H.b.2; omega, H.b.1⟩
    obtain ⟨n, hn, e2⟩ := hb
    have e3 : boN (upd g p x) = n := by unfold boN; rw [e2, nI_clamp (by omega)]
    exact ⟨by rw [e3]; exact e2, by omega⟩
  · exact A 7 (fun y => ∃ n, n ≤ 60 ∧ y = nI n) (fun q => hN.mpr (c2 q.symm)) H.tp
  · exact A 8 (fun y => ∃ n, n ≤ 24 ∧ y = nI n) (fun q => hN.mpr (c3 q.symm)) H.wt
  · exact A 0 (fun y => ∃ n, n ≤ 9999 ∧ y = nI n) (fun q => hN.mpr (c4 q.symm)) H.da
  · exact A (9 + j) (fun y => inN y 100) (fun q => c5 (by omega) (by omega)) (H.so hj)
  · exact A (13 + j) (fun y => inN y 10) (fun q => c6 (by omega) (by omega)) (H.ak hj)
  · exact A (17 + 3 * j) (fun y => inN y 7) (fun q => (c7 (by omega) (by omega)).1 (by omega)) (H.bt hj).1
  · exact A (17 + 3 * j + 1) (fun y => inN y 10) (fun q => (c7 (by omega) (by omega)).2.1 (by omega)) (H.bt hj).2.1
  · exact A (17 + 3 * j + 2) (fun y => inN y 2) (fun q => (c7 (by omega) (by omega)).2.2 (by omega)) (H.bt hj).2.2
  · exact A 3 (fun y => inN y 10) (fun q => c8 q.symm) H.wa
  · exact A 4 (fun y => -99999 ≤ y ∧ y ≤ 99999) (fun q => c9 q.symm) H.pu
  · exact A 5 (fun y => inN y 100000) (fun q => c10 q.symm) H.ow
  · exact A 6 (fun y => inN y 100) (fun q => c11 q.symm) H.tr
theorem RG.u4 {g : Nat → Int32} {x : Int32} (H : RG g) (c : -99999 ≤ x ∧ x ≤ 99999) : RG (upd g 4 x) :=
  H.up (by decide) ⟨by omega, by omega, by omega, by omega, by omega, by omega, by omega, by omega, fun _ => c, by omega, by omega⟩
theorem RG.u1 {g : Nat → Int32} {x : Int32} (H : RG g) : RG (upd g 1 x) :=
  H.up (by decide) ⟨by omega, by omega, by omega, by omega, by omega, by omega, by omega, by omega, by omega, by omega, by omega⟩
theorem RG.u3 {g : Nat → Int32} {x : Int32} (H : RG g) (c : inN x 10) : RG (upd g 3 x) :=
  H.up (by decide) ⟨by omega, by omega, by omega, by omega, by omega, by omega, by omega, fun _ => c, by omega, by omega, by omega⟩
theorem RG.u9 {g : Nat → Int32} {x : Int32} {j : Nat} (H : RG g) (hj : j < 4) (c : inN x 100) : RG (upd g (9 + j) x) :=
  H.up (by omega) ⟨by omega, by omega, by omega, by omega, fun _ _ => c, by omega, by omega, by omega, by omega, by omega, by omega⟩
theorem RG.u13 {g : Nat → Int32} {x : Int32} {j : Nat} (H : RG g) (hj : j < 4) (c : inN x 10) : RG (upd g (13 + j) x) :=
  H.up (by omega) ⟨by omega, by omega, by omega, by omega, by omega, fun _ _ => c, by omega, by omega, by omega, by omega, by omega⟩
theorem RG.u5 {g : Nat → Int32} {x : Int32} (H : RG g) (c : inN x 100000) : RG (upd g 5 x) :=
  H.up (by decide) ⟨by omega, by omega, by omega, by omega, by omega, by omega, by omega, by omega, by omega, fun _ => c, by omega⟩
theorem RG.u6 {g : Nat → Int32} {x : Int32} (H : RG g) (c : inN x 100) : RG (upd g 6 x) :=
  H.up (by decide) ⟨by omega, by omega, by omega, by omega, by omega, by omega, by omega, by omega, by omega, by omega, fun _ => c⟩
theorem RG.u0 {g : Nat → Int32} {x : Int32} (H : RG g) (c : inN x 10000) : RG (upd g 0 x) :=
  H.up (by decide) ⟨by omega, by omega, by omega, fun _ => c, by omega, by omega, by omega, by omega, by omega, by omega, by omega⟩
theorem RG.u2 {g : Nat → Int32} {x : Int32} (H : RG g) (c : inN x 7) : RG (upd g 2 x) :=
  H.up (by decide) ⟨fun _ => c, by omega, by omega, by omega, by omega, by omega, by omega, by omega, by omega, by omega, by omega⟩
theorem RG.u7 {g : Nat → Int32} {x : Int32} (H : RG g) (c : inN x 61) : RG (upd g 7 x) :=
  H.up (by decide) ⟨by omega, fun _ => c, by omega, by omega, by omega, by omega, by omega, by omega, by omega, by omega, by omega⟩
theorem RG.u8 {g : Nat → Int32} {x : Int32} (H : RG g) (c : inN x 25) : RG (upd g 8 x) :=
  H.up (by decide) ⟨by omega, by omega, fun _ => c, by omega, by omega, by omega, by omega, by omega, by omega, by omega, by omega⟩
theorem RG.utw {g : Nat → Int32} {x : Int32} {p : Nat} (H : RG g) (hp : 35 ≤ p) (hp2 : p < 119) : RG (upd g p x) :=
  H.up hp2 ⟨by omega, by omega, by omega, by omega, by omega, by omega, by omega, by omega, by omega, by omega, by omega⟩
theorem RG.uk {g : Nat → Int32} {x : Int32} {j : Nat} (H : RG g) (hj : j < 6) (c : inN x 7) : RG (upd g (17 + 3 * j) x) :=
  H.up (by omega) ⟨by omega, by omega, by omega, by omega, by omega, by omega, fun _ _ => ⟨fun _ => c, by omega, by omega⟩, by omega, by omega, by omega, by omega⟩
theorem RG.um {g : Nat → Int32} {x : Int32} {j : Nat} (H : RG g) (hj : j < 6) (c : inN x 10) : RG (upd g (17 + 3 * j + 1) x) :=
  H.up (by omega) ⟨by omega, by omega, by omega, by omega, by omega, by omega, fun _ _ => ⟨by omega, fun _ => c, by omega⟩, by omega, by omega, by omega, by omega⟩
theorem RG.ul {g : Nat → Int32} {x : Int32} {j : Nat} (H : RG g) (hj : j < 6) (c : inN x 2) : RG (upd g (17 + 3 * j + 2) x) :=
  H.up (by omega) ⟨by omega, by omega, by omega, by omega, by omega, by omega, fun _ _ => ⟨by omega, by omega, fun _ => c⟩, by omega, by omega, by omega, by omega⟩
end SPEC22
