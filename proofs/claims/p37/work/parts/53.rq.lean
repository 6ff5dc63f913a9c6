section RQP
/-- where the class keeps what the reference's row has at a place: the cell, and the place in it -/
def clQ (q b p : Nat) : Nat := if p < 9 then q else if p < 13 then b else if p < 17 then b + 1 else if p < 35 then b + 6 + (p - 17) / 3 else if p < 95 then b + 4 else b + 5
def ixQ (p : Nat) : Nat := if p < 9 then [8, 14, 6, 7, 9, 10, 11, 12, 13].getD p 0 else if p < 13 then p - 9 else if p < 17 then p - 13 else if p < 35 then (p - 17) % 3 else if p < 95 then p - 35 else p - 95
/-- a quay of the class (its cell, its first row) is as a row of the reference says -/
def RQ (q b : Nat) (h : sk_M) (g : Nat → Int32) : Prop := (∀ p, p < 119 → h (clQ q b p) (ixQ p) = g p) ∧ lawC h (b + 12) (b + 14) g 0 ∧ lawC h (b + 13) (b + 15) g 1
theorem clQ_so {q b j : Nat} (hj : j < 4) : clQ q b (9 + j) = b ∧ ixQ (9 + j) = j := by
  unfold clQ ixQ
  rw [if_neg (by omega), if_pos (by omega), if_neg (by omega), if_pos (by omega)]
  exact ⟨rfl, by omega⟩
theorem clQ_as {q b j : Nat} (hj : j < 4) : clQ q b (13 + j) = b + 1 ∧ ixQ (13 + j) = j := by
  unfold clQ ixQ
  rw [if_neg (by omega), if_neg (by omega), if_pos (by omega), if_neg (by omega), if_neg (by omega), if_pos (by omega)]
  exact ⟨rfl, by omega⟩
theorem clQ_bt {q b j w : Nat} (hj : j < 6) (hw : w < 3) : clQ q b (17 + 3 * j + w) = b + 6 + j ∧ ixQ (17 + 3 * j + w) = w := by
  unfold clQ ixQ
  rw [if_neg (by omega), if_neg (by omega), if_neg (by omega), if_pos (by omega), if_neg (by omega), if_neg (by omega), if_neg (by omega), if_pos (by omega)]
  exact ⟨by omega, by omega⟩
theorem clQ_tp {q b k : Nat} (hk : k < 60) : clQ q b (35 + k) = b + 4 ∧ ixQ (35 + k) = k := by
  unfold clQ ixQ
  rw [if_neg (by omega), if_neg (by omega), if_neg (by omega), if_neg (by omega), if_pos (by omega), if_neg (by omega), if_neg (by omega), if_neg (by omega), if_neg (by omega), if_pos (by omega)]
  exact ⟨rfl, by omega⟩
theorem clQ_wg {q b k : Nat} (hk : k < 24) : clQ q b (95 + k) = b + 5 ∧ ixQ (95 + k) = k := by
  unfold clQ ixQ
  rw [if_neg (by omega), if_neg (by omega), if_neg (by omega), if_neg (by omega), if_neg (by omega), if_neg (by omega), if_neg (by omega), if_neg (by omega), if_neg (by omega), if_neg (by omega)]
  exact ⟨rfl, by omega⟩
section
variable {q b : Nat} {h : sk_M} {g : Nat → Int32}
theorem RQ.bo (H : RQ q b h g) : h q 6 = g 2 := H.1 2 (by decide)
theorem RQ.wa (H : RQ q b h g) : h q 7 = g 3 := H.1 3 (by decide)
theorem RQ.da (H : RQ q b h g) : h q 8 = g 0 := H.1 0 (by decide)
theorem RQ.pu (H : RQ q b h g) : h q 9 = g 4 := H.1 4 (by decide)
theorem RQ.ow (H : RQ q b h g) : h q 10 = g 5 := H.1 5 (by decide)
theorem RQ.tr (H : RQ q b h g) : h q 11 = g 6 := H.1 6 (by decide)
theorem RQ.td (H : RQ q b h g) : h q 12 = g 7 := H.1 7 (by decide)
theorem RQ.ws (H : RQ q b h g) : h q 13 = g 8 := H.1 8 (by decide)
theorem RQ.zz (H : RQ q b h g) : h q 14 = g 1 := H.1 1 (by decide)
theorem RQ.so (H : RQ q b h g) {j : Nat} (hj : j < 4) : h b j = g (9 + j) := by
  have e := H.1 (9 + j) (by omega)
  rwa [(clQ_so hj).1, (clQ_so (q := q) (b := b) hj).2] at e
theorem RQ.ak (H : RQ q b h g) {j : Nat} (hj : j < 4) : h (b + 1) j = g (13 + j) := by
  have e := H.1 (13 + j) (by omega)
  rwa [(clQ_as hj).1, (clQ_as (q := q) (b := b) hj).2] at e
theorem RQ.bt (H : RQ q b h g) {j w : Nat} (hj : j < 6) (hw : w < 3) : h (b + 6 + j) w = g (17 + 3 * j + w) := by
  have e := H.1 (17 + 3 * j + w) (by omega)
  rwa [(clQ_bt hj hw).1, (clQ_bt (q := q) (b := b) hj hw).2] at e
theorem RQ.tp (H : RQ q b h g) {k : Nat} (hk : k < 60) : h (b + 4) k = g (35 + k) := by
  have e := H.1 (35 + k) (by omega)
  rwa [(clQ_tp hk).1, (clQ_tp (q := q) (b := b) hk).2] at e
theorem RQ.wg (H : RQ q b h g) {k : Nat} (hk : k < 24) : h (b + 5) k = g (95 + k) := by
  have e := H.1 (95 + k) (by omega)
  rwa [(clQ_wg hk).1, (clQ_wg (q := q) (b := b) hk).2] at e
end
theorem RQ.b0 {h : sk_M} {g : Nat → Int32} (H : RQ 1 18 h g) {j : Nat} (hj : j < 6) : h (24 + j) 0 = g (17 + 3 * j) := H.bt (w := 0) hj (by decide)
theorem RQ.b1 {h : sk_M} {g : Nat → Int32} (H : RQ 1 18 h g) {j : Nat} (hj : j < 6) : h (24 + j) 1 = g (17 + 3 * j + 1) := H.bt hj (by decide)
theorem RQ.b2 {h : sk_M} {g : Nat → Int32} (H : RQ 1 18 h g) {j : Nat} (hj : j < 6) : h (24 + j) 2 = g (17 + 3 * j + 2) := H.bt hj (by decide)
theorem clQ_rg {q b p : Nat} (hp : p < 119) : clQ q b p = q ∨ (b ≤ clQ q b p ∧ clQ q b p ≤ b + 11) := by
  unfold clQ
  (repeat' split) <;> omega
theorem lawC.o {h h1 : sk_M} {lo co u : Nat} {g : Nat → Int32} (e1 : h1 lo = h lo) (e2 : h1 co = h co) (H : lawC h lo co g u) : lawC h1 lo co g u := by
  unfold lawC at *
  rw [e1, e2]
  exact H
theorem RQ.o {q b : Nat} {h h1 : sk_M} {g : Nat → Int32} {S : List Nat} (H : RQ q b h g) (o : sk_o S h h1) (hS : ∀ k ∈ S, k ≠ q ∧ (k < b ∨ b + 15 < k)) : RQ q b h1 g := by
  have e : ∀ k, k = q ∨ (b ≤ k ∧ k ≤ b + 15) → h1 k = h k := fun k hk => o k (fun m => by have := hS k m; omega)
  refine ⟨fun p hp => ?_, lawC.o (e _ (by omega)) (e _ (by omega)) H.2.1, lawC.o (e _ (by omega)) (e _ (by omega)) H.2.2⟩
  rw [e _ (by have := clQ_rg (q := q) (b := b) hp; omega)]
  exact H.1 p hp
theorem lawC.cg {h : sk_M} {lo co u : Nat} {g g1 : Nat → Int32} (hl : laN g u ≤ 60) (hu : u < 2) (e : ∀ p, 119 ≤ p → p < 361 → g1 p = g p) (H : lawC h lo co g u) : lawC h lo co g1 u := by
  have a3 : laN g1 u = laN g u := by unfold laN; rw [e _ (by omega) (by omega)]
  unfold lawC at *
  rw [a3]
  refine ⟨H.1, H.2.1, fun k hk => ?_⟩
  have e1 : laA g1 u k = laA g u k := e _ (by omega) (by omega)
  have e2 : laB g1 u k = laB g u k := e _ (by omega) (by omega)
  rw [e1, e2]
  exact H.2.2 k hk
theorem RQ.cg {q b : Nat} {h : sk_M} {g g1 : Nat → Int32} (H : RQ q b h g) (h0 : laN g 0 ≤ 60) (h1 : laN g 1 ≤ 60) (e : ∀ p, p < 361 → g1 p = g p) : RQ q b h g1 :=
  ⟨fun p hp => (H.1 p hp).trans (e p (by omega)).symm, H.2.1.cg h0 (by decide) (fun p _ h2 => e p h2), H.2.2.cg h1 (by decide) (fun p _ h2 => e p h2)⟩
theorem clQ_inj : ∀ p, p < 119 → ∀ r, r < 119 → clQ 1 18 p = clQ 1 18 r → ixQ p = ixQ r → p = r := by decide +kernel
theorem lawC.lo {h : sk_M} {lo co u : Nat} {g g1 : Nat → Int32} (e : ∀ p, 119 ≤ p → g1 p = g p) (H : lawC h lo co g u) : lawC h lo co g1 u := by
  have a1 : laA g1 u = laA g u := funext fun k => e _ (by omega)
  have a2 : laB g1 u = laB g u := funext fun k => e _ (by omega)
  have a3 : laN g1 u = laN g u := by unfold laN; rw [e _ (by omega)]
  unfold lawC at *
  rw [a1, a2, a3]
  exact H
theorem RQ.u {h : sk_M} {g : Nat → Int32} {p : Nat} {x : Int32} (H : RQ 1 18 h g) (hp : p < 119) : RQ 1 18 (sk_u h (clQ 1 18 p) (ixQ p) x) (upd g p x) := by
  have hc := clQ_rg (q := 1) (b := 18) hp
  have e : ∀ k, 30 ≤ k → sk_u h (clQ 1 18 p) (ixQ p) x k = h k := fun k hk => sk_r_ne _ _ (by omega)
  have eg : ∀ r, 119 ≤ r → upd g p x r = g r := fun r hr => upd_ne (by omega)
  refine ⟨fun r hr => ?_, (H.2.1.lo eg).o (e _ (by decide)) (e _ (by decide)), (H.2.2.lo eg).o (e _ (by decide)) (e _ (by decide))⟩
  rw [sk_u_at]
  by_cases q : r = p
  · subst q
    rw [if_pos rfl, if_pos rfl, upd_eq]
  · rw [upd_ne q]
    split
    · rename_i c
      rw [if_neg (fun c2 => q (clQ_inj r hr p hp c c2)), ← c]
      exact H.1 r hr
    · exact H.1 r hr
theorem RQ.u_so {h : sk_M} {g : Nat → Int32} {j : Nat} {x : Int32} (H : RQ 1 18 h g) (hj : j < 4) : RQ 1 18 (sk_u h 18 j x) (upd g (9 + j) x) := by
  have e := H.u (p := 9 + j) (x := x) (by omega)
  rwa [(clQ_so hj).1, (clQ_so (q := 1) (b := 18) hj).2] at e
theorem RQ.u_as {h : sk_M} {g : Nat → Int32} {j : Nat} {x : Int32} (H : RQ 1 18 h g) (hj : j < 4) : RQ 1 18 (sk_u h 19 j x) (upd g (13 + j) x) := by
  have e := H.u (p := 13 + j) (x := x) (by omega)
  rwa [(clQ_as hj).1, (clQ_as (q := 1) (b := 18) hj).2] at e
theorem RQ.u_bt {h : sk_M} {g : Nat → Int32} {j w : Nat} {x : Int32} (H : RQ 1 18 h g) (hj : j < 6) (hw : w < 3) : RQ 1 18 (sk_u h (24 + j) w x) (upd g (17 + 3 * j + w) x) := by
  have e := H.u (p := 17 + 3 * j + w) (x := x) (by omega)
  rwa [(clQ_bt hj hw).1, (clQ_bt (q := 1) (b := 18) hj hw).2] at e
theorem RQ.u_tp {h : sk_M} {g : Nat → Int32} {k : Nat} {x : Int32} (H : RQ 1 18 h g) (hk : k < 60) : RQ 1 18 (sk_u h 22 k x) (upd g (35 + k) x) := by
  have e := H.u (p := 35 + k) (x := x) (by omega)
  rwa [(clQ_tp hk).1, (clQ_tp (q := 1) (b := 18) hk).2] at e
theorem RQ.u_wg {h : sk_M} {g : Nat → Int32} {k : Nat} {x : Int32} (H : RQ 1 18 h g) (hk : k < 24) : RQ 1 18 (sk_u h 23 k x) (upd g (95 + k) x) := by
  have e := H.u (p := 95 + k) (x := x) (by omega)
  rwa [(clQ_wg hk).1, (clQ_wg (q := 1) (b := 18) hk).2] at e
theorem RQ.u_q {h : sk_M} {g : Nat → Int32} {p : Nat} {x : Int32} (H : RQ 1 18 h g) (hp : p < 9) : RQ 1 18 (sk_u h 1 (ixQ p) x) (upd g p x) := by
  have e := H.u (p := p) (x := x) (by omega)
  rwa [show clQ 1 18 p = 1 from if_pos hp] at e
/-- what every row keeps to -/
def RG (g : Nat → Int32) : Prop := (boI g ∧ lawI g 0 ∧ lawI g 1 ∧ lawS g 0 ∧ lawS g 1) ∧ ((∃ n, n ≤ 60 ∧ g 7 = nI n) ∧ (∃ n, n ≤ 24 ∧ g 8 = nI n) ∧ (∃ n, n ≤ 9999 ∧ g 0 = nI n)) ∧ (∀ j, j < 4 → inN (g (9 + j)) 100) ∧ (∀ j, j < 4 → inN (g (13 + j)) 10) ∧ (∀ j, j < 6 → inN (g (17 + 3 * j)) 7 ∧ inN (g (17 + 3 * j + 1)) 10 ∧ inN (g (17 + 3 * j + 2)) 2) ∧ inN (g 3) 10 ∧ (-99999 ≤ g 4 ∧ g 4 ≤ 99999) ∧ inN (g 5) 100000 ∧ inN (g 6) 100
section
variable {g : Nat → Int32}
theorem RG.b (H : RG g) : boI g := H.1.1
theorem RG.i0 (H : RG g) : lawI g 0 := H.1.2.1
theorem RG.i1 (H : RG g) : lawI g 1 := H.1.2.2.1
theorem RG.s0 (H : RG g) : lawS g 0 := H.1.2.2.2.1
theorem RG.s1 (H : RG g) : lawS g 1 := H.1.2.2.2.2
theorem RG.tp (H : RG g) : ∃ n, n ≤ 60 ∧ g 7 = nI n := H.2.1.1
theorem RG.wt (H : RG g) : ∃ n, n ≤ 24 ∧ g 8 = nI n := H.2.1.2.1
theorem RG.da (H : RG g) : ∃ n, n ≤ 9999 ∧ g 0 = nI n := H.2.1.2.2
theorem RG.so (H : RG g) {j : Nat} (hj : j < 4) : inN (g (9 + j)) 100 := H.2.2.1 j hj
theorem RG.ak (H : RG g) {j : Nat} (hj : j < 4) : inN (g (13 + j)) 10 := H.2.2.2.1 j hj
theorem RG.bt (H : RG g) {j : Nat} (hj : j < 6) : inN (g (17 + 3 * j)) 7 ∧ inN (g (17 + 3 * j + 1)) 10 ∧ inN (g (17 + 3 * j + 2)) 2 := H.2.2.2.2.1 j hj
theorem RG.wa (H : RG g) : inN (g 3) 10 := H.2.2.2.2.2.1
theorem RG.pu (H : RG g) : -99999 ≤ g 4 ∧ g 4 ≤ 99999 := H.2.2.2.2.2.2.1
theorem RG.ow (H : RG g) : inN (g 5) 100000 := H.2.2.2.2.2.2.2.1
theorem RG.tr (H : RG g) : inN (g 6) 100 := H.2.2.2.2.2.2.2.2
end
theorem rf_fleet {j : Nat} (hj : j < 6) : sk_rf [some 24, some 25, some 26, some 27, some 28, some 29] j = some (24 + j) := by
  rcases (by omega : j = 0 ∨ j = 1 ∨ j = 2 ∨ j = 3 ∨ j = 4 ∨ j = 5) with rfl | rfl | rfl | rfl | rfl | rfl <;> rfl
theorem se_bt {j : Nat} (hj : j < 6) : sk_e (24 + j) = (1, 0, 3, []) := by
  rcases (by omega : j = 0 ∨ j = 1 ∨ j = 2 ∨ j = 3 ∨ j = 4 ∨ j = 5) with rfl | rfl | rfl | rfl | rfl | rfl <;> rfl
theorem rf_fleet2 {j : Nat} (hj : j < 6) : sk_rf [some 42, some 43, some 44, some 45, some 46, some 47] j = some (42 + j) := by
  rcases (by omega : j = 0 ∨ j = 1 ∨ j = 2 ∨ j = 3 ∨ j = 4 ∨ j = 5) with rfl | rfl | rfl | rfl | rfl | rfl <;> rfl
theorem se_bt2 {j : Nat} (hj : j < 6) : sk_e (42 + j) = (1, 0, 3, []) := by
  rcases (by omega : j = 0 ∨ j = 1 ∨ j = 2 ∨ j = 3 ∨ j = 4 ∨ j = 5) with rfl | rfl | rfl | rfl | rfl | rfl <;> rfl
end RQP
