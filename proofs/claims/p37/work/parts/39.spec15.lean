section SPEC15
/-- what voice() leaves: the trace's length, whether parted, the rest of the fields, the trace -/
def trQ (h g : sk_M) (n : Nat) (bs : List Int32) (p : Int32) : Prop := sk_o [54, 66] h g ∧ g 54 18 = nI (n + bs.length) ∧ g 54 19 = p ∧ (∀ k, ¬ k = 18 → ¬ k = 19 → g 54 k = h 54 k) ∧ g 66 = appT (h 66) n bs
theorem trQ.of {h g : sk_M} {n : Nat} {bs : List Int32} (o : sk_o [54, 66] h g) (a : g 54 = upd (h 54) 18 (nI (n + bs.length))) (b : g 66 = appT (h 66) n bs) : trQ h g n bs (h 54 19) :=
  ⟨o, by rw [a, upd_eq], by rw [a, upd_ne (by decide)], fun k h1 _ => by rw [a, upd_ne h1], b⟩
theorem trQ.tr {h g f : sk_M} {n : Nat} {a b : List Int32} {p q : Int32} (x : trQ h g n a p) (y : trQ g f (n + a.length) b q) : trQ h f n (a ++ b) q := by
  obtain ⟨x1, x2, x3, x4, x5⟩ := x
  obtain ⟨y1, y2, y3, y4, y5⟩ := y
  refine ⟨x1.tr y1, ?_, y3, fun k h1 h2 => (y4 k h1 h2).trans (x4 k h1 h2), ?_⟩
  · rw [y2, List.length_append, Nat.add_assoc]
  · rw [y5, x5, appT_app]
def voPt (m t : Int32) : Prop := m - t = 0
def voRb (k m t : Int32) : List Int32 := if k = 1 ∨ k = 4 then (if m - t = 0 then [21, 13] else 21 :: 13 :: voHb k) else [13]
def voR (k m t x : Int32) : Int32 := if m - t = 0 then 0 else if k = 1 ∨ k = 4 then x / (m - t) + voH k m t 1 else x / (m - t)
def voB (i : Nat) (k m t : Int32) : List Int32 := match i with
  | 0 => voCb k
  | 1 => voHb k
  | 2 => voLb k
  | _ => voRb k m t
def voV (i : Nat) (k m t x : Int32) : Int32 := match i with
  | 0 => voC k t x
  | 1 => voH k m t x
  | 2 => voL k m t x
  | _ => voR k m t x
def fdB (w : Int64) (k : Nat) : Int32 := (w >>> ((8 * nI k).toInt64 &&& 63) &&& 255).toInt32
def fdR (g : Nat → Int32) (w : Int64) (tp : Nat) : Nat → (Nat → Int32)
  | 0 => g
  | k + 1 => upd (upd (fdR g w tp k) (35 + (tp + k)) (fdB w k)) 7 (nI (tp + k + 1))
theorem fdR_7 {g : Nat → Int32} {w : Int64} {tp : Nat} (h : g 7 = nI tp) : ∀ k, fdR g w tp k 7 = nI (tp + k)
  | 0 => h
  | k + 1 => by
    show upd _ 7 _ 7 = _
    rw [upd_eq, Nat.add_assoc]
theorem rg18 {k : Int32} (c : 1 ≤ k ∧ k ≤ 8) : ∃ j, 1 ≤ j ∧ j ≤ 8 ∧ k = nI j := by
  have h0 : (0 : Int32) ≤ k := Int32.le_trans (by decide) c.1
  obtain ⟨j, hj, rfl⟩ := (inN_le (x := k) (M := 8) (n := 9) (by decide)).mp ⟨h0, c.2⟩
  refine ⟨j, ?_, by omega, rfl⟩
  have h1 : nI 1 ≤ nI j := c.1
  rw [nI_leI (by decide) (by omega)] at h1
  exact h1
end SPEC15
section SPEC15B
theorem trG {h g : sk_M} {n : Nat} {bs : List Int32} {p a b : Int32} (x : trQ (sk_u (sk_u h 54 18 a) 54 19 b) g n bs p) : trQ h g n bs p := by
  obtain ⟨x1, x2, x3, x4, x5⟩ := x
  refine ⟨((sk_o.rf.u (by decide)).u (by decide)).tr x1, x2, x3, fun k h1 h2 => ?_, x5⟩
  rw [x4 k h1 h2, sk_u_at, if_pos rfl, if_neg h2, sk_u_at, if_pos rfl, if_neg h1]
end SPEC15B
