section SPEC26
theorem cpy_0 {f g : Nat → Int32} {w : Nat} : va_cpy f g 0 0 w = fun k => if k < w then f k else g k := by
  funext k
  unfold va_cpy
  by_cases q : k < w
  · rw [if_pos (by omega), if_pos q, Nat.zero_add, Nat.sub_zero]
  · rw [if_neg (by omega), if_neg q]
/-- a text taken: how long, what signs, that it stands -/
def tkM (h : sk_M) (lo co fr w : Nat) (z : Int32) : sk_M := sk_u (sk_r (sk_u h lo 2 (nI w)) co (fun k => if k < w then h fr k else h co k)) lo 3 z
theorem tkM_o {h : sk_M} {lo co fr w : Nat} {z : Int32} : sk_o [lo, co] h (tkM h lo co fr w z) :=
  ((sk_o.rf.u (by simp)).r (by simp)).u (by simp)
theorem tkM_2 {h : sk_M} {lo co fr w : Nat} {z : Int32} (hlc : lo ≠ co) : tkM h lo co fr w z lo 2 = nI w := by
  unfold tkM
  rw [sk_u_at, if_pos rfl, if_neg (by decide), sk_r_ne _ _ hlc, sk_u_at, if_pos rfl, if_pos rfl]
theorem tkM_3 {h : sk_M} {lo co fr w : Nat} {z : Int32} : tkM h lo co fr w z lo 3 = z := by
  unfold tkM
  rw [sk_u_at, if_pos rfl, if_pos rfl]
theorem tkM_c {h : sk_M} {lo co fr w : Nat} {z : Int32} (hlc : lo ≠ co) {k : Nat} (hk : k < w) : tkM h lo co fr w z co k = h fr k := by
  unfold tkM
  rw [sk_u, sk_r_ne _ _ (Ne.symm hlc), sk_r_eq, if_pos hk]
theorem held_60 {x : Int32} : ∃ w, w ≤ 60 ∧ heldV x 0 60 = nI w := by
  obtain ⟨w, hw, e⟩ := hel_N (v := x) (m := 60) (by decide)
  exact ⟨w, by omega, e⟩
theorem held_id {w : Nat} (hw : w ≤ 60) : heldV (nI w) 0 60 = nI w := by
  unfold heldV
  rw [if_neg (nI_pos (by omega)), if_neg (show ¬ (60 : Int32) < nI w from nI_nlt (a := 60) hw (by decide))]
/-- a quay that was taken from another is as the other was -/
theorem RQ.asm {q b q1 b1 : Nat} {h h1 : sk_M} {g : Nat → Int32} (H : RQ q1 b1 h g) (f1 : ∀ i, 6 ≤ i → i < 15 → h1 q i = h q1 i) (f2 : ∀ j, j < 4 → h1 b j = h b1 j) (f3 : ∀ j, j < 4 → h1 (b + 1) j = h (b1 + 1) j)
    (f4 : ∀ k, k < 60 → h1 (b + 4) k = h (b1 + 4) k) (f5 : ∀ k, k < 24 → h1 (b + 5) k = h (b1 + 5) k) (f6 : ∀ j w, j < 6 → w < 3 → h1 (b + 6 + j) w = h (b1 + 6 + j) w) (l0 : lawC h1 (b + 12) (b + 14) g 0) (l1 : lawC h1 (b + 13) (b + 15) g 1) : RQ q b h1 g := by
  refine ⟨fun p hp => ?_, l0, l1⟩
  rw [← H.1 p hp]
  by_cases c1 : p < 9
  · have e : ∀ a c : Nat, clQ a c p = a := fun a c => by unfold clQ; rw [if_pos c1]
    rw [e, e]
    have hx : 6 ≤ ixQ p ∧ ixQ p < 15 := by
      rcases (by omega : p = 0 ∨ p = 1 ∨ p = 2 ∨ p = 3 ∨ p = 4 ∨ p = 5 ∨ p = 6 ∨ p = 7 ∨ p = 8) with rfl | rfl | rfl | rfl | rfl | rfl | rfl | rfl | rfl <;> decide
    exact f1 _ hx.1 hx.2
  · by_cases c2 : p < 13
    · obtain ⟨j, rfl⟩ : ∃ j, p = 9 + j := ⟨p - 9, by omega⟩
      rw [(clQ_so (q := q) (b := b) (show j < 4 by omega)).1, (clQ_so (q := q1) (b := b1) (show j < 4 by omega)).1, (clQ_so (q := q1) (b := b1) (show j < 4 by omega)).2]
      exact f2 j (by omega)
    · by_cases c3 : p < 17
      · obtain ⟨j, rfl⟩ : ∃ j, p = 13 + j := ⟨p - 13, by omega⟩
        rw [(clQ_as (q := q) (b := b) (show j < 4 by omega)).1, (clQ_as (q := q1) (b := b1) (show j < 4 by omega)).1, (clQ_as (q := q1) (b := b1) (show j < 4 by omega)).2]
        exact f3 j (by omega)
      · by_cases c4 : p < 35
        · obtain ⟨j, w, hj, hw, rfl⟩ : ∃ j w, j < 6 ∧ w < 3 ∧ p = 17 + 3 * j + w := ⟨(p - 17) / 3, (p - 17) % 3, by omega, by omega, by omega⟩
          rw [(clQ_bt (q := q) (b := b) hj hw).1, (clQ_bt (q := q1) (b := b1) hj hw).1, (clQ_bt (q := q1) (b := b1) hj hw).2]
          exact f6 j w hj hw
        · by_cases c5 : p < 95
          · obtain ⟨k, rfl⟩ : ∃ k, p = 35 + k := ⟨p - 35, by omega⟩
            rw [(clQ_tp (q := q) (b := b) (show k < 60 by omega)).1, (clQ_tp (q := q1) (b := b1) (show k < 60 by omega)).1, (clQ_tp (q := q1) (b := b1) (show k < 60 by omega)).2]
            exact f4 k (by omega)
          · obtain ⟨k, rfl⟩ : ∃ k, p = 95 + k := ⟨p - 95, by omega⟩
            rw [(clQ_wg (q := q) (b := b) (show k < 24 by omega)).1, (clQ_wg (q := q1) (b := b1) (show k < 24 by omega)).1, (clQ_wg (q := q1) (b := b1) (show k < 24 by omega)).2]
            exact f5 k (by omega)
end SPEC26
