section SPEC23
/-- a row's first k numbers set to v -/
def filN (f : Nat → Int32) (k : Nat) (v : Int32) : Nat → Int32 := fun i => if i < k then v else f i
theorem filN_0 {f : Nat → Int32} {v : Int32} : filN f 0 v = f := by
  funext i
  unfold filN
  rw [if_neg (Nat.not_lt_zero _)]
theorem filN_s {f : Nat → Int32} {k : Nat} {v : Int32} : upd (filN f k v) k v = filN f (k + 1) v := by
  funext i
  unfold filN upd
  by_cases q : i = k
  · rw [if_pos q, if_pos (by omega)]
  · rw [if_neg q]
    show (if i < k then v else f i) = _
    by_cases q2 : i < k
    · rw [if_pos q2, if_pos (by omega)]
    · rw [if_neg q2, if_neg (by omega)]
theorem sk_r_self (h : sk_M) (a : Nat) : sk_r h a (h a) = h := by
  funext i
  unfold sk_r
  split
  · rename_i e; rw [e]
  · rfl
theorem fil_u {h : sk_M} {a k : Nat} {v : Int32} : sk_u (sk_r h a (filN (h a) k v)) a k v = sk_r h a (filN (h a) (k + 1) v) := by
  rw [sk_u, sk_r_eq, sk_r_r, filN_s]
theorem RQ.fil {h : sk_M} {g : Nat → Int32} (H : RQ 1 18 h g) : ∀ k, k ≤ 4 → RQ 1 18 (sk_r h 18 (filN (h 18) k 0)) (soldK g k)
  | 0, _ => by rw [filN_0, sk_r_self, soldK_0]; exact H
  | k + 1, hk => by
    have e := (RQ.fil H k (by omega)).u_so (j := k) (x := 0) (by omega)
    rwa [fil_u, soldK_s] at e
theorem RG.fil {g : Nat → Int32} (H : RG g) : ∀ k, k ≤ 4 → RG (soldK g k)
  | 0, _ => by rw [soldK_0]; exact H
  | k + 1, hk => by
    rw [← soldK_s]
    exact (RG.fil H k (by omega)).u9 (by omega) ⟨0, by omega, rfl⟩
theorem catchG_u4 {g : Nat → Int32} {x f s w dy : Int32} : catchG (upd g 4 x) f s w dy = catchG g f s w dy :=
  catchG_cg (fun k hk => upd_ne (by omega)) (upd_ne (by decide))
theorem sell_RG {g : Nat → Int32} {j : Nat} {n : Int32} (hG : RG g) (hj : j < 4) (hs : inN (g (9 + j) + n) 100) : RG (sellR g j n) := (hG.u4 hel_rg).u9 hj hs
theorem RG.sum {g : Nat → Int32} (hG : RG g) {j : Nat} (hj : j < 4) {n : Nat} (hn : n ≤ 99) (hs : g (9 + j) + nI n ≤ 99) : inN (g (9 + j) + nI n) 100 := by
  obtain ⟨a, ha, e⟩ := hG.so hj
  rw [e, nI_add] at hs ⊢
  have h2 : nI (a + n) ≤ nI 99 := hs
  rw [nI_leI (by omega) (by decide)] at h2
  exact ⟨a + n, by omega, rfl⟩
theorem tr_N {g : Nat → Int32} {x : Int32} : inN (heldV x 0 99) 100 := hel_N (m := 99) (by decide)
theorem talR_RG {g : Nat → Int32} (hG : RG g) (hd : inN (g 0 + 1) 10000) : RG (talR g) := by
  unfold talR
  exact ((((hG.fil 4 (by decide)).u4 (purB_rg hG _)).u5 (hel_N (m := 99999) (by decide))).u6 (hel_N (m := 99) (by decide))).u0 hd
theorem lost_01 {g : Nat → Int32} (hG : RG g) {j : Nat} (hj : j < 6) (h : ¬ g (17 + 3 * j + 2) = 0) : g (17 + 3 * j + 2) = 1 := by
  obtain ⟨k, hk, e⟩ := (hG.bt hj).2.2
  rcases (by omega : k = 0 ∨ k = 1) with rfl | rfl
  · exact absurd e h
  · exact e
theorem purB_0 {g : Nat → Int32} (hG : RG g) {j : Nat} (h : g (17 + 3 * j + 2) = 1) : purB g (j + 1) = purB g j := by
  show heldV (purB g j - _) (-99999) 99999 = _
  rw [if_pos h, Int32.sub_zero, hel_id (purB_rg hG j)]
theorem purB_1 {g : Nat → Int32} {j : Nat} (h : ¬ g (17 + 3 * j + 2) = 1) : purB g (j + 1) = heldV (purB g j - eatsV (g (17 + 3 * j)) (g 0)) (-99999) 99999 := by
  show heldV (purB g j - _) (-99999) 99999 = _
  rw [if_neg h]
end SPEC23
section SPEC23B
theorem owed_lo {g : Nat → Int32} (hG : RG g) : 0 ≤ g 5 + allF g 4 := by
  obtain ⟨a, ha, e⟩ := hG.ow
  obtain ⟨m, hm, e2⟩ := allF_N hG 4 (by decide)
  rw [e, e2, nI_add]
  exact nI_pos' (by omega)
end SPEC23B
