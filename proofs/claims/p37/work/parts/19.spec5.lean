section SPEC5
/-- a number among the first n -/
def inN (x : Int32) (n : Nat) : Prop := ∃ j : Nat, j < n ∧ x = nI j
theorem inN_lt {x M : Int32} {n : Nat} (hM : M.toInt = (n : Int)) : (0 ≤ x ∧ x < M) ↔ inN x n := by
  have hb : M.toInt < 2147483648 := Int32.toInt_lt M
  constructor
  · rintro ⟨h1, h2⟩
    rw [Int32.le_iff_toInt_le] at h1
    rw [Int32.lt_iff_toInt_lt] at h2
    have h1' : 0 ≤ x.toInt := h1
    refine ⟨x.toInt.toNat, by omega, ?_⟩
    apply Int32.toInt_inj.mp
    rw [nI_toInt (by omega)]
    omega
  · rintro ⟨j, hj, rfl⟩
    refine ⟨nI_pos' (by omega), ?_⟩
    rw [Int32.lt_iff_toInt_lt, nI_toInt (by omega)]
    omega
theorem inN_le {x M : Int32} {n : Nat} (hM : M.toInt + 1 = (n : Int)) : (0 ≤ x ∧ x ≤ M) ↔ inN x n := by
  have hb : M.toInt < 2147483648 := Int32.toInt_lt M
  constructor
  · rintro ⟨h1, h2⟩
    rw [Int32.le_iff_toInt_le] at h1 h2
    have h1' : 0 ≤ x.toInt := h1
    refine ⟨x.toInt.toNat, by omega, ?_⟩
    apply Int32.toInt_inj.mp
    rw [nI_toInt (by omega)]
    omega
  · rintro ⟨j, hj, rfl⟩
    refine ⟨nI_pos' (by omega), ?_⟩
    rw [Int32.le_iff_toInt_le, nI_toInt (by omega)]
    omega
theorem inN_pred {x : Int32} {n : Nat} (hn : n < 1000000) : (0 ≤ x ∧ x ≤ nI n - 1) ↔ inN x n := by
  cases n with
  | zero =>
    constructor
    · rintro ⟨h1, h2⟩
      rw [Int32.le_iff_toInt_le] at h1 h2
      have h1' : 0 ≤ x.toInt := h1
      have h2' : x.toInt ≤ -1 := h2
      omega
    · rintro ⟨j, hj, -⟩
      exact absurd hj (Nat.not_lt_zero _)
  | succ m =>
    rw [nI_pred]
    exact inN_le (by rw [nI_toInt (by omega)]; rfl)
/-- the errors, by number -/
def erI (k : Nat) : Int32 := match k with
  | 1 => -1000000001
  | 2 => -1000000002
  | 3 => -1000000003
  | 4 => -1000000004
  | 5 => -1000000005
  | _ => -1000000006
def erM (h : sk_M) (k : Nat) (h1 : sk_M) (r : Option Value) : Prop := sk_u h 57 k (h 57 k + 1) = h1 ∧ some (.int (erI k)) = r
theorem landsG_cg {g g1 : Nat → Int32} (e : ∀ k, 17 ≤ k → g1 k = g k) {j : Nat} {f s sea day : Int32} : landsG g1 j f s sea day = landsG g j f s sea day := by
  have a1 : laA g1 0 = laA g 0 := funext fun k => e _ (by omega)
  have a2 : laB g1 0 = laB g 0 := funext fun k => e _ (by omega)
  have a3 : laN g1 0 = laN g 0 := by unfold laN; rw [e _ (by omega)]
  unfold landsG gvV lawV
  rw [a1, a2, a3, e _ (by omega), e _ (by omega), e _ (by omega)]
theorem sumN_cg {f g : Nat → Int32} : ∀ n, (∀ k, k < n → f k = g k) → sumN f n = sumN g n
  | 0, _ => rfl
  | n + 1, h => by
    show sumN f n + f n = sumN g n + g n
    rw [sumN_cg n (fun k hk => h k (by omega)), h n (by omega)]
theorem catchG_cg {g g1 : Nat → Int32} (e : ∀ k, 17 ≤ k → g1 k = g k) (e2 : g1 2 = g 2) {f s sea day : Int32} : catchG g1 f s sea day = catchG g f s sea day := by
  unfold catchG boN
  rw [e2]
  exact sumN_cg _ (fun k _ => landsG_cg e)
theorem shortG_cg {g g1 : Nat → Int32} (e : ∀ k, 17 ≤ k → g1 k = g k) (e2 : g1 2 = g 2) (e3 : g1 3 = g 3) (e0 : g1 0 = g 0) {f s : Int32} : shortG g1 f s = shortG g f s := by
  unfold shortG
  rw [catchG_cg e e2, e3, e0]
theorem lawI_cg {g g1 : Nat → Int32} (e : ∀ k, 119 ≤ k → g1 k = g k) {u : Nat} (h : lawI g u) : lawI g1 u := by
  have a1 : laA g1 u = laA g u := funext fun k => e _ (by omega)
  have a2 : laB g1 u = laB g u := funext fun k => e _ (by omega)
  have a3 : laN g1 u = laN g u := by unfold laN; rw [e _ (by omega)]
  unfold lawI
  rw [a1, a2, a3, e _ (by omega)]
  exact h
theorem boI_cg {g g1 : Nat → Int32} (e : g1 2 = g 2) (h : boI g) : boI g1 := by
  unfold boI boN at *
  rw [e]
  exact h
theorem upd_ne {f : Nat → Int32} {k i : Nat} {x : Int32} (n : i ≠ k) : upd f k x i = f i := if_neg n
theorem upd_eq {f : Nat → Int32} {k : Nat} {x : Int32} : upd f k x k = x := if_pos rfl
/-- a sale -/
def sellR (g : Nat → Int32) (j : Nat) (n : Int32) : Nat → Int32 := upd (upd g 4 (heldV (g 4 + n * coinsG g j (g (9 + j))) (-99999) 99999)) (9 + j) (g (9 + j) + n)
theorem sk_r_r (h : sk_M) (k : Nat) (f g : Nat → Int32) : sk_r (sk_r h k f) k g = sk_r h k g := by
  funext a
  unfold sk_r
  split <;> rfl
end SPEC5
section SPEC5B
theorem rg16 {k : Int32} (c : 1 ≤ k ∧ k ≤ 6) : ∃ j, 1 ≤ j ∧ j ≤ 6 ∧ k = nI j := by
  have h0 : (0 : Int32) ≤ k := Int32.le_trans (by decide) c.1
  obtain ⟨j, hj, rfl⟩ := (inN_le (x := k) (M := 6) (n := 7) (by decide)).mp ⟨h0, c.2⟩
  refine ⟨j, ?_, by omega, rfl⟩
  have h1 : nI 1 ≤ nI j := c.1
  rw [nI_leI (by decide) (by omega)] at h1
  exact h1
end SPEC5B
