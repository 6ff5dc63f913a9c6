section SPEC31
theorem rf_laws {j : Nat} (hj : j < 2) : sk_rf [some 30, some 31] j = some (30 + j) := by
  rcases (by omega : j = 0 ∨ j = 1) with rfl | rfl <;> rfl
theorem se_lw {j : Nat} (hj : j < 2) : sk_e (30 + j) = (1, 1, 4, [some (32 + j), some (34 + j)]) := by
  rcases (by omega : j = 0 ∨ j = 1) with rfl | rfl <;> rfl
theorem se_lc {j : Nat} (hj : j < 2) : sk_e (32 + j) = (0, 0, 60, []) := by
  rcases (by omega : j = 0 ∨ j = 1) with rfl | rfl <;> rfl
theorem se_lq {j : Nat} (hj : j < 2) : sk_e (34 + j) = (0, 0, 60, []) := by
  rcases (by omega : j = 0 ∨ j = 1) with rfl | rfl <;> rfl
theorem RQ.lw {h : sk_M} {g : Nat → Int32} (H : RQ 1 18 h g) {j : Nat} (hj : j < 2) : lawC h (30 + j) (32 + j) g j := by
  rcases (by omega : j = 0 ∨ j = 1) with rfl | rfl
  · exact H.2.1
  · exact H.2.2
theorem RG.i {g : Nat → Int32} (H : RG g) {j : Nat} (hj : j < 2) : lawI g j := by
  rcases (by omega : j = 0 ∨ j = 1) with rfl | rfl
  · exact H.i0
  · exact H.i1
theorem RG.s {g : Nat → Int32} (H : RG g) {j : Nat} (hj : j < 2) : lawS g j := by
  rcases (by omega : j = 0 ∨ j = 1) with rfl | rfl
  · exact H.s0
  · exact H.s1
theorem depN_cg {A B : Nat → Int32} : ∀ k, (∀ i, i < k → A i = B i) → depN A k = depN B k
  | 0, _ => rfl
  | k + 1, h => by
    have ih := depN_cg k (fun i hi => h i (by omega))
    unfold depN
    rw [h k (by omega), ih]
theorem lawW_cg {n : Nat} {A B A1 B1 : Nat → Int32} (ha : ∀ k, k < n → A1 k = A k) (hb : ∀ k, k < n → B1 k = B k) (H : lawW n A B) : lawW n A1 B1 := by
  obtain ⟨h1, h2, h3⟩ := H
  refine ⟨h1, fun k hk => ?_, fun h0 => ?_⟩
  · rw [ha k hk, hb k hk, depN_cg k (fun i hi => ha i (by omega))]
    exact h2 k hk
  · rw [depN_cg n ha]
    exact h3 h0
section
variable {g g1 : Nat → Int32} {u : Nat}
theorem laN_cu (e : ∀ p, 119 + 121 * u ≤ p → p < 240 + 121 * u → g1 p = g p) : laN g1 u = laN g u := by
  unfold laN; rw [e _ (by omega) (by omega)]
theorem lawI_cu (e : ∀ p, 119 + 121 * u ≤ p → p < 240 + 121 * u → g1 p = g p) (H : lawI g u) : lawI g1 u := by
  have h6 := laN_lt H
  unfold lawI
  rw [laN_cu e, e _ (by omega) (by omega)]
  exact ⟨H.1, lawW_cg (fun k hk => e _ (by omega) (by omega)) (fun k hk => e _ (by omega) (by omega)) H.2⟩
theorem lawS_cu (hl : laN g u ≤ 60) (e : ∀ p, 119 + 121 * u ≤ p → p < 240 + 121 * u → g1 p = g p) (H : lawS g u) : lawS g1 u := by
  unfold lawS at *
  rw [laN_cu e]
  intro k hk
  have e1 : laA g1 u k = laA g u k := e _ (by omega) (by omega)
  have e2 : laB g1 u k = laB g u k := e _ (by omega) (by omega)
  rw [e1, e2]
  exact H k hk
theorem lawC_cu {h : sk_M} {lo co : Nat} (hl : laN g u ≤ 60) (e : ∀ p, 119 + 121 * u ≤ p → p < 240 + 121 * u → g1 p = g p) (H : lawC h lo co g u) : lawC h lo co g1 u := by
  unfold lawC at *
  rw [laN_cu e]
  refine ⟨H.1, H.2.1, fun k hk => ?_⟩
  have e1 : laA g1 u k = laA g u k := e _ (by omega) (by omega)
  have e2 : laB g1 u k = laB g u k := e _ (by omega) (by omega)
  rw [e1, e2]
  exact H.2.2 k hk
theorem RG.lw (H : RG g) (e : ∀ p, p < 119 → g1 p = g p) (i0 : lawI g1 0) (i1 : lawI g1 1) (s0 : lawS g1 0) (s1 : lawS g1 1) : RG g1 := by
  refine ⟨⟨boI_cg (e 2 (by decide)) H.b, i0, i1, s0, s1⟩, ⟨?_, ?_, ?_⟩, fun j hj => ?_, fun j hj => ?_, fun j hj => ?_, ?_, ?_, ?_, ?_⟩
  · rw [e 7 (by decide)]; exact H.tp
  · rw [e 8 (by decide)]; exact H.wt
  · rw [e 0 (by decide)]; exact H.da
  · rw [e _ (by omega)]; exact H.so hj
  · rw [e _ (by omega)]; exact H.ak hj
  · rw [e _ (by omega), e _ (by omega), e _ (by omega)]; exact H.bt hj
  · rw [e 3 (by decide)]; exact H.wa
  · rw [e 4 (by decide)]; exact H.pu
  · rw [e 5 (by decide)]; exact H.ow
  · rw [e 6 (by decide)]; exact H.tr
end
theorem untellF_G {g : Nat → Int32} {x : Int32} (H : RG g) : RG (untellF g x).1 := by
  refine cif_P (fun z : aF => RG z.1) (fun c => ?_) (fun _ => H)
  obtain ⟨j, hj, rfl⟩ := c
  rw [clN (by omega)]
  have hz : laN (upd g (119 + 121 * j) 0) j = 0 := by unfold laN; rw [upd_eq]; rfl
  have hij : ∀ u, u < 2 → lawI (upd g (119 + 121 * j) 0) u ∧ lawS (upd g (119 + 121 * j) 0) u := by
    intro u hu
    by_cases q : u = j
    · subst q
      refine ⟨⟨?_, ?_⟩, fun k hk => ?_⟩
      · rw [hz, upd_eq]; rfl
      · rw [hz]; exact ⟨by decide, fun k hk => absurd hk (Nat.not_lt_zero _), fun z => absurd z (Nat.lt_irrefl _)⟩
      · rw [hz] at hk; exact absurd hk (Nat.not_lt_zero _)
    · have e : ∀ p, 119 + 121 * u ≤ p → p < 240 + 121 * u → upd g (119 + 121 * j) 0 p = g p := fun p h1 h2 => upd_ne (by omega)
      exact ⟨lawI_cu e (H.i hu), lawS_cu (laN_lt (H.i hu)) e (H.s hu)⟩
  exact H.lw (fun p hp => upd_ne (by omega)) (hij 0 (by decide)).1 (hij 1 (by decide)).1 (hij 0 (by decide)).2 (hij 1 (by decide)).2
/-- texts that were read can be worked out -/
def okQ (d : Nat) (q : Int32 × Int32) : Prop := (q.1 = 1 ∧ 0 ≤ q.2) ∨ (q.1 = 2 ∧ (q.2 = 0 ∨ q.2 = 1 ∨ q.2 = 2)) ∨ (q.1 = 3 ∧ 1 ≤ d) ∨ (q.1 ∈ sgL ∧ 2 ≤ d)
def stQ (d : Nat) (q : Int32 × Int32) : Nat := if q.1 = 1 then d + 1 else if q.1 = 2 then d + 1 else if q.1 = 3 then d else d - 1
def okL : Nat → psO → Prop
  | _, [] => True
  | d, q :: l => okQ d q ∧ okL (stQ d q) l
def dpL : Nat → psO → Nat
  | d, [] => d
  | d, q :: l => dpL (stQ d q) l
theorem okL_app : ∀ (a b : psO) (d : Nat), okL d a → okL (dpL d a) b → okL d (a ++ b)
  | [], b, d, _, h => h
  | q :: a, b, d, h1, h2 => ⟨h1.1, okL_app a b (stQ d q) h1.2 h2⟩
theorem dpL_app : ∀ (a b : psO) (d : Nat), dpL d (a ++ b) = dpL (dpL d a) b
  | [], b, d => rfl
  | q :: a, b, d => dpL_app a b (stQ d q)
def okX (x : psT) (o : psO) : Prop := x.1 = true → ∃ l, x.2.2 = o ++ l ∧ ∀ d, okL d l ∧ dpL d l = d + 1
theorem sg_lv {b : Int32} (h : lvP b < 5) : b ∈ sgL := by
  unfold lvP at h
  have e : ∀ c : Int32, c ∈ sgL → b = c → b ∈ sgL := fun c hc q => q ▸ hc
  by_cases h1 : b = 124
  · exact e 124 (by decide) h1
  · by_cases h2 : b = 38
    · exact e 38 (by decide) h2
    · by_cases h3 : b = 60 ∨ b = 61 ∨ b = 62
      · rcases h3 with q | q | q <;> exact e _ (by decide) q
      · by_cases h4 : b = 43 ∨ b = 45
        · rcases h4 with q | q <;> exact e _ (by decide) q
        · by_cases h5 : b = 42 ∨ b = 47 ∨ b = 37
          · rcases h5 with q | q | q <;> exact e _ (by decide) q
          · rw [if_neg h1, if_neg h2, if_neg h3, if_neg h4, if_neg h5] at h
            exact absurd h (by decide)
theorem sg_st {b : Int32} {d : Nat} (h : b ∈ sgL) : stQ d (b, 0) = d - 1 := by
  obtain ⟨a1, a2, a3, -⟩ := sg_no h
  unfold stQ
  rw [if_neg a1, if_neg a2, if_neg a3]
theorem lpP_ok {f : Nat → psO → psT} {T : Nat → Int32} {lev : Nat} (hlev : lev < 5) (hf : ∀ p o, okX (f p o) o) : ∀ c p o, (lpP f T lev c p o).1 = true → ∃ l, (lpP f T lev c p o).2.2 = o ++ l ∧ ∀ d, okL (d + 1) l ∧ dpL (d + 1) l = d + 1
  | 0, p, o, _ => ⟨[], (List.append_nil o).symm, fun d => ⟨True.intro, rfl⟩⟩
  | c + 1, p, o, h => by
    unfold lpP at h ⊢
    by_cases q : lvP (T p) = lev
    · rw [if_pos q] at h ⊢
      by_cases q2 : (f (p + 1) o).1 = true
      · rw [if_pos q2] at h ⊢
        obtain ⟨l1, e1, k1⟩ := hf (p + 1) o q2
        obtain ⟨l2, e2, k2⟩ := lpP_ok hlev hf c _ _ h
        have hs : T p ∈ sgL := sg_lv (by omega)
        refine ⟨l1 ++ ([(T p, 0)] ++ l2), by rw [e2, e1, List.append_assoc, List.append_assoc], fun d => ?_⟩
        obtain ⟨k3, k4⟩ := k1 (d + 1)
        obtain ⟨k5, k6⟩ := k2 d
        have hst : stQ (d + 2) (T p, 0) = d + 1 := sg_st hs
        refine ⟨okL_app _ _ _ k3 ?_, ?_⟩
        · rw [k4]
          exact ⟨Or.inr (Or.inr (Or.inr ⟨hs, by omega⟩)), by rw [hst]; exact k5⟩
        · rw [dpL_app, k4]
          show dpL (stQ (d + 2) (T p, 0)) l2 = d + 1
          rw [hst]
          exact k6
      · rw [if_neg q2] at h
        exact absurd h q2
    · rw [if_neg q]
      exact ⟨[], (List.append_nil o).symm, fun d => ⟨True.intro, rfl⟩⟩
theorem nuL_pos {T : Nat → Int32} : ∀ c p a, (a + 1) * 10 ^ c ≤ 1000000000 → ∃ b, b ≤ 1000000000 ∧ (nuL T c p (nI a)).2 = nI b
  | 0, p, a, h => ⟨a, by omega, rfl⟩
  | c + 1, p, a, h => by
    by_cases q : 48 ≤ T p ∧ T p ≤ 57
    · rw [nuL_1 q]
      obtain ⟨k, hk, e⟩ : ∃ k, k < 10 ∧ T p = nI (48 + k) := by
        obtain ⟨m, hm, e⟩ := (inN_le (x := T p) (M := 57) (n := 58) (by decide)).mp ⟨Int32.le_trans (by decide) q.1, q.2⟩
        have h1 := q.1
        rw [e] at h1
        have h2 : nI 48 ≤ nI m := h1
        rw [nI_leI (by decide) (by omega)] at h2
        exact ⟨m - 48, by omega, by rw [e]; congr 1; omega⟩
      have hp : 10 ^ (c + 1) = 10 * 10 ^ c := by rw [Nat.pow_succ, Nat.mul_comm]
      have h10 : 0 < 10 ^ c := Nat.pow_pos (by decide)
      have h3 : (10 * a + k + 1) * 10 ^ c ≤ 1000000000 := by
        refine Nat.le_trans ?_ h
        rw [hp, ← Nat.mul_assoc]
        exact Nat.mul_le_mul_right _ (by omega)
      have h4 : 10 * a + k + 1 ≤ 1000000000 := Nat.le_trans (Nat.le_mul_of_pos_right _ h10) h3
      have e2 : 10 * nI a + T p - 48 = nI (10 * a + k) := by
        rw [e]
        show nI 10 * nI a + nI (48 + k) - nI 48 = _
        rw [nI_mul, nI_add, nI_sub (by omega)]
        congr 1
        omega
      rw [e2]
      exact nuL_pos c (p + 1) (10 * a + k) h3
    · rw [nuL_0 q]
      have h10 : 0 < 10 ^ (c + 1) := Nat.pow_pos (by decide)
      exact ⟨a, by have := Nat.le_trans (Nat.le_mul_of_pos_right (a + 1) h10) h; omega, rfl⟩
theorem pP_ok {T : Nat → Int32} {u : Nat} : ∀ n lev op p o, okX (pP T u n lev op p o) o
  | 0, lev, op, p, o => fun h => absurd h (by unfold pP; exact Bool.false_ne_true)
  | n + 1, lev, op, p, o => by
    have ih := pP_ok (T := T) (u := u) n
    intro h
    unfold pP at h ⊢
    by_cases q : 5 ≤ lev
    · rw [if_pos q] at h ⊢
      unfold itP at h ⊢
      by_cases q1 : 0 ≤ nmI u (T p)
      · rw [if_pos q1]
        refine ⟨[(2, nmI u (T p))], rfl, fun d => ⟨⟨Or.inr (Or.inl ⟨rfl, ?_⟩), True.intro⟩, rfl⟩⟩
        rcases nmI_rg (u := u) (b := T p) with e | e | e | e
        · rw [e] at q1; exact absurd q1 (by decide)
        · exact Or.inl e
        · exact Or.inr (Or.inl e)
        · exact Or.inr (Or.inr e)
      · rw [if_neg q1] at h ⊢
        by_cases q2 : T p = 33
        · rw [if_pos q2] at h ⊢
          by_cases q3 : op = 5
          · rw [if_pos q3] at h; exact absurd h Bool.false_ne_true
          · rw [if_neg q3] at h ⊢
            by_cases q4 : (pP T u n 5 (op + 1) (p + 1) o).1 = true
            · rw [if_pos q4]
              obtain ⟨l, e, k⟩ := ih 5 (op + 1) (p + 1) o q4
              refine ⟨l ++ [(3, 0)], ?_, fun d => ?_⟩
              · show (pP T u n 5 (op + 1) (p + 1) o).2.2 ++ [(3, 0)] = _
                rw [e, List.append_assoc]
              · obtain ⟨k1, k2⟩ := k d
                refine ⟨okL_app _ _ _ k1 ?_, ?_⟩
                · rw [k2]
                  exact ⟨Or.inr (Or.inr (Or.inl ⟨rfl, by omega⟩)), True.intro⟩
                · rw [dpL_app, k2]; rfl
            · rw [if_neg q4] at h; exact absurd h q4
        · rw [if_neg q2] at h ⊢
          by_cases q5 : T p = 40
          · rw [if_pos q5] at h ⊢
            by_cases q3 : op = 5
            · rw [if_pos q3] at h; exact absurd h Bool.false_ne_true
            · rw [if_neg q3] at h ⊢
              by_cases q4 : (pP T u n 0 (op + 1) (p + 1) o).1 = true
              · rw [if_pos q4] at h ⊢
                by_cases q6 : T (pP T u n 0 (op + 1) (p + 1) o).2.1 = 41
                · rw [if_pos q6]
                  exact ih 0 (op + 1) (p + 1) o q4
                · rw [if_neg q6] at h; exact absurd h Bool.false_ne_true
              · rw [if_neg q4] at h; exact absurd h q4
          · rw [if_neg q5] at h ⊢
            by_cases q6 : (nuL T 4 p 0).1 = p
            · rw [if_pos q6] at h; exact absurd h Bool.false_ne_true
            · rw [if_neg q6]
              obtain ⟨b, hb, e⟩ := nuL_pos (T := T) 4 p 0 (by decide)
              refine ⟨[(1, (nuL T 4 p 0).2)], rfl, fun d => ⟨⟨Or.inl ⟨rfl, ?_⟩, True.intro⟩, rfl⟩⟩
              show 0 ≤ (nuL T 4 p (nI 0)).2
              rw [e]
              exact nI_pos' (by omega)
    · rw [if_neg q] at h ⊢
      by_cases q1 : (pP T u n (lev + 1) op p o).1 = true
      · rw [if_pos q1] at h ⊢
        obtain ⟨l1, e1, k1⟩ := ih (lev + 1) op p o q1
        obtain ⟨l2, e2, k2⟩ := lpP_ok (by omega) (fun p o => ih (lev + 1) op p o) _ _ _ h
        refine ⟨l1 ++ l2, by rw [e2, e1, List.append_assoc], fun d => ?_⟩
        obtain ⟨k3, k4⟩ := k1 d
        obtain ⟨k5, k6⟩ := k2 d
        exact ⟨okL_app _ _ _ k3 (by rw [k4]; exact k5), by rw [dpL_app, k4]; exact k6⟩
      · rw [if_neg q1] at h; exact absurd h q1
end SPEC31
