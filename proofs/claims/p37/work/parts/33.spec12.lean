section SPEC12
noncomputable def mvK (h : sk_M) (s i o j n : Int32) : Nat :=
  @ite _ (inN s 4 ∧ inN o 4) (Classical.propDecidable _) (if h 58 s.toNatClampNeg = 0 ∨ h 58 o.toNatClampNeg = 0 then 2 else if ¬ h 58 s.toNatClampNeg = h 58 o.toNatClampNeg then 5 else
    @ite _ (∃ a b q : Nat, i = nI a ∧ j = nI b ∧ n = nI q ∧ a + q ≤ shN h s.toNatClampNeg ∧ b + q ≤ shN h o.toNatClampNeg) (Classical.propDecidable _) 0 1) 1
theorem mvK_le (h : sk_M) (s i o j n : Int32) : mvK h s i o j n ≤ 5 := by
  unfold mvK
  split
  · split
    · omega
    · split
      · omega
      · split <;> omega
  · omega
theorem mvK_no {h : sk_M} {s i o j n : Int32} (q : ¬ (inN s 4 ∧ inN o 4)) : mvK h s i o j n = 1 := if_neg q
theorem mvK_in {h : sk_M} {a b : Nat} {i j n : Int32} (ha : a < 4) (hb : b < 4) : mvK h (nI a) i (nI b) j n = if h 58 a = 0 ∨ h 58 b = 0 then 2 else if ¬ h 58 a = h 58 b then 5 else
    @ite _ (∃ x y q : Nat, i = nI x ∧ j = nI y ∧ n = nI q ∧ x + q ≤ shN h a ∧ y + q ≤ shN h b) (Classical.propDecidable _) 0 1 := by
  unfold mvK
  rw [if_pos ⟨⟨a, ha, rfl⟩, ⟨b, hb, rfl⟩⟩, nI_clamp (by omega), nI_clamp (by omega)]
/-- n numbers from i on stand in a row of len -/
theorem sub_toInt {a b : Nat} (ha : a < 2147483648) (hb : b < 2147483648) : (nI a - nI b).toInt = (a : Int) - (b : Int) := by
  rw [Int32.toInt_sub, nI_toInt ha, nI_toInt hb]
  exact Int.bmod_eq_of_le (by omega) (by omega)
theorem mv_fit {i n : Int32} {len : Nat} (hl : len ≤ 24) (h1 : ¬ n < 0) (h2 : ¬ i < 0) (h3 : ¬ nI len - i < n) : ∃ a q : Nat, i = nI a ∧ n = nI q ∧ a + q ≤ len := by
  obtain ⟨a, ha, rfl⟩ := nI_of h2
  obtain ⟨q, hq, rfl⟩ := nI_of h1
  refine ⟨a, q, rfl, rfl, ?_⟩
  rw [Int32.not_lt, Int32.le_iff_toInt_le, sub_toInt (by omega) ha, nI_toInt hq] at h3
  omega
theorem mv_no {a q len : Nat} (hl : len ≤ 24) (h : a + q ≤ len) : ¬ nI q < 0 ∧ ¬ nI a < 0 ∧ ¬ nI len - nI a < nI q := by
  refine ⟨nI_pos (by omega), nI_pos (by omega), ?_⟩
  rw [nI_sub (by omega)]
  exact nI_nlt (by omega) (by omega)
theorem nI_inj {a b : Nat} (ha : a < 2147483648) (hb : b < 2147483648) (h : nI a = nI b) : a = b := (nI_eq ha hb).mp h
end SPEC12
section SPEC12B
theorem rgN_le (g c : Nat → Int32) (len : Nat) (sea : Int32) : rgN g c len sea ≤ 4 := soF_le _ 4 0
end SPEC12B
