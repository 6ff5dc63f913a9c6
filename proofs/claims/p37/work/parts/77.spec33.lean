section SPEC33
theorem bv_255 {i : Nat} (hi : i < 32) (h : ¬ i < 8) : (255#32)[i] = false := by
  have h2 : (255 : Nat) < 2 ^ i := Nat.lt_of_lt_of_le (show 255 < 2 ^ 8 by decide) (Nat.pow_le_pow_right (by decide) (by omega))
  rw [← BitVec.getLsbD_eq_getElem hi]
  show (BitVec.ofNat 32 255).getLsbD i = false
  rw [BitVec.getLsbD_ofNat]
  rw [Nat.testBit_lt_two_pow h2]
  simp
theorem bv_sx (n : Nat) (hn : n ≤ 56) (W : BitVec 64) : BitVec.signExtend 32 (W >>> n) &&& 255#32 = BitVec.signExtend 32 (W.sshiftRight n) &&& 255#32 := by
  apply BitVec.eq_of_getElem_eq
  intro i hi
  rw [BitVec.getElem_and, BitVec.getElem_and]
  by_cases h : i < 8
  · congr 1
    rw [BitVec.getElem_signExtend, BitVec.getElem_signExtend, dif_pos (by omega), dif_pos (by omega)]
    rw [BitVec.getElem_ushiftRight, BitVec.getElem_sshiftRight]
    rw [dif_pos (by omega)]
    exact BitVec.getLsbD_eq_getElem (by omega)
  · rw [bv_255 hi h, Bool.and_false, Bool.and_false]
theorem fd_eq (w : Int64) {k : Nat} (hk : k < 8) : (((w.toUInt64 >>> ((8 * nI k).toInt64.toUInt64 &&& Int64.toUInt64 63)).toInt64).toInt32 &&& 255) = fdB w k := by
  unfold fdB
  apply Int32.toBitVec_inj.mp
  rcases (by omega : k = 0 ∨ k = 1 ∨ k = 2 ∨ k = 3 ∨ k = 4 ∨ k = 5 ∨ k = 6 ∨ k = 7) with rfl | rfl | rfl | rfl | rfl | rfl | rfl | rfl
  · rw [show ((8 * nI 0).toInt64.toUInt64 &&& Int64.toUInt64 63) = 0 by decide, show ((8 * nI 0).toInt64 &&& 63) = 0 by decide]
    simp
  · rw [show ((8 * nI 1).toInt64.toUInt64 &&& Int64.toUInt64 63) = 8 by decide, show ((8 * nI 1).toInt64 &&& 63) = 8 by decide]
    simpa using bv_sx 8 (by decide) w.toBitVec
  · rw [show ((8 * nI 2).toInt64.toUInt64 &&& Int64.toUInt64 63) = 16 by decide, show ((8 * nI 2).toInt64 &&& 63) = 16 by decide]
    simpa using bv_sx 16 (by decide) w.toBitVec
  · rw [show ((8 * nI 3).toInt64.toUInt64 &&& Int64.toUInt64 63) = 24 by decide, show ((8 * nI 3).toInt64 &&& 63) = 24 by decide]
    simpa using bv_sx 24 (by decide) w.toBitVec
  · rw [show ((8 * nI 4).toInt64.toUInt64 &&& Int64.toUInt64 63) = 32 by decide, show ((8 * nI 4).toInt64 &&& 63) = 32 by decide]
    simpa using bv_sx 32 (by decide) w.toBitVec
  · rw [show ((8 * nI 5).toInt64.toUInt64 &&& Int64.toUInt64 63) = 40 by decide, show ((8 * nI 5).toInt64 &&& 63) = 40 by decide]
    simpa using bv_sx 40 (by decide) w.toBitVec
  · rw [show ((8 * nI 6).toInt64.toUInt64 &&& Int64.toUInt64 63) = 48 by decide, show ((8 * nI 6).toInt64 &&& 63) = 48 by decide]
    simpa using bv_sx 48 (by decide) w.toBitVec
  · rw [show ((8 * nI 7).toInt64.toUInt64 &&& Int64.toUInt64 63) = 56 by decide, show ((8 * nI 7).toInt64 &&& 63) = 56 by decide]
    simpa using bv_sx 56 (by decide) w.toBitVec
end SPEC33
section SPEC33B
/-- the lowest bits, with a sign and without -/
theorem and_I (v : Int32) (n : Nat) (hn : n < 31) (m : Int32) (hm : m.toBitVec = BitVec.ofNat 32 (2 ^ n - 1)) : (v &&& m).toInt = ((v.toBitVec.toNat % 2 ^ n : Nat) : Int) := by
  have h1 : (v &&& m).toBitVec.toNat = v.toBitVec.toNat % 2 ^ n := by
    rw [Int32.toBitVec_and, hm, BitVec.toNat_and, BitVec.toNat_ofNat, Nat.mod_eq_of_lt (a := 2 ^ n - 1), Nat.and_two_pow_sub_one_eq_mod]
    have := Nat.pow_lt_pow_right (a := 2) (by decide) (show n < 32 by omega)
    omega
  have h2 : v.toBitVec.toNat % 2 ^ n < 2 ^ 31 := Nat.lt_of_lt_of_le (Nat.mod_lt _ (Nat.pow_pos (by decide))) (Nat.pow_le_pow_right (by decide) (by omega))
  show (v &&& m).toBitVec.toInt = _
  rw [BitVec.toInt_eq_toNat_of_lt (by rw [h1]; omega), h1]
theorem lo8 (v : Int32) : (0 ≤ v &&& 255 ∧ v &&& 255 ≤ 9) ↔ (0 ≤ v.toInt8.toInt32 ∧ v.toInt8.toInt32 ≤ 9) := by
  have e1 := and_I v 8 (by decide) 255 (by decide)
  have e2 : (v.toInt8.toInt32).toInt = Int.bmod v.toInt (2 ^ 8) := by
    rw [Int8.toInt_toInt32, Int32.toInt_toInt8]
  have e3 : v.toInt = Int.bmod (v.toBitVec.toNat : Int) (2 ^ 32) := by
    show v.toBitVec.toInt = _
    rw [BitVec.toInt_eq_toNat_bmod]
  simp only [Int32.le_iff_toInt_le]
  rw [e1, e2, e3]
  have z0 : (0 : Int32).toInt = 0 := rfl
  have z9 : (9 : Int32).toInt = 9 := rfl
  rw [z0, z9]
  have hb := v.toBitVec.isLt
  generalize v.toBitVec.toNat = n at *
  rw [Int.bmod_bmod_of_dvd (by decide)]
  simp only [Int.bmod_def]
  omega
theorem lo16 (v : Int32) : (0 ≤ v &&& 65535 ∧ v &&& 65535 ≤ 9) ↔ (0 ≤ v.toInt16.toInt32 ∧ v.toInt16.toInt32 ≤ 9) := by
  have e1 := and_I v 16 (by decide) 65535 (by decide)
  have e2 : (v.toInt16.toInt32).toInt = Int.bmod v.toInt (2 ^ 16) := by
    rw [Int16.toInt_toInt32, Int32.toInt_toInt16]
  have e3 : v.toInt = Int.bmod (v.toBitVec.toNat : Int) (2 ^ 32) := by
    show v.toBitVec.toInt = _
    rw [BitVec.toInt_eq_toNat_bmod]
  simp only [Int32.le_iff_toInt_le]
  rw [e1, e2, e3]
  have z0 : (0 : Int32).toInt = 0 := rfl
  have z9 : (9 : Int32).toInt = 9 := rfl
  rw [z0, z9]
  have hb := v.toBitVec.isLt
  generalize v.toBitVec.toNat = n at *
  rw [Int.bmod_bmod_of_dvd (by decide)]
  simp only [Int.bmod_def]
  omega
/-- what is so of the least numbers is the same number -/
theorem lo_eq {b v : Int32} (hb : okB b) (h0 : ¬ b = 0) (h : 0 ≤ ptV b v ∧ ptV b v ≤ 9) : loV b v = ptV b v := by
  rcases hb with rfl | rfl | rfl | rfl
  · exact absurd rfl h0
  · have e1 : loV 8 v = v &&& 255 := rfl
    have e2 : ptV 8 v = v.toInt8.toInt32 := rfl
    rw [e2] at h
    rw [e1, e2]
    apply Int32.toInt_inj.mp
    have e3 := and_I v 8 (by decide) 255 (by decide)
    have e4 : (v.toInt8.toInt32).toInt = Int.bmod v.toInt (2 ^ 8) := by rw [Int8.toInt_toInt32, Int32.toInt_toInt8]
    have e5 : v.toInt = Int.bmod (v.toBitVec.toNat : Int) (2 ^ 32) := by
      show v.toBitVec.toInt = _
      rw [BitVec.toInt_eq_toNat_bmod]
    simp only [Int32.le_iff_toInt_le] at h
    have z0 : (0 : Int32).toInt = 0 := rfl
    have z9 : (9 : Int32).toInt = 9 := rfl
    rw [z0, z9, e4, e5, Int.bmod_bmod_of_dvd (by decide)] at h
    rw [e3, e4, e5, Int.bmod_bmod_of_dvd (by decide)]
    generalize v.toBitVec.toNat = n at *
    simp only [Int.bmod_def] at *
    omega
  · have e1 : loV 16 v = v &&& 65535 := rfl
    have e2 : ptV 16 v = v.toInt16.toInt32 := rfl
    rw [e2] at h
    rw [e1, e2]
    apply Int32.toInt_inj.mp
    have e3 := and_I v 16 (by decide) 65535 (by decide)
    have e4 : (v.toInt16.toInt32).toInt = Int.bmod v.toInt (2 ^ 16) := by rw [Int16.toInt_toInt32, Int32.toInt_toInt16]
    have e5 : v.toInt = Int.bmod (v.toBitVec.toNat : Int) (2 ^ 32) := by
      show v.toBitVec.toInt = _
      rw [BitVec.toInt_eq_toNat_bmod]
    simp only [Int32.le_iff_toInt_le] at h
    have z0 : (0 : Int32).toInt = 0 := rfl
    have z9 : (9 : Int32).toInt = 9 := rfl
    rw [z0, z9, e4, e5, Int.bmod_bmod_of_dvd (by decide)] at h
    rw [e3, e4, e5, Int.bmod_bmod_of_dvd (by decide)]
    generalize v.toBitVec.toNat = n at *
    simp only [Int.bmod_def] at *
    omega
  · rfl
theorem rf_sh {j : Nat} (hj : j < 4) : sk_rf [some 7, some 8, some 9, some 10] j = some (7 + j) := by
  rcases (by omega : j = 0 ∨ j = 1 ∨ j = 2 ∨ j = 3) with rfl | rfl | rfl | rfl <;> rfl
theorem se_sh {j : Nat} (hj : j < 4) : sk_e (7 + j) = (1, 4, 3, [some (11 + j)]) := by
  rcases (by omega : j = 0 ∨ j = 1 ∨ j = 2 ∨ j = 3) with rfl | rfl | rfl | rfl <;> rfl
theorem se_sn {j : Nat} (hj : j < 4) : sk_e (11 + j) = (0, 0, 24, []) := by
  rcases (by omega : j = 0 ∨ j = 1 ∨ j = 2 ∨ j = 3) with rfl | rfl | rfl | rfl <;> rfl
theorem RG.cg {g g1 : Nat → Int32} (H : RG g) (e : ∀ p, p < 361 → g1 p = g p) : RG g1 :=
  H.lw (fun p hp => e p (by omega)) (lawI_cu (fun p a b => e p (by omega)) H.i0) (lawI_cu (fun p a b => e p (by omega)) H.i1) (lawS_cu (laN_lt H.i0) (fun p a b => e p (by omega)) H.s0) (lawS_cu (laN_lt H.i1) (fun p a b => e p (by omega)) H.s1)
/-- an act of which only the class's way is told -/
theorem st_of2 {l : Launch} {E : sk_V} {h : sk_M} {dc dm : Nat} {MC MM : sk_m} {as bs : List Value} {g : Nat → Int32} {v : Int32} (H : Inv h) (kc : sk_K l E dc MC as h (fun r h1 => oC h h1 g v r)) (km : ∀ h1, sk_o CCl h h1 → sk_K l E dm MM bs h1 (fun r h2 => oM h1 h2 g v r)) (hG : RG g) :
    sk_K l E dc MC as h (fun r h1 => ∃ v, some (.int v) = r ∧ sk_K l E dm MM bs h1 (fun r2 h2 => ∃ w, some (.int w) = r2 ∧ Inv h2 ∧ v = w)) :=
  kc.mono (fun r h1 c => ⟨v, c.2.2, (km h1 c.1).mono (fun r2 h2 m => ⟨v, m.2.2.2.2, H.go c m hG, rfl⟩)⟩)
theorem st_any {l : Launch} {E : sk_V} {h : sk_M} {dc dm : Nat} {MC MM : sk_m} {as bs : List Value} {g : Nat → Int32} (H : Inv h) (kc : sk_K l E dc MC as h (fun r h1 => ∃ v, oC h h1 g v r)) (km : ∀ h1, sk_o CCl h h1 → sk_K l E dm MM bs h1 (fun r h2 => ∃ w, oM h1 h2 g w r)) (hG : RG g) :
    sk_K l E dc MC as h (fun r h1 => ∃ v, some (.int v) = r ∧ sk_K l E dm MM bs h1 (fun r2 h2 => ∃ w, some (.int w) = r2 ∧ Inv h2)) :=
  kc.mono (fun r h1 ⟨v, c⟩ => ⟨v, c.2.2, (km h1 c.1).mono (fun r2 h2 ⟨w, m⟩ => ⟨w, m.2.2.2.2, H.go c m hG⟩)⟩)
theorem lo_10 {b v : Int32} (hb : okB b) (h0 : ¬ b = 0) : (0 ≤ loV b v ∧ loV b v ≤ 9) ↔ (0 ≤ ptV b v ∧ ptV b v ≤ 9) := by
  rcases hb with rfl | rfl | rfl | rfl
  · exact absurd rfl h0
  · have e1 : loV 8 v = v &&& 255 := rfl
    have e2 : ptV 8 v = v.toInt8.toInt32 := rfl
    rw [e1, e2]
    exact lo8 v
  · have e1 : loV 16 v = v &&& 65535 := rfl
    have e2 : ptV 16 v = v.toInt16.toInt32 := rfl
    rw [e1, e2]
    exact lo16 v
  · exact Iff.rfl
end SPEC33B
