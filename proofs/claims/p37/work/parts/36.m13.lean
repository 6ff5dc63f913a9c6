section M13
set_option maxRecDepth 100000 in
set_option maxHeartbeats 4000000 in
theorem lp_moveA {l : Launch} {E : sk_V} {d : Nat} {h : sk_M} {a b x y q : Nat} (ha : a < 4) (hb : b < 4) (hx : x + q ≤ 24) (hy : y + q ≤ 24) (hc : y ≤ x) : ∀ (m k : Nat) (g : sk_M) (x8 : Option Value), k + m = q → sk_o [60] h g → g 60 = mvR (h 60) (24 * a + x) (24 * b + y) k → sk_S l E (d + 3) MX8_move 28 [some (.ref 54), some (.int (nI a)), some (.int (nI x)), some (.int (nI b)), some (.int (nI y)), some (.int (nI q)), some (.int 0), some (.int (nI k)), x8] [] g (fun r h1 => sk_o [60] h h1 ∧ h1 60 = mvR (h 60) (24 * a + x) (24 * b + y) q ∧ some (.int (nI q)) = r)
  | 0, k, g, x8, hk, ho, hg => by
    have hkq : k = q := by omega
    subst hkq
    refine sk_S.iload (i := 7) (dd DX8_move 16 rfl) rfl ?_
    refine sk_S.iload (i := 5) (dd DX8_move 17 rfl) rfl ?_
    refine sk_S.icmp_ge (tgt := 90) (dd DX8_move 18 rfl) (by decide) (fun c32 => ?_) (fun c32 => absurd (Int32.le_refl _) c32)
    refine sk_S.iload (i := 5) (dd DX8_move 52 rfl) rfl ?_
    refine sk_S.iret (dd DX8_move 53 rfl) rfl rfl ?_
    exact ⟨ho, hg, rfl⟩
  | m + 1, k, g, x8, hk, ho, hg => by
    have hkq : k < q := by omega
    refine sk_S.iload (i := 7) (dd DX8_move 16 rfl) rfl ?_
    refine sk_S.iload (i := 5) (dd DX8_move 17 rfl) rfl ?_
    refine sk_S.icmp_ge (tgt := 90) (dd DX8_move 18 rfl) (by decide) (fun c32 => absurd c32 (nI_ge (by omega) (by omega))) (fun c32 => ?_)
    refine sk_S.iload_n (i := 2) (dd DX8_move 19 rfl) rfl rfl ?_
    refine sk_S.iload (i := 4) (dd DX8_move 20 rfl) rfl ?_
    refine sk_S.icmp_ge (tgt := 51) (dd DX8_move 21 rfl) (by decide) (fun c38 => ?_) (fun c38 => absurd (nI_le hc (by omega)) c38)
    refine sk_S.iload (i := 7) (dd DX8_move 28 rfl) rfl ?_
    skip
    refine sk_S.istore (i := 8) (dd DX8_move 29 rfl) (Nat.le_of_ble_eq_true rfl) rfl ?_
    refine sk_S.aload_n (i := 0) (dd DX8_move 30 rfl) rfl rfl ?_
    refine sk_S.getr (dd DX8_move 31 rfl) rfl fX8_25 se_54 (by decide) rfl ?_
    refine sk_S.bipush (v := 24) (dd DX8_move 32 rfl) (by decide) ?_
    refine sk_S.iload_n (i := 3) (dd DX8_move 33 rfl) rfl rfl ?_
    refine sk_S.imul (dd DX8_move 34 rfl) ?_
    refine sk_S.iload (i := 4) (dd DX8_move 35 rfl) rfl ?_
    refine sk_S.iadd (dd DX8_move 36 rfl) ?_
    refine sk_S.iload (i := 8) (dd DX8_move 37 rfl) rfl ?_
    refine sk_S.iadd (dd DX8_move 38 rfl) ?_
    refine sk_S.aload_n (i := 0) (dd DX8_move 39 rfl) rfl rfl ?_
    refine sk_S.getr (dd DX8_move 40 rfl) rfl fX8_25 se_54 (by decide) rfl ?_
    refine sk_S.bipush (v := 24) (dd DX8_move 41 rfl) (by decide) ?_
    refine sk_S.iload_n (i := 1) (dd DX8_move 42 rfl) rfl rfl ?_
    refine sk_S.imul (dd DX8_move 43 rfl) ?_
    refine sk_S.iload_n (i := 2) (dd DX8_move 44 rfl) rfl rfl ?_
    refine sk_S.iadd (dd DX8_move 45 rfl) ?_
    refine sk_S.iload (i := 8) (dd DX8_move 46 rfl) rfl ?_
    refine sk_S.iadd (dd DX8_move 47 rfl) ?_
    refine sk_S.iald (dd DX8_move 48 rfl) se_60 (sk_ix_e (k := 24 * a + x + k) (ix_24b a x _) (by omega) (by decide)) ?_
    refine sk_S.iast (dd DX8_move 49 rfl) se_60 (sk_ix_e (k := 24 * b + y + k) (ix_24b b y _) (by omega) (by decide)) ?_
    refine sk_S.iinc (i := 7) (v := _ + 1) (dd DX8_move 50 rfl) rfl rfl rfl ?_
    refine sk_S.goto (tgt := 28) (dd DX8_move 51 rfl) (by decide) ?_
    exact sk_S.L (lp_moveA ha hb hx hy hc m (k + 1) _ (some (.int (nI k))) (by omega) (ho.u (by decide)) (by rw [sk_u, sk_r_eq, hg]; exact mvR_s (by omega))) (by rw [nI_succ]; rfl)
set_option maxRecDepth 100000 in
set_option maxHeartbeats 4000000 in
theorem lp_moveD {l : Launch} {E : sk_V} {d : Nat} {h : sk_M} {a b x y q : Nat} (ha : a < 4) (hb : b < 4) (hx : x + q ≤ 24) (hy : y + q ≤ 24) (hc : x < y) : ∀ (m k : Nat) (g : sk_M) (x8 : Option Value), k + m = q → sk_o [60] h g → g 60 = mvD (h 60) (24 * a + x) (24 * b + y) q k → sk_S l E (d + 3) MX8_move 28 [some (.ref 54), some (.int (nI a)), some (.int (nI x)), some (.int (nI b)), some (.int (nI y)), some (.int (nI q)), some (.int 0), some (.int (nI k)), x8] [] g (fun r h1 => sk_o [60] h h1 ∧ h1 60 = mvR (h 60) (24 * a + x) (24 * b + y) q ∧ some (.int (nI q)) = r)
  | 0, k, g, x8, hk, ho, hg => by
    have hkq : k = q := by omega
    subst hkq
    refine sk_S.iload (i := 7) (dd DX8_move 16 rfl) rfl ?_
    refine sk_S.iload (i := 5) (dd DX8_move 17 rfl) rfl ?_
    refine sk_S.icmp_ge (tgt := 90) (dd DX8_move 18 rfl) (by decide) (fun c32 => ?_) (fun c32 => absurd (Int32.le_refl _) c32)
    refine sk_S.iload (i := 5) (dd DX8_move 52 rfl) rfl ?_
    refine sk_S.iret (dd DX8_move 53 rfl) rfl rfl ?_
    exact ⟨ho, (hg.trans mvD_q), rfl⟩
  | m + 1, k, g, x8, hk, ho, hg => by
    have hkq : k < q := by omega
    refine sk_S.iload (i := 7) (dd DX8_move 16 rfl) rfl ?_
    refine sk_S.iload (i := 5) (dd DX8_move 17 rfl) rfl ?_
    refine sk_S.icmp_ge (tgt := 90) (dd DX8_move 18 rfl) (by decide) (fun c32 => absurd c32 (nI_ge (by omega) (by omega))) (fun c32 => ?_)
    refine sk_S.iload_n (i := 2) (dd DX8_move 19 rfl) rfl rfl ?_
    refine sk_S.iload (i := 4) (dd DX8_move 20 rfl) rfl ?_
    refine sk_S.icmp_ge (tgt := 51) (dd DX8_move 21 rfl) (by decide) (fun c38 => absurd c38 (nI_ge hc (by omega))) (fun c38 => ?_)
    refine sk_S.iload (i := 5) (dd DX8_move 22 rfl) rfl ?_
    refine sk_S.iconst (v := 1) (dd DX8_move 23 rfl) (by decide) ?_
    refine sk_S.isub (dd DX8_move 24 rfl) ?_
    refine sk_S.iload (i := 7) (dd DX8_move 25 rfl) rfl ?_
    refine sk_S.isub (dd DX8_move 26 rfl) ?_
    refine sk_S.goto (tgt := 53) (dd DX8_move 27 rfl) (by decide) ?_
    rw [show nI q - 1 - nI k = nI (q - 1 - k) from by rw [show nI q - 1 = nI (q - 1) from nI_sub (b := 1) (by omega), nI_sub (by omega)]]
    refine sk_S.istore (i := 8) (dd DX8_move 29 rfl) (Nat.le_of_ble_eq_true rfl) rfl ?_
    refine sk_S.aload_n (i := 0) (dd DX8_move 30 rfl) rfl rfl ?_
    refine sk_S.getr (dd DX8_move 31 rfl) rfl fX8_25 se_54 (by decide) rfl ?_
    refine sk_S.bipush (v := 24) (dd DX8_move 32 rfl) (by decide) ?_
    refine sk_S.iload_n (i := 3) (dd DX8_move 33 rfl) rfl rfl ?_
    refine sk_S.imul (dd DX8_move 34 rfl) ?_
    refine sk_S.iload (i := 4) (dd DX8_move 35 rfl) rfl ?_
    refine sk_S.iadd (dd DX8_move 36 rfl) ?_
    refine sk_S.iload (i := 8) (dd DX8_move 37 rfl) rfl ?_
    refine sk_S.iadd (dd DX8_move 38 rfl) ?_
    refine sk_S.aload_n (i := 0) (dd DX8_move 39 rfl) rfl rfl ?_
    refine sk_S.getr (dd DX8_move 40 rfl) rfl fX8_25 se_54 (by decide) rfl ?_
    refine sk_S.bipush (v := 24) (dd DX8_move 41 rfl) (by decide) ?_
    refine sk_S.iload_n (i := 1) (dd DX8_move 42 rfl) rfl rfl ?_
    refine sk_S.imul (dd DX8_move 43 rfl) ?_
    refine sk_S.iload_n (i := 2) (dd DX8_move 44 rfl) rfl rfl ?_
    refine sk_S.iadd (dd DX8_move 45 rfl) ?_
    refine sk_S.iload (i := 8) (dd DX8_move 46 rfl) rfl ?_
    refine sk_S.iadd (dd DX8_move 47 rfl) ?_
    refine sk_S.iald (dd DX8_move 48 rfl) se_60 (sk_ix_e (k := 24 * a + x + (q - 1 - k)) (ix_24b a x _) (by omega) (by decide)) ?_
    refine sk_S.iast (dd DX8_move 49 rfl) se_60 (sk_ix_e (k := 24 * b + y + (q - 1 - k)) (ix_24b b y _) (by omega) (by decide)) ?_
    refine sk_S.iinc (i := 7) (v := _ + 1) (dd DX8_move 50 rfl) rfl rfl rfl ?_
    refine sk_S.goto (tgt := 28) (dd DX8_move 51 rfl) (by decide) ?_
    exact sk_S.L (lp_moveD ha hb hx hy hc m (k + 1) _ (some (.int (nI (q - 1 - k)))) (by omega) (ho.u (by decide)) (by rw [sk_u, sk_r_eq, hg]; exact mvD_s hkq (by omega))) (by rw [nI_succ]; rfl)
set_option maxRecDepth 100000 in
set_option maxHeartbeats 4000000 in
theorem cM_move {l : Launch} {E : sk_V} {d : Nat} {h : sk_M} {s i t j n : Int32} (hS : shI h) : sk_K l E (d + 3) MX8_move [.ref 54, .int s, .int i, .int t, .int j, .int n] h (fun r h1 => (¬ mvK h s i t j n = 0 ∧ erM h (mvK h s i t j n) h1 r) ∨ (mvK h s i t j n = 0 ∧ ∃ a b x y w : Nat, a < 4 ∧ b < 4 ∧ s = nI a ∧ t = nI b ∧ i = nI x ∧ j = nI y ∧ n = nI w ∧ ¬ h 58 a = 0 ∧ h 58 a = h 58 b ∧ x + w ≤ shN h a ∧ y + w ≤ shN h b ∧ sk_o [60] h h1 ∧ h1 60 = mvR (h 60) (24 * a + x) (24 * b + y) w ∧ some (.int (nI w)) = r)) := by
  refine sk_K.of (by decide +kernel) (Nat.le_of_ble_eq_true rfl) ?_
  show sk_S l E (d + 3) _ 0 [some (.ref 54), some (.int s), some (.int i), some (.int t), some (.int j), some (.int n), none, none, none] [] h _
  refine sk_S.aload_n (i := 0) (dd DX8_move 0 rfl) rfl rfl ?_
  refine sk_S.iload_n (i := 1) (dd DX8_move 1 rfl) rfl rfl ?_
  refine sk_S.iload_n (i := 2) (dd DX8_move 2 rfl) rfl rfl ?_
  refine sk_S.iload_n (i := 3) (dd DX8_move 3 rfl) rfl rfl ?_
  refine sk_S.iload (i := 4) (dd DX8_move 4 rfl) rfl ?_
  refine sk_S.iload (i := 5) (dd DX8_move 5 rfl) rfl ?_
  refine sk_S.callV (dd DX8_move 6 rfl) rfl kX8_249 (cM_notMoved hS) se_54 (by decide) rfl rfl rfl rfl (Nat.le_of_ble_eq_true rfl) (fun r8 h8 q8 => ?_)
  obtain ⟨rfl, rfl⟩ := q8
  show sk_S _ _ _ _ _ _ (.int _ :: _) _ _
  refine sk_S.istore (i := 6) (dd DX8_move 7 rfl) (Nat.le_of_ble_eq_true rfl) rfl ?_
  refine sk_S.iload (i := 6) (dd DX8_move 8 rfl) rfl ?_
  refine sk_S.if_eq (tgt := 25) (dd DX8_move 9 rfl) (by decide) (fun c15 => ?_) (fun c15 => ?_)
  · have k1 : mvK h s i t j n = 0 := wI_0 c15 (by have := mvK_le h s i t j n; omega)
    rw [k1]
    obtain ⟨a, b, x, y, w, ha, hb, rfl, rfl, rfl, rfl, rfl, hba, hbb, f1, f2⟩ := mvK_0 k1
    have la := (hS a ha).2
    have lb := (hS b hb).2
    refine sk_S.iconst (v := 0) (dd DX8_move 14 rfl) (by decide) ?_
    refine sk_S.istore (i := 7) (dd DX8_move 15 rfl) (Nat.le_of_ble_eq_true rfl) rfl ?_
    by_cases hc : y ≤ x
    · refine sk_S.mono (lp_moveA ha hb (by omega) (by omega) hc w 0 h none (Nat.zero_add _) sk_o.rf mvR_0.symm) ?_
      rintro r h1 ⟨q1, q2, q3⟩
      exact Or.inr ⟨rfl, a, b, x, y, w, ha, hb, rfl, rfl, rfl, rfl, rfl, hba, hbb, f1, f2, q1, q2, q3⟩
    · refine sk_S.mono (lp_moveD ha hb (by omega) (by omega) (Nat.lt_of_not_le hc) w 0 h none (Nat.zero_add _) sk_o.rf mvD_0.symm) ?_
      rintro r h1 ⟨q1, q2, q3⟩
      exact Or.inr ⟨rfl, a, b, x, y, w, ha, hb, rfl, rfl, rfl, rfl, rfl, hba, hbb, f1, f2, q1, q2, q3⟩
  · have k0 : ¬ mvK h s i t j n = 0 := fun q => c15 (by rw [q]; rfl)
    refine sk_S.aload_n (i := 0) (dd DX8_move 10 rfl) rfl rfl ?_
    refine sk_S.iload (i := 6) (dd DX8_move 11 rfl) rfl ?_
    refine sk_S.callV (dd DX8_move 12 rfl) rfl kX8_74 (cM_error (k := mvK h s i t j n) (wI_ix k0 (by have := mvK_le h s i t j n; omega))) se_54 (by decide) rfl rfl rfl rfl (Nat.le_of_ble_eq_true rfl) (fun r21 h21 q21 => ?_)
    obtain ⟨rfl, rfl⟩ := q21
    show sk_S _ _ _ _ _ _ (.int _ :: _) _ _
    refine sk_S.iret (dd DX8_move 13 rfl) rfl rfl ?_
    exact Or.inl ⟨k0, rfl, by rw [wI_er k0]⟩
end M13
