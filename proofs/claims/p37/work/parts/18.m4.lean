section M4
set_option maxRecDepth 100000 in
set_option maxHeartbeats 4000000 in
theorem cM_gives {l : Launch} {E : sk_V} {d : Nat} {h : sk_M} {ρ : Nat → Int32} {u : Nat} {a b c : Int32} (hu : u < 2) (hρ : h 55 = ρ) (hI : lawI ρ u) : sk_K l E (d + 2) MX8_gives [.ref 54, .int (nI u), .int a, .int b, .int c] h (fun r h1 => sk_o [63, 64] h h1 ∧ some (.int (gvV ρ u a b c)) = r) := by
  refine sk_K.of (by decide +kernel) (Nat.le_of_ble_eq_true rfl) ?_
  show sk_S l E (d + 2) _ 0 [some (.ref 54), some (.int (nI u)), some (.int a), some (.int b), some (.int c), none] [] h _
  refine sk_S.bipush (v := 119) (dd DX8_gives 0 rfl) (by decide) ?_
  refine sk_S.bipush (v := 121) (dd DX8_gives 1 rfl) (by decide) ?_
  refine sk_S.iload_n (i := 1) (dd DX8_gives 2 rfl) rfl rfl ?_
  refine sk_S.imul (dd DX8_gives 3 rfl) ?_
  refine sk_S.iadd (dd DX8_gives 4 rfl) ?_
  refine sk_S.istore (i := 5) (dd DX8_gives 5 rfl) (Nat.le_of_ble_eq_true rfl) rfl ?_
  refine sk_S.L (L1 := [some (.ref 54), some (.int (nI u)), some (.int a), some (.int b), some (.int c), some (.int (nI (119 + 121 * u)))]) ?_ (by rw [← ix_at]; rfl)
  refine sk_S.aload_n (i := 0) (dd DX8_gives 6 rfl) rfl rfl ?_
  refine sk_S.getr (dd DX8_gives 7 rfl) rfl fX8_34 se_54 (by decide) rfl ?_
  refine sk_S.iconst (v := 0) (dd DX8_gives 8 rfl) (by decide) ?_
  refine sk_S.iload_n (i := 2) (dd DX8_gives 9 rfl) rfl rfl ?_
  refine sk_S.iast (dd DX8_gives 10 rfl) se_63 (j := 0) ⟨by decide, by decide, by decide⟩ ?_
  refine sk_S.aload_n (i := 0) (dd DX8_gives 11 rfl) rfl rfl ?_
  refine sk_S.getr (dd DX8_gives 12 rfl) rfl fX8_34 se_54 (by decide) rfl ?_
  refine sk_S.iconst (v := 1) (dd DX8_gives 13 rfl) (by decide) ?_
  refine sk_S.iload_n (i := 3) (dd DX8_gives 14 rfl) rfl rfl ?_
  refine sk_S.iast (dd DX8_gives 15 rfl) se_63 (j := 1) ⟨by decide, by decide, by decide⟩ ?_
  refine sk_S.aload_n (i := 0) (dd DX8_gives 16 rfl) rfl rfl ?_
  refine sk_S.getr (dd DX8_gives 17 rfl) rfl fX8_34 se_54 (by decide) rfl ?_
  refine sk_S.iconst (v := 2) (dd DX8_gives 18 rfl) (by decide) ?_
  refine sk_S.iload (i := 4) (dd DX8_gives 19 rfl) rfl ?_
  refine sk_S.iast (dd DX8_gives 20 rfl) se_63 (j := 2) ⟨by decide, by decide, by decide⟩ ?_
  have eG : (sk_u (sk_u (sk_u h 63 0 a) 63 1 b) 63 2 c) 55 = ρ := hρ
  refine sk_S.aload_n (i := 0) (dd DX8_gives 21 rfl) rfl rfl ?_
  refine sk_S.getr (dd DX8_gives 22 rfl) rfl fX8_9 se_54 (by decide) rfl ?_
  refine sk_S.iload (i := 5) (dd DX8_gives 23 rfl) rfl ?_
  refine sk_S.iald (dd DX8_gives 24 rfl) se_55 (sk_ix_nI (k := 119 + 121 * u) rfl (by omega) (by decide)) ?_
  refine sk_S.if_le (tgt := 50) (dd DX8_gives 25 rfl) (by decide) (fun c38 => ?_) (fun c38 => ?_)
  · refine sk_S.iload_n (i := 2) (dd DX8_gives 30 rfl) rfl rfl ?_
    refine sk_S.iconst (v := 0) (dd DX8_gives 31 rfl) (by decide) ?_
    refine sk_S.bipush (v := 99) (dd DX8_gives 32 rfl) (by decide) ?_
    refine sk_S.callS (dd DX8_gives 33 rfl) rfl kX8_97 cM_held rfl rfl rfl (Nat.le_of_ble_eq_true rfl) (fun r54 h54 q54 => ?_)
    obtain ⟨rfl, rfl⟩ := q54
    show sk_S _ _ _ _ _ _ (.int _ :: _) _ _
    refine sk_S.iret (dd DX8_gives 34 rfl) rfl rfl ?_
    refine ⟨(((sk_o.rf (h := h)).u (by decide)).u (by decide)).u (by decide), ?_⟩
    have c38a : nI (laN ρ u) ≤ 0 := by rw [← hI.1, ← eG]; exact c38
    have e0 := nI_le0 (by have := laN_lt hI; omega) c38a
    unfold gvV
    rw [e0, if_neg (by decide)]
  · refine sk_S.aload_n (i := 0) (dd DX8_gives 26 rfl) rfl rfl ?_
    refine sk_S.iload (i := 5) (dd DX8_gives 27 rfl) rfl ?_
    refine sk_S.callV (dd DX8_gives 28 rfl) rfl kX8_162 (cM_works hu eG hI.1 hI.2 rfl rfl rfl) se_54 (by decide) rfl rfl rfl rfl (Nat.le_of_ble_eq_true rfl) (fun r44 h44 q44 => ?_)
    obtain ⟨ho, rfl⟩ := q44
    show sk_S _ _ _ _ _ _ (.int _ :: _) _ _
    refine sk_S.goto (tgt := 51) (dd DX8_gives 29 rfl) (by decide) ?_
    refine sk_S.iconst (v := 0) (dd DX8_gives 31 rfl) (by decide) ?_
    refine sk_S.bipush (v := 99) (dd DX8_gives 32 rfl) (by decide) ?_
    refine sk_S.callS (dd DX8_gives 33 rfl) rfl kX8_97 cM_held rfl rfl rfl (Nat.le_of_ble_eq_true rfl) (fun r54 h54 q54 => ?_)
    obtain ⟨rfl, rfl⟩ := q54
    show sk_S _ _ _ _ _ _ (.int _ :: _) _ _
    refine sk_S.iret (dd DX8_gives 34 rfl) rfl rfl ?_
    refine ⟨((((sk_o.rf (h := h)).u (by decide)).u (by decide)).u (by decide)).tr (ho.more (by decide)), ?_⟩
    have h0 : 0 < laN ρ u := by
      apply Nat.pos_of_ne_zero
      intro e0
      apply c38
      rw [eG, hI.1, e0]
      decide
    unfold gvV
    rw [if_pos h0, lawV_any hI h0]
    rfl
set_option maxRecDepth 100000 in
set_option maxHeartbeats 4000000 in
theorem cM_landsOf {l : Launch} {E : sk_V} {d : Nat} {h : sk_M} {ρ : Nat → Int32} {j : Nat} {f s : Int32} (hj : j < 6) (hρ : h 55 = ρ) (hI : lawI ρ 0) : sk_K l E (d + 3) MX8_landsOf [.ref 54, .int (nI j), .int f, .int s] h (fun r h1 => sk_o [63, 64] h h1 ∧ some (.int (landsG ρ j f s (ρ 3) (ρ 0))) = r) := by
  refine sk_K.of (by decide +kernel) (Nat.le_of_ble_eq_true rfl) ?_
  show sk_S l E (d + 3) _ 0 [some (.ref 54), some (.int (nI j)), some (.int f), some (.int s)] [] h _
  refine sk_S.aload_n (i := 0) (dd DX8_landsOf 0 rfl) rfl rfl ?_
  refine sk_S.iload_n (i := 1) (dd DX8_landsOf 1 rfl) rfl rfl ?_
  refine sk_S.iconst (v := 2) (dd DX8_landsOf 2 rfl) (by decide) ?_
  refine sk_S.callV (dd DX8_landsOf 3 rfl) rfl kX8_51 (cM_of (j := j) (w := 2) (by omega)) se_54 (by decide) rfl rfl rfl rfl (Nat.le_of_ble_eq_true rfl) (fun r3 h3 q3 => ?_)
  obtain ⟨rfl, rfl⟩ := q3
  show sk_S _ _ _ _ _ _ (.int _ :: _) _ _
  refine sk_S.iconst (v := 1) (dd DX8_landsOf 4 rfl) (by decide) ?_
  refine sk_S.icmp_ne (tgt := 14) (dd DX8_landsOf 5 rfl) (by decide) (fun c7 => ?_) (fun c7 => ?_)
  · refine sk_S.aload_n (i := 0) (dd DX8_landsOf 8 rfl) rfl rfl ?_
    refine sk_S.iconst (v := 0) (dd DX8_landsOf 9 rfl) (by decide) ?_
    refine sk_S.aload_n (i := 0) (dd DX8_landsOf 10 rfl) rfl rfl ?_
    refine sk_S.iload_n (i := 1) (dd DX8_landsOf 11 rfl) rfl rfl ?_
    refine sk_S.iload_n (i := 2) (dd DX8_landsOf 12 rfl) rfl rfl ?_
    refine sk_S.callV (dd DX8_landsOf 13 rfl) rfl kX8_55 (cM_haulsOf hj) se_54 (by decide) rfl rfl rfl rfl (Nat.le_of_ble_eq_true rfl) (fun r19 h19 q19 => ?_)
    obtain ⟨rfl, rfl⟩ := q19
    show sk_S _ _ _ _ _ _ (.int _ :: _) _ _
    refine sk_S.aload_n (i := 0) (dd DX8_landsOf 14 rfl) rfl rfl ?_
    refine sk_S.getr (dd DX8_landsOf 15 rfl) rfl fX8_9 se_54 (by decide) rfl ?_
    refine sk_S.iconst (v := 3) (dd DX8_landsOf 16 rfl) (by decide) ?_
    refine sk_S.iald (dd DX8_landsOf 17 rfl) se_55 (j := 3) ⟨by decide, by decide, by decide⟩ ?_
    refine sk_S.iload_n (i := 3) (dd DX8_landsOf 18 rfl) rfl rfl ?_
    refine sk_S.callV (dd DX8_landsOf 19 rfl) rfl kX8_58 (cM_gives (u := 0) (by decide) hρ hI) se_54 (by decide) rfl rfl rfl rfl (Nat.le_of_ble_eq_true rfl) (fun r29 h29 q29 => ?_)
    obtain ⟨ho, rfl⟩ := q29
    show sk_S _ _ _ _ _ _ (.int _ :: _) _ _
    refine sk_S.iret (dd DX8_landsOf 20 rfl) rfl rfl ?_
    subst hρ
    unfold landsG
    rw [if_neg c7]
    exact ⟨ho, rfl⟩
  · refine sk_S.iconst (v := 0) (dd DX8_landsOf 6 rfl) (by decide) ?_
    refine sk_S.goto (tgt := 32) (dd DX8_landsOf 7 rfl) (by decide) ?_
    refine sk_S.iret (dd DX8_landsOf 20 rfl) rfl rfl ?_
    subst hρ
    unfold landsG
    rw [if_pos c7]
    exact ⟨sk_o.rf, rfl⟩
set_option maxRecDepth 100000 in
set_option maxHeartbeats 4000000 in
theorem lp_catchBy {l : Launch} {E : sk_V} {d : Nat} {h : sk_M} {ρ : Nat → Int32} {f s : Int32} (hρ : h 55 = ρ) (hb : boI ρ) (hI : lawI ρ 0) : ∀ (m j : Nat) (g : sk_M), j + m = boN ρ → sk_o [63, 64] h g → sk_S l E (d + 4) MX8_catchBy 5 [some (.ref 54), some (.int f), some (.int s), some (.int (sumN (fun j => landsG ρ j f s (ρ 3) (ρ 0)) j)), some (.int (nI j))] [] g (fun r h1 => sk_o [63, 64] h h1 ∧ some (.int (sumN (fun j => landsG ρ j f s (ρ 3) (ρ 0)) (boN ρ))) = r)
  | 0, j, g, hj, ho => by
    have e55 : g 55 = ρ := (ho 55 (by decide)).trans hρ
    have hb6 := hb.2
    have hjn : j = boN ρ := by omega
    refine sk_S.iload (i := 4) (dd DX8_catchBy 4 rfl) rfl ?_
    refine sk_S.aload_n (i := 0) (dd DX8_catchBy 5 rfl) rfl rfl ?_
    refine sk_S.getr (dd DX8_catchBy 6 rfl) rfl fX8_9 se_54 (by decide) rfl ?_
    refine sk_S.iconst (v := 2) (dd DX8_catchBy 7 rfl) (by decide) ?_
    refine sk_S.iald (dd DX8_catchBy 8 rfl) se_55 (j := 2) ⟨by decide, by decide, by decide⟩ ?_
    refine sk_S.icmp_ge (tgt := 33) (dd DX8_catchBy 9 rfl) (by decide) (fun c13 => ?_) (fun c13 => absurd (by rw [e55, hb.1, hjn]; exact Int32.le_refl _) c13)
    refine sk_S.iload_n (i := 3) (dd DX8_catchBy 20 rfl) rfl rfl ?_
    refine sk_S.iret (dd DX8_catchBy 21 rfl) rfl rfl ?_
    rw [← hjn]
    exact ⟨ho, rfl⟩
  | m + 1, j, g, hj, ho => by
    have e55 : g 55 = ρ := (ho 55 (by decide)).trans hρ
    have hb6 := hb.2
    
    refine sk_S.iload (i := 4) (dd DX8_catchBy 4 rfl) rfl ?_
    refine sk_S.aload_n (i := 0) (dd DX8_catchBy 5 rfl) rfl rfl ?_
    refine sk_S.getr (dd DX8_catchBy 6 rfl) rfl fX8_9 se_54 (by decide) rfl ?_
    refine sk_S.iconst (v := 2) (dd DX8_catchBy 7 rfl) (by decide) ?_
    refine sk_S.iald (dd DX8_catchBy 8 rfl) se_55 (j := 2) ⟨by decide, by decide, by decide⟩ ?_
    refine sk_S.icmp_ge (tgt := 33) (dd DX8_catchBy 9 rfl) (by decide) (fun c13 => absurd c13 (by rw [e55, hb.1]; exact nI_ge (by omega) (by omega))) (fun c13 => ?_)
    refine sk_S.iload_n (i := 3) (dd DX8_catchBy 10 rfl) rfl rfl ?_
    refine sk_S.aload_n (i := 0) (dd DX8_catchBy 11 rfl) rfl rfl ?_
    refine sk_S.iload (i := 4) (dd DX8_catchBy 12 rfl) rfl ?_
    refine sk_S.iload_n (i := 1) (dd DX8_catchBy 13 rfl) rfl rfl ?_
    refine sk_S.iload_n (i := 2) (dd DX8_catchBy 14 rfl) rfl rfl ?_
    refine sk_S.callV (dd DX8_catchBy 15 rfl) rfl kX8_62 (cM_landsOf (by omega) e55 hI) se_54 (by decide) rfl rfl rfl rfl (Nat.le_of_ble_eq_true rfl) (fun r22 h22 q22 => ?_)
    obtain ⟨ho2, rfl⟩ := q22
    show sk_S _ _ _ _ _ _ (.int _ :: _) _ _
    refine sk_S.iadd (dd DX8_catchBy 16 rfl) ?_
    refine sk_S.istore_n (i := 3) (dd DX8_catchBy 17 rfl) rfl (Nat.le_of_ble_eq_true rfl) rfl ?_
    refine sk_S.iinc (i := 4) (v := _ + 1) (dd DX8_catchBy 18 rfl) rfl rfl rfl ?_
    refine sk_S.goto (tgt := 5) (dd DX8_catchBy 19 rfl) (by decide) ?_
    exact sk_S.L (lp_catchBy hρ hb hI m (j + 1) _ (by omega) (ho.tr ho2)) (by rw [nI_succ]; rfl)
set_option maxRecDepth 100000 in
set_option maxHeartbeats 4000000 in
theorem cM_catchBy {l : Launch} {E : sk_V} {d : Nat} {h : sk_M} {ρ : Nat → Int32} {f s : Int32} (hρ : h 55 = ρ) (hb : boI ρ) (hI : lawI ρ 0) : sk_K l E (d + 4) MX8_catchBy [.ref 54, .int f, .int s] h (fun r h1 => sk_o [63, 64] h h1 ∧ some (.int (catchG ρ f s (ρ 3) (ρ 0))) = r) := by
  refine sk_K.of (by decide +kernel) (Nat.le_of_ble_eq_true rfl) ?_
  show sk_S l E (d + 4) _ 0 [some (.ref 54), some (.int f), some (.int s), none, none] [] h _
  refine sk_S.iconst (v := 0) (dd DX8_catchBy 0 rfl) (by decide) ?_
  refine sk_S.istore_n (i := 3) (dd DX8_catchBy 1 rfl) rfl (Nat.le_of_ble_eq_true rfl) rfl ?_
  refine sk_S.iconst (v := 0) (dd DX8_catchBy 2 rfl) (by decide) ?_
  refine sk_S.istore (i := 4) (dd DX8_catchBy 3 rfl) (Nat.le_of_ble_eq_true rfl) rfl ?_
  exact lp_catchBy hρ hb hI (boN ρ) 0 h (Nat.zero_add _) sk_o.rf
set_option maxRecDepth 100000 in
set_option maxHeartbeats 4000000 in
theorem cM_catchOf {l : Launch} {E : sk_V} {d : Nat} {h : sk_M} {ρ : Nat → Int32} {f : Nat} (hf : f < 4) (hρ : h 55 = ρ) (hb : boI ρ) (hI : lawI ρ 0) : sk_K l E (d + 5) MX8_catchOf [.ref 54, .int (nI f)] h (fun r h1 => sk_o [63, 64] h h1 ∧ some (.int (catchG ρ (nI f) (ρ (9 + f)) (ρ 3) (ρ 0))) = r) := by
  refine sk_K.of (by decide +kernel) (Nat.le_of_ble_eq_true rfl) ?_
  show sk_S l E (d + 5) _ 0 [some (.ref 54), some (.int (nI f))] [] h _
  refine sk_S.aload_n (i := 0) (dd DX8_catchOf 0 rfl) rfl rfl ?_
  refine sk_S.iload_n (i := 1) (dd DX8_catchOf 1 rfl) rfl rfl ?_
  refine sk_S.aload_n (i := 0) (dd DX8_catchOf 2 rfl) rfl rfl ?_
  refine sk_S.getr (dd DX8_catchOf 3 rfl) rfl fX8_9 se_54 (by decide) rfl ?_
  refine sk_S.bipush (v := 9) (dd DX8_catchOf 4 rfl) (by decide) ?_
  refine sk_S.iload_n (i := 1) (dd DX8_catchOf 5 rfl) rfl rfl ?_
  refine sk_S.iadd (dd DX8_catchOf 6 rfl) ?_
  refine sk_S.iald (dd DX8_catchOf 7 rfl) se_55 (sk_ix_e (ix_add 9 f) (by omega) (by decide)) ?_
  refine sk_S.callV (dd DX8_catchOf 8 rfl) rfl kX8_66 (cM_catchBy hρ hb hI) se_54 (by decide) rfl rfl rfl rfl (Nat.le_of_ble_eq_true rfl) (fun r11 h11 q11 => ?_)
  obtain ⟨ho, rfl⟩ := q11
  show sk_S _ _ _ _ _ _ (.int _ :: _) _ _
  refine sk_S.iret (dd DX8_catchOf 9 rfl) rfl rfl ?_
  exact ⟨ho, by rw [hρ]⟩
set_option maxRecDepth 100000 in
set_option maxHeartbeats 4000000 in
theorem cM_shortBy {l : Launch} {E : sk_V} {d : Nat} {h : sk_M} {ρ : Nat → Int32} {f s : Int32} (hρ : h 55 = ρ) (hb : boI ρ) (hI : lawI ρ 0) : sk_K l E (d + 5) MX8_shortBy [.ref 54, .int f, .int s] h (fun r h1 => sk_o [63, 64] h h1 ∧ some (.int (shortG ρ f s)) = r) := by
  refine sk_K.of (by decide +kernel) (Nat.le_of_ble_eq_true rfl) ?_
  show sk_S l E (d + 5) _ 0 [some (.ref 54), some (.int f), some (.int s), none] [] h _
  refine sk_S.iload_n (i := 2) (dd DX8_shortBy 0 rfl) rfl rfl ?_
  refine sk_S.aload_n (i := 0) (dd DX8_shortBy 1 rfl) rfl rfl ?_
  refine sk_S.iload_n (i := 1) (dd DX8_shortBy 2 rfl) rfl rfl ?_
  refine sk_S.iload_n (i := 2) (dd DX8_shortBy 3 rfl) rfl rfl ?_
  refine sk_S.callV (dd DX8_shortBy 4 rfl) rfl kX8_66 (cM_catchBy hρ hb hI) se_54 (by decide) rfl rfl rfl rfl (Nat.le_of_ble_eq_true rfl) (fun r4 h4 q4 => ?_)
  obtain ⟨ho, rfl⟩ := q4
  show sk_S _ _ _ _ _ _ (.int _ :: _) _ _
  refine sk_S.isub (dd DX8_shortBy 5 rfl) ?_
  refine sk_S.istore_n (i := 3) (dd DX8_shortBy 6 rfl) rfl (Nat.le_of_ble_eq_true rfl) rfl ?_
  refine sk_S.iload_n (i := 3) (dd DX8_shortBy 7 rfl) rfl rfl ?_
  refine sk_S.if_ge (tgt := 17) (dd DX8_shortBy 8 rfl) (by decide) (fun c10 => ?_) (fun c10 => ?_)
  · refine sk_S.iload_n (i := 3) (dd DX8_shortBy 11 rfl) rfl rfl ?_
    refine sk_S.iret (dd DX8_shortBy 12 rfl) rfl rfl ?_
    refine ⟨ho, ?_⟩
    unfold shortG
    rw [if_neg (by rw [Int32.not_lt]; exact c10)]
  · refine sk_S.iconst (v := 0) (dd DX8_shortBy 9 rfl) (by decide) ?_
    refine sk_S.goto (tgt := 18) (dd DX8_shortBy 10 rfl) (by decide) ?_
    refine sk_S.iret (dd DX8_shortBy 12 rfl) rfl rfl ?_
    refine ⟨ho, ?_⟩
    unfold shortG
    rw [if_pos (by rw [← Int32.not_le]; exact c10)]
set_option maxRecDepth 100000 in
set_option maxHeartbeats 4000000 in
theorem cM_coinsFor {l : Launch} {E : sk_V} {d : Nat} {h : sk_M} {ρ : Nat → Int32} {f : Nat} {s : Int32} (hf : f < 4) (hρ : h 55 = ρ) (hI : lawI ρ 1) : sk_K l E (d + 3) MX8_coinsFor [.ref 54, .int (nI f), .int s] h (fun r h1 => sk_o [63, 64] h h1 ∧ some (.int (coinsG ρ f s)) = r) := by
  refine sk_K.of (by decide +kernel) (Nat.le_of_ble_eq_true rfl) ?_
  show sk_S l E (d + 3) _ 0 [some (.ref 54), some (.int (nI f)), some (.int s)] [] h _
  refine sk_S.aload_n (i := 0) (dd DX8_coinsFor 0 rfl) rfl rfl ?_
  refine sk_S.iconst (v := 1) (dd DX8_coinsFor 1 rfl) (by decide) ?_
  refine sk_S.aload_n (i := 0) (dd DX8_coinsFor 2 rfl) rfl rfl ?_
  refine sk_S.getr (dd DX8_coinsFor 3 rfl) rfl fX8_9 se_54 (by decide) rfl ?_
  refine sk_S.bipush (v := 13) (dd DX8_coinsFor 4 rfl) (by decide) ?_
  refine sk_S.iload_n (i := 1) (dd DX8_coinsFor 5 rfl) rfl rfl ?_
  refine sk_S.iadd (dd DX8_coinsFor 6 rfl) ?_
  refine sk_S.iald (dd DX8_coinsFor 7 rfl) se_55 (sk_ix_e (ix_add 13 f) (by omega) (by decide)) ?_
  refine sk_S.aload_n (i := 0) (dd DX8_coinsFor 8 rfl) rfl rfl ?_
  refine sk_S.getr (dd DX8_coinsFor 9 rfl) rfl fX8_9 se_54 (by decide) rfl ?_
  refine sk_S.bipush (v := 6) (dd DX8_coinsFor 10 rfl) (by decide) ?_
  refine sk_S.iald (dd DX8_coinsFor 11 rfl) se_55 (j := 6) ⟨by decide, by decide, by decide⟩ ?_
  refine sk_S.iload_n (i := 2) (dd DX8_coinsFor 12 rfl) rfl rfl ?_
  refine sk_S.callV (dd DX8_coinsFor 13 rfl) rfl kX8_58 (cM_gives (u := 1) (by decide) hρ hI) se_54 (by decide) rfl rfl rfl rfl (Nat.le_of_ble_eq_true rfl) (fun r19 h19 q19 => ?_)
  obtain ⟨ho, rfl⟩ := q19
  show sk_S _ _ _ _ _ _ (.int _ :: _) _ _
  refine sk_S.iret (dd DX8_coinsFor 14 rfl) rfl rfl ?_
  exact ⟨ho, by rw [hρ]; rfl⟩
set_option maxRecDepth 100000 in
set_option maxHeartbeats 4000000 in
theorem cM_pays {l : Launch} {E : sk_V} {d : Nat} {h : sk_M} {n : Int32}  : sk_K l E (d + 1) MX8_pays [.ref 54, .int n] h (fun r h1 => sk_u h 55 4 (heldV (h 55 4 - n) (-99999) 99999) = h1 ∧ none = r) := by
  refine sk_K.of (by decide +kernel) (Nat.le_of_ble_eq_true rfl) ?_
  show sk_S l E (d + 1) _ 0 [some (.ref 54), some (.int n)] [] h _
  refine sk_S.aload_n (i := 0) (dd DX8_pays 0 rfl) rfl rfl ?_
  refine sk_S.getr (dd DX8_pays 1 rfl) rfl fX8_9 se_54 (by decide) rfl ?_
  refine sk_S.iconst (v := 4) (dd DX8_pays 2 rfl) (by decide) ?_
  refine sk_S.aload_n (i := 0) (dd DX8_pays 3 rfl) rfl rfl ?_
  refine sk_S.getr (dd DX8_pays 4 rfl) rfl fX8_9 se_54 (by decide) rfl ?_
  refine sk_S.iconst (v := 4) (dd DX8_pays 5 rfl) (by decide) ?_
  refine sk_S.iald (dd DX8_pays 6 rfl) se_55 (j := 4) ⟨by decide, by decide, by decide⟩ ?_
  refine sk_S.iload_n (i := 1) (dd DX8_pays 7 rfl) rfl rfl ?_
  refine sk_S.isub (dd DX8_pays 8 rfl) ?_
  refine sk_S.ldc (dd DX8_pays 9 rfl) rfl cnX8_95 ?_
  refine sk_S.ldc (dd DX8_pays 10 rfl) rfl cnX8_96 ?_
  refine sk_S.callS (dd DX8_pays 11 rfl) rfl kX8_97 cM_held rfl rfl rfl (Nat.le_of_ble_eq_true rfl) (fun r17 h17 q17 => ?_)
  obtain ⟨rfl, rfl⟩ := q17
  show sk_S _ _ _ _ _ _ (.int _ :: _) _ _
  refine sk_S.iast (dd DX8_pays 12 rfl) se_55 (j := 4) ⟨by decide, by decide, by decide⟩ ?_
  refine sk_S.vret (dd DX8_pays 13 rfl) rfl ?_
  exact ⟨rfl, rfl⟩
set_option maxRecDepth 100000 in
set_option maxHeartbeats 4000000 in
theorem cM_draw {l : Launch} {E : sk_V} {d : Nat} {h : sk_M}   : sk_K l E (d + 0) MX8_draw [.ref 54] h (fun r h1 => sk_u h 55 1 (h 55 1 * 1103515245 + 12345) = h1 ∧ some (.int (ushr8 (h 55 1 * 1103515245 + 12345))) = r) := by
  refine sk_K.of (by decide +kernel) (Nat.le_of_ble_eq_true rfl) ?_
  show sk_S l E (d + 0) _ 0 [some (.ref 54)] [] h _
  refine sk_S.aload_n (i := 0) (dd DX8_draw 0 rfl) rfl rfl ?_
  refine sk_S.getr (dd DX8_draw 1 rfl) rfl fX8_9 se_54 (by decide) rfl ?_
  refine sk_S.iconst (v := 1) (dd DX8_draw 2 rfl) (by decide) ?_
  refine sk_S.aload_n (i := 0) (dd DX8_draw 3 rfl) rfl rfl ?_
  refine sk_S.getr (dd DX8_draw 4 rfl) rfl fX8_9 se_54 (by decide) rfl ?_
  refine sk_S.iconst (v := 1) (dd DX8_draw 5 rfl) (by decide) ?_
  refine sk_S.iald (dd DX8_draw 6 rfl) se_55 (j := 1) ⟨by decide, by decide, by decide⟩ ?_
  refine sk_S.ldc (dd DX8_draw 7 rfl) rfl cnX8_174 ?_
  refine sk_S.imul (dd DX8_draw 8 rfl) ?_
  refine sk_S.sipush (v := 12345) (dd DX8_draw 9 rfl) (by decide) ?_
  refine sk_S.iadd (dd DX8_draw 10 rfl) ?_
  refine sk_S.iast (dd DX8_draw 11 rfl) se_55 (j := 1) ⟨by decide, by decide, by decide⟩ ?_
  refine sk_S.aload_n (i := 0) (dd DX8_draw 12 rfl) rfl rfl ?_
  refine sk_S.getr (dd DX8_draw 13 rfl) rfl fX8_9 se_54 (by decide) rfl ?_
  refine sk_S.iconst (v := 1) (dd DX8_draw 14 rfl) (by decide) ?_
  refine sk_S.iald (dd DX8_draw 15 rfl) se_55 (j := 1) ⟨by decide, by decide, by decide⟩ ?_
  refine sk_S.bipush (v := 8) (dd DX8_draw 16 rfl) (by decide) ?_
  refine sk_S.iushr (dd DX8_draw 17 rfl) ?_
  refine sk_S.iret (dd DX8_draw 18 rfl) rfl rfl ?_
  exact ⟨rfl, rfl⟩
end M4
