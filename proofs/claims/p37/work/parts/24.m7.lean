section M7
set_option maxRecDepth 100000 in
set_option maxHeartbeats 4000000 in
theorem cM_drawZ {l : Launch} {E : sk_V} {d : Nat} {h : sk_M} {ρ : Nat → Int32} {z : Int32} (hρ : h 55 = ρ) (hz : ρ 1 = z) : sk_K l E (d + 0) MX8_draw [.ref 54] h (fun r h1 => sk_o [55] h h1 ∧ h1 55 = upd ρ 1 (zN z) ∧ some (.int (nI (dv (zN z)))) = r) := by
  refine sk_K.of (by decide +kernel) (Nat.le_of_ble_eq_true rfl) ?_
  show sk_S l E (d + 0) _ 0 [some (.ref 54)] [] h _
  refine sk_S.aload_n (i := 0) (dd DX8_draw 0 rfl) rfl rfl ?_
  refine sk_S.getr (dd DX8_draw 1 rfl) rfl fX8_9 se_54 (by decide) rfl ?_
  refine sk_S.iconst (v := 1) (dd DX8_draw 2 rfl) (by decide) ?_
  refine sk_S.aload_n (i := 0) (dd DX8_draw 3 rfl) rfl rfl ?_
  refine sk_S.getr (dd DX8_draw 4 rfl) rfl fX8_9 se_54 (by decide) rfl ?_
  refine sk_S.iconst (v := 1) (dd DX8_draw 5 rfl) (by decide) ?_
  refine sk_S.iald (dd DX8_draw 6 rfl) se_55 (j := 1) ⟨by decide, by decide, by decide⟩ ?_
  refine sk_S.ldc (dd DX8_draw 7 rfl) rfl cnX8_174 ?_
  refine sk_S.imul (dd DX8_draw 8 rfl) ?_
  refine sk_S.sipush (v := 12345) (dd DX8_draw 9 rfl) (by decide) ?_
  refine sk_S.iadd (dd DX8_draw 10 rfl) ?_
  refine sk_S.iast (dd DX8_draw 11 rfl) se_55 (j := 1) ⟨by decide, by decide, by decide⟩ ?_
  refine sk_S.aload_n (i := 0) (dd DX8_draw 12 rfl) rfl rfl ?_
  refine sk_S.getr (dd DX8_draw 13 rfl) rfl fX8_9 se_54 (by decide) rfl ?_
  refine sk_S.iconst (v := 1) (dd DX8_draw 14 rfl) (by decide) ?_
  refine sk_S.iald (dd DX8_draw 15 rfl) se_55 (j := 1) ⟨by decide, by decide, by decide⟩ ?_
  refine sk_S.bipush (v := 8) (dd DX8_draw 16 rfl) (by decide) ?_
  refine sk_S.iushr (dd DX8_draw 17 rfl) ?_
  refine sk_S.iret (dd DX8_draw 18 rfl) rfl rfl ?_
  subst hρ; subst hz
  refine ⟨sk_o.rf.u (by decide), sk_r_eq _ _ _, ?_⟩
  rw [← (ushr8_dv _).1]
  rfl
set_option maxRecDepth 100000 in
set_option maxHeartbeats 4000000 in
theorem cM_drawn {l : Launch} {E : sk_V} {d : Nat} {h : sk_M} {ρ : Nat → Int32} (hρ : h 55 = ρ) (hb : boI ρ) (hI : lawI ρ 0) (hJ : lawI ρ 1) : sk_K l E (d + 7) MX8_drawn [.ref 54] h (fun r h1 => sk_o [55, 63, 64] h h1 ∧ h1 55 = talR (drR ρ) ∧ some (.int (allF (drR ρ) 4)) = r) := by
  refine sk_K.of (by decide +kernel) (Nat.le_of_ble_eq_true rfl) ?_
  show sk_S l E (d + 7) _ 0 [some (.ref 54), none, none, none] [] h _
  refine sk_S.aload_n (i := 0) (dd DX8_drawn 0 rfl) rfl rfl ?_
  refine sk_S.callV (dd DX8_drawn 1 rfl) rfl kX8_175 (cM_drawZ hρ rfl) se_54 (by decide) rfl rfl rfl rfl (Nat.le_of_ble_eq_true rfl) (fun r1 h1 q1 => ?_)
  obtain ⟨oa, ea, rfl⟩ := q1
  show sk_S _ _ _ _ _ _ (.int _ :: _) _ _
  refine sk_S.iconst (v := 4) (dd DX8_drawn 2 rfl) (by decide) ?_
  refine sk_S.irem (dd DX8_drawn 3 rfl) (by decide) ?_
  rw [rem_4 (by have := (ushr8_dv (zN (ρ 1))).2; omega)]
  refine sk_S.istore_n (i := 1) (dd DX8_drawn 4 rfl) rfl (Nat.le_of_ble_eq_true rfl) rfl ?_
  refine sk_S.aload_n (i := 0) (dd DX8_drawn 5 rfl) rfl rfl ?_
  refine sk_S.callV (dd DX8_drawn 6 rfl) rfl kX8_175 (cM_drawZ ea upd_eq) se_54 (by decide) rfl rfl rfl rfl (Nat.le_of_ble_eq_true rfl) (fun r8 h8 q8 => ?_)
  obtain ⟨ob, eb0, rfl⟩ := q8
  have eb : h8 55 = upd ρ 1 (zN (zN (ρ 1))) := eb0.trans upd_upd
  show sk_S _ _ _ _ _ _ (.int _ :: _) _ _
  refine sk_S.bipush (v := 30) (dd DX8_drawn 7 rfl) (by decide) ?_
  refine sk_S.irem (dd DX8_drawn 8 rfl) (by decide) ?_
  rw [rem_30 (by have := (ushr8_dv (zN (zN (ρ 1)))).2; omega)]
  refine sk_S.istore_n (i := 2) (dd DX8_drawn 9 rfl) rfl (Nat.le_of_ble_eq_true rfl) rfl ?_
  refine sk_S.aload_n (i := 0) (dd DX8_drawn 10 rfl) rfl rfl ?_
  refine sk_S.getr (dd DX8_drawn 11 rfl) rfl fX8_9 se_54 (by decide) rfl ?_
  refine sk_S.bipush (v := 9) (dd DX8_drawn 12 rfl) (by decide) ?_
  refine sk_S.iload_n (i := 1) (dd DX8_drawn 13 rfl) rfl rfl ?_
  refine sk_S.iadd (dd DX8_drawn 14 rfl) ?_
  refine sk_S.iald (dd DX8_drawn 15 rfl) se_55 (sk_ix_e (k := 9 + drF ρ) (ix_add 9 _) (by have := drF_lt (g := ρ); omega) (by decide)) ?_
  refine sk_S.iload_n (i := 2) (dd DX8_drawn 16 rfl) rfl rfl ?_
  refine sk_S.iadd (dd DX8_drawn 17 rfl) ?_
  refine sk_S.bipush (v := 99) (dd DX8_drawn 18 rfl) (by decide) ?_
  refine sk_S.icmp_gt (tgt := 38) (dd DX8_drawn 19 rfl) (by decide) (fun c28 => ?_) (fun c28 => ?_)
  · refine sk_S.aload_n (i := 0) (dd DX8_drawn 25 rfl) rfl rfl ?_
    refine sk_S.getr (dd DX8_drawn 26 rfl) rfl fX8_9 se_54 (by decide) rfl ?_
    refine sk_S.iconst (v := 3) (dd DX8_drawn 27 rfl) (by decide) ?_
    have e44 := eb
    have e44z : upd ρ 1 (zN (zN (ρ 1))) 1 = (zN (zN (ρ 1))) := upd_eq
    have eS : drS ρ = upd ρ 1 (zN (zN (ρ 1))) := by unfold drS; rw [if_neg (by rw [← eb]; exact Int32.not_le.mpr c28)]; try rfl
    refine sk_S.aload_n (i := 0) (dd DX8_drawn 28 rfl) rfl rfl ?_
    refine sk_S.callV (dd DX8_drawn 29 rfl) rfl kX8_175 (cM_drawZ (z := (zN (zN (ρ 1)))) e44 e44z) se_54 (by decide) rfl rfl rfl rfl (Nat.le_of_ble_eq_true rfl) (fun r44 h44 q44 => ?_)
    obtain ⟨od, ed, rfl⟩ := q44
    show sk_S _ _ _ _ _ _ (.int _ :: _) _ _
    refine sk_S.bipush (v := 10) (dd DX8_drawn 30 rfl) (by decide) ?_
    refine sk_S.irem (dd DX8_drawn 31 rfl) (by decide) ?_
    rw [rem_10 (by have := (ushr8_dv (zN (zN (zN (ρ 1))))).2; omega)]
    refine sk_S.iast (dd DX8_drawn 32 rfl) se_55 (j := 3) ⟨by decide, by decide, by decide⟩ ?_
    have e52 : sk_u h44 55 3 (nI (dv (zN (zN (zN (ρ 1)))) % 10)) 55 = drR ρ := by rw [sk_u, sk_r_eq, ed]; unfold drR; rw [eS]; try rfl
    refine sk_S.aload_n (i := 0) (dd DX8_drawn 33 rfl) rfl rfl ?_
    refine sk_S.callV (dd DX8_drawn 34 rfl) rfl kX8_171 (cM_tallies (ρ := drR ρ) e52 (boI_cg (drR_no (Or.inl rfl)) hb) (lawI_cg (fun k hk => drR_no (Or.inr (by omega))) hI)) se_54 (by decide) rfl rfl rfl rfl (Nat.le_of_ble_eq_true rfl) (fun r52 h52 q52 => ?_)
    obtain ⟨oe, ee, rfl⟩ := q52
    show sk_S _ _ _ _ _ _ (.int _ :: _) _ _
    refine sk_S.iret (dd DX8_drawn 35 rfl) rfl rfl ?_
    refine ⟨(((((oa.more (S1 := [55, 63, 64]) (by decide)).tr (ob.more (by decide)))).tr (od.more (by decide))).u (by decide)).tr oe, ee, rfl⟩
  · refine sk_S.aload_n (i := 0) (dd DX8_drawn 20 rfl) rfl rfl ?_
    refine sk_S.iload_n (i := 1) (dd DX8_drawn 21 rfl) rfl rfl ?_
    refine sk_S.iload_n (i := 2) (dd DX8_drawn 22 rfl) rfl rfl ?_
    refine sk_S.callV (dd DX8_drawn 23 rfl) rfl kX8_101 (cM_sells drF_lt eb (lawI_cg (fun k hk => upd_ne (by omega)) hJ)) se_54 (by decide) rfl rfl rfl rfl (Nat.le_of_ble_eq_true rfl) (fun r34 h34 q34 => ?_)
    obtain ⟨oc, ec, rfl⟩ := q34
    show sk_S _ _ _ _ _ _ (.int _ :: _) _ _
    refine sk_S.istore_n (i := 3) (dd DX8_drawn 24 rfl) rfl (Nat.le_of_ble_eq_true rfl) rfl ?_
    refine sk_S.aload_n (i := 0) (dd DX8_drawn 25 rfl) rfl rfl ?_
    refine sk_S.getr (dd DX8_drawn 26 rfl) rfl fX8_9 se_54 (by decide) rfl ?_
    refine sk_S.iconst (v := 3) (dd DX8_drawn 27 rfl) (by decide) ?_
    have e44 := ec
    have e44z : sellR (upd ρ 1 (zN (zN (ρ 1)))) (drF ρ) (nI (drN ρ)) 1 = (zN (zN (ρ 1))) := by rw [sellR_no drF_lt (by omega), upd_eq]
    have eS : drS ρ = sellR (upd ρ 1 (zN (zN (ρ 1)))) (drF ρ) (nI (drN ρ)) := by unfold drS; rw [if_pos (by rw [← eb]; exact Int32.not_lt.mp c28)]; try rfl
    refine sk_S.aload_n (i := 0) (dd DX8_drawn 28 rfl) rfl rfl ?_
    refine sk_S.callV (dd DX8_drawn 29 rfl) rfl kX8_175 (cM_drawZ (z := (zN (zN (ρ 1)))) e44 e44z) se_54 (by decide) rfl rfl rfl rfl (Nat.le_of_ble_eq_true rfl) (fun r44 h44 q44 => ?_)
    obtain ⟨od, ed, rfl⟩ := q44
    show sk_S _ _ _ _ _ _ (.int _ :: _) _ _
    refine sk_S.bipush (v := 10) (dd DX8_drawn 30 rfl) (by decide) ?_
    refine sk_S.irem (dd DX8_drawn 31 rfl) (by decide) ?_
    rw [rem_10 (by have := (ushr8_dv (zN (zN (zN (ρ 1))))).2; omega)]
    refine sk_S.iast (dd DX8_drawn 32 rfl) se_55 (j := 3) ⟨by decide, by decide, by decide⟩ ?_
    have e52 : sk_u h44 55 3 (nI (dv (zN (zN (zN (ρ 1)))) % 10)) 55 = drR ρ := by rw [sk_u, sk_r_eq, ed]; unfold drR; rw [eS]; try rfl
    refine sk_S.aload_n (i := 0) (dd DX8_drawn 33 rfl) rfl rfl ?_
    refine sk_S.callV (dd DX8_drawn 34 rfl) rfl kX8_171 (cM_tallies (ρ := drR ρ) e52 (boI_cg (drR_no (Or.inl rfl)) hb) (lawI_cg (fun k hk => drR_no (Or.inr (by omega))) hI)) se_54 (by decide) rfl rfl rfl rfl (Nat.le_of_ble_eq_true rfl) (fun r52 h52 q52 => ?_)
    obtain ⟨oe, ee, rfl⟩ := q52
    show sk_S _ _ _ _ _ _ (.int _ :: _) _ _
    refine sk_S.iret (dd DX8_drawn 35 rfl) rfl rfl ?_
    refine ⟨(((((oa.more (S1 := [55, 63, 64]) (by decide)).tr (ob.more (by decide))).tr oc).tr (od.more (by decide))).u (by decide)).tr oe, ee, rfl⟩
set_option maxRecDepth 100000 in
set_option maxHeartbeats 4000000 in
theorem lp_loose {l : Launch} {E : sk_V} {d : Nat} {h : sk_M} {ρ : Nat → Int32} {n : Nat} (hn : n ≤ 30) (hb : boI ρ) (hI : lawI ρ 0) (hJ : lawI ρ 1) : ∀ (m i : Nat) (g : sk_M), i + m = n → sk_o [55, 63, 64] h g → g 55 = looR ρ i → sk_S l E (d + 8) MX8_loose 42 [some (.ref 54), some (.int (nI n)), some (.int (looA ρ i)), some (.int (nI i))] [] g (fun r h1 => sk_o [55, 63, 64] h h1 ∧ h1 55 = looR ρ n ∧ some (.int (looA ρ n)) = r)
  | 0, i, g, hi, ho, hg => by
    have hin : i = n := by omega
    subst hin
    refine sk_S.iload_n (i := 3) (dd DX8_loose 25 rfl) rfl rfl ?_
    refine sk_S.iload_n (i := 1) (dd DX8_loose 26 rfl) rfl rfl ?_
    refine sk_S.icmp_ge (tgt := 60) (dd DX8_loose 27 rfl) (by decide) (fun c44 => ?_) (fun c44 => absurd (Int32.le_refl _) c44)
    refine sk_S.iload_n (i := 2) (dd DX8_loose 35 rfl) rfl rfl ?_
    refine sk_S.iret (dd DX8_loose 36 rfl) rfl rfl ?_
    exact ⟨ho, hg, rfl⟩
  | m + 1, i, g, hi, ho, hg => by
    refine sk_S.iload_n (i := 3) (dd DX8_loose 25 rfl) rfl rfl ?_
    refine sk_S.iload_n (i := 1) (dd DX8_loose 26 rfl) rfl rfl ?_
    refine sk_S.icmp_ge (tgt := 60) (dd DX8_loose 27 rfl) (by decide) (fun c44 => absurd c44 (nI_ge (by omega) (by omega))) (fun c44 => ?_)
    refine sk_S.iload_n (i := 2) (dd DX8_loose 28 rfl) rfl rfl ?_
    refine sk_S.aload_n (i := 0) (dd DX8_loose 29 rfl) rfl rfl ?_
    refine sk_S.callV (dd DX8_loose 30 rfl) rfl kX8_178 (cM_drawn hg (boI_cg (looR_no (Or.inl rfl) i) hb) (lawI_cg (fun k hk => looR_no (Or.inr (by omega)) i) hI) (lawI_cg (fun k hk => looR_no (Or.inr (by omega)) i) hJ)) se_54 (by decide) rfl rfl rfl rfl (Nat.le_of_ble_eq_true rfl) (fun r49 h49 q49 => ?_)
    obtain ⟨o2, e2, rfl⟩ := q49
    show sk_S _ _ _ _ _ _ (.int _ :: _) _ _
    refine sk_S.iadd (dd DX8_loose 31 rfl) ?_
    refine sk_S.istore_n (i := 2) (dd DX8_loose 32 rfl) rfl (Nat.le_of_ble_eq_true rfl) rfl ?_
    refine sk_S.iinc (i := 3) (v := _ + 1) (dd DX8_loose 33 rfl) rfl rfl rfl ?_
    refine sk_S.goto (tgt := 42) (dd DX8_loose 34 rfl) (by decide) ?_
    exact sk_S.L (lp_loose hn hb hI hJ m (i + 1) _ (by omega) (ho.tr o2) e2) (by rw [nI_succ]; rfl)
set_option maxRecDepth 100000 in
set_option maxHeartbeats 4000000 in
theorem cM_loose {l : Launch} {E : sk_V} {d : Nat} {h : sk_M} {x : Int32} (hb : boI (h 55)) (hI : lawI (h 55) 0) (hJ : lawI (h 55) 1) : sk_K l E (d + 8) MX8_loose [.ref 54, .int x] h (fun r h1 => (¬ (1 ≤ x ∧ x ≤ 30) ∧ erM h 1 h1 r) ∨ (∃ n, n ≤ 30 ∧ 1 ≤ n ∧ x = nI n ∧ ((¬ h 55 0 + x ≤ 9999 ∧ erM h 3 h1 r) ∨ (h 55 0 + x ≤ 9999 ∧ sk_o [55, 63, 64] h h1 ∧ h1 55 = looR (h 55) n ∧ some (.int (looA (h 55) n)) = r)))) := by
  refine sk_K.of (by decide +kernel) (Nat.le_of_ble_eq_true rfl) ?_
  show sk_S l E (d + 8) _ 0 [some (.ref 54), some (.int x), none, none] [] h _
  refine sk_S.iload_n (i := 1) (dd DX8_loose 0 rfl) rfl rfl ?_
  refine sk_S.iconst (v := 1) (dd DX8_loose 1 rfl) (by decide) ?_
  refine sk_S.bipush (v := 30) (dd DX8_loose 2 rfl) (by decide) ?_
  refine sk_S.callS (dd DX8_loose 3 rfl) rfl kX8_47 cM_in rfl rfl rfl (Nat.le_of_ble_eq_true rfl) (fun r4 h4 q4 => ?_)
  obtain ⟨rfl, rfl⟩ := q4
  show sk_S _ _ _ _ _ _ (.int _ :: _) _ _
  refine sk_S.bif_ne (tgt := 17) (dd DX8_loose 4 rfl) (by decide) (fun c7 => ?_) (fun c7 => ?_)
  · obtain ⟨n, hn1, hn, rfl⟩ := rg30 c7
    refine sk_S.aload_n (i := 0) (dd DX8_loose 9 rfl) rfl rfl ?_
    refine sk_S.getr (dd DX8_loose 10 rfl) rfl fX8_9 se_54 (by decide) rfl ?_
    refine sk_S.iconst (v := 0) (dd DX8_loose 11 rfl) (by decide) ?_
    refine sk_S.iald (dd DX8_loose 12 rfl) se_55 (j := 0) ⟨by decide, by decide, by decide⟩ ?_
    refine sk_S.iload_n (i := 1) (dd DX8_loose 13 rfl) rfl rfl ?_
    refine sk_S.iadd (dd DX8_loose 14 rfl) ?_
    refine sk_S.sipush (v := 9999) (dd DX8_loose 15 rfl) (by decide) ?_
    refine sk_S.icmp_le (tgt := 38) (dd DX8_loose 16 rfl) (by decide) (fun c28 => ?_) (fun c28 => ?_)
    · refine sk_S.iconst (v := 0) (dd DX8_loose 21 rfl) (by decide) ?_
      refine sk_S.istore_n (i := 2) (dd DX8_loose 22 rfl) rfl (Nat.le_of_ble_eq_true rfl) rfl ?_
      refine sk_S.iconst (v := 0) (dd DX8_loose 23 rfl) (by decide) ?_
      refine sk_S.istore_n (i := 3) (dd DX8_loose 24 rfl) rfl (Nat.le_of_ble_eq_true rfl) rfl ?_
      refine sk_S.mono (lp_loose hn hb hI hJ n 0 h (Nat.zero_add _) sk_o.rf rfl) ?_
      rintro r h1 ⟨q1, q2, q3⟩
      exact Or.inr ⟨n, hn, hn1, rfl, Or.inr ⟨c28, q1, q2, q3⟩⟩
    · refine sk_S.aload_n (i := 0) (dd DX8_loose 17 rfl) rfl rfl ?_
      refine sk_S.ldc (dd DX8_loose 18 rfl) rfl cnX8_100 ?_
      refine sk_S.callV (dd DX8_loose 19 rfl) rfl kX8_74 (cM_error (k := 3) ⟨by decide, by decide, by decide⟩) se_54 (by decide) rfl rfl rfl rfl (Nat.le_of_ble_eq_true rfl) (fun r34 h34 q34 => ?_)
      obtain ⟨rfl, rfl⟩ := q34
      show sk_S _ _ _ _ _ _ (.int _ :: _) _ _
      refine sk_S.iret (dd DX8_loose 20 rfl) rfl rfl ?_
      exact Or.inr ⟨n, hn, hn1, rfl, Or.inl ⟨c28, rfl, rfl⟩⟩
  · refine sk_S.aload_n (i := 0) (dd DX8_loose 5 rfl) rfl rfl ?_
    refine sk_S.ldc (dd DX8_loose 6 rfl) rfl cnX8_73 ?_
    refine sk_S.callV (dd DX8_loose 7 rfl) rfl kX8_74 (cM_error (k := 1) ⟨by decide, by decide, by decide⟩) se_54 (by decide) rfl rfl rfl rfl (Nat.le_of_ble_eq_true rfl) (fun r13 h13 q13 => ?_)
    obtain ⟨rfl, rfl⟩ := q13
    show sk_S _ _ _ _ _ _ (.int _ :: _) _ _
    refine sk_S.iret (dd DX8_loose 8 rfl) rfl rfl ?_
    exact Or.inl ⟨c7, rfl, rfl⟩
set_option maxRecDepth 100000 in
set_option maxHeartbeats 4000000 in
theorem lp_enough {l : Launch} {E : sk_V} {d : Nat} {h : sk_M} {ρ : Nat → Int32} {f n : Int32} (hρ : h 55 = ρ) (hb : boI ρ) (hI : lawI ρ 0) : ∀ (m w : Nat) (g : sk_M) (x : Int32), w + m = 10 → sk_o [55, 63, 64] h g → g 55 = upd ρ 3 x → sk_S l E (d + 5) MX8_enough 13 [some (.ref 54), some (.int f), some (.int n), some (.int (ρ 3)), some (.int (nI (cntN (enP ρ f n) w))), some (.int (nI w))] [] g (fun r h1 => sk_o [63, 64] h h1 ∧ some (.int (nI (cntN (enP ρ f n) 10))) = r)
  | 0, w, g, x, hw, ho, hg => by
    have hwn : w = 10 := by omega
    subst hwn
    refine sk_S.iload (i := 5) (dd DX8_enough 9 rfl) rfl ?_
    refine sk_S.bipush (v := 10) (dd DX8_enough 10 rfl) (by decide) ?_
    refine sk_S.icmp_ge (tgt := 54) (dd DX8_enough 11 rfl) (by decide) (fun c17 => ?_) (fun c17 => absurd (by decide) c17)
    refine sk_S.aload_n (i := 0) (dd DX8_enough 31 rfl) rfl rfl ?_
    refine sk_S.getr (dd DX8_enough 32 rfl) rfl fX8_9 se_54 (by decide) rfl ?_
    refine sk_S.iconst (v := 3) (dd DX8_enough 33 rfl) (by decide) ?_
    refine sk_S.iload_n (i := 3) (dd DX8_enough 34 rfl) rfl rfl ?_
    refine sk_S.iast (dd DX8_enough 35 rfl) se_55 (j := 3) ⟨by decide, by decide, by decide⟩ ?_
    refine sk_S.iload (i := 4) (dd DX8_enough 36 rfl) rfl ?_
    refine sk_S.iret (dd DX8_enough 37 rfl) rfl rfl ?_
    refine ⟨back_o (ho.u (by decide)) ?_, rfl⟩
    rw [sk_u, sk_r_eq, hg, upd_upd, upd_self, hρ]
  | m + 1, w, g, x, hw, ho, hg => by
    refine sk_S.iload (i := 5) (dd DX8_enough 9 rfl) rfl ?_
    refine sk_S.bipush (v := 10) (dd DX8_enough 10 rfl) (by decide) ?_
    refine sk_S.icmp_ge (tgt := 54) (dd DX8_enough 11 rfl) (by decide) (fun c17 => absurd c17 (nI_ge (b := 10) (by omega) (by decide))) (fun c17 => ?_)
    refine sk_S.aload_n (i := 0) (dd DX8_enough 12 rfl) rfl rfl ?_
    refine sk_S.getr (dd DX8_enough 13 rfl) rfl fX8_9 se_54 (by decide) rfl ?_
    refine sk_S.iconst (v := 3) (dd DX8_enough 14 rfl) (by decide) ?_
    refine sk_S.iload (i := 5) (dd DX8_enough 15 rfl) rfl ?_
    refine sk_S.iast (dd DX8_enough 16 rfl) se_55 (j := 3) ⟨by decide, by decide, by decide⟩ ?_
    have e55 : sk_u g 55 3 (nI w) 55 = upd ρ 3 (nI w) := by rw [sk_u, sk_r_eq, hg, upd_upd]
    refine sk_S.iload (i := 4) (dd DX8_enough 17 rfl) rfl ?_
    refine sk_S.aload_n (i := 0) (dd DX8_enough 18 rfl) rfl rfl ?_
    refine sk_S.iload_n (i := 1) (dd DX8_enough 19 rfl) rfl rfl ?_
    refine sk_S.iload_n (i := 2) (dd DX8_enough 20 rfl) rfl rfl ?_
    refine sk_S.callV (dd DX8_enough 21 rfl) rfl kX8_66 (cM_catchBy e55 (boI_cg (upd_ne (by decide)) hb) (lawI_cg (fun k hk => upd_ne (by omega)) hI)) se_54 (by decide) rfl rfl rfl rfl (Nat.le_of_ble_eq_true rfl) (fun r33 h33 q33 => ?_)
    obtain ⟨o2, rfl⟩ := q33
    rw [catchG_w]
    show sk_S _ _ _ _ _ _ (.int _ :: _) _ _
    refine sk_S.iload_n (i := 2) (dd DX8_enough 22 rfl) rfl rfl ?_
    refine sk_S.icmp_lt (tgt := 44) (dd DX8_enough 23 rfl) (by decide) (fun c37 => ?_) (fun c37 => ?_)
    · refine sk_S.iconst (v := 0) (dd DX8_enough 26 rfl) (by decide) ?_
      refine sk_S.iadd (dd DX8_enough 27 rfl) ?_
      refine sk_S.istore (i := 4) (dd DX8_enough 28 rfl) (Nat.le_of_ble_eq_true rfl) rfl ?_
      refine sk_S.iinc (i := 5) (v := _ + 1) (dd DX8_enough 29 rfl) rfl rfl rfl ?_
      refine sk_S.goto (tgt := 13) (dd DX8_enough 30 rfl) (by decide) ?_
      refine sk_S.L (lp_enough hρ hb hI m (w + 1) _ (nI w) (by omega) ((ho.u (by decide)).tr (o2.more (by decide))) ((o2 55 (by decide)).trans e55)) ?_
      have e9 : cntN (enP ρ f n) (w + 1) = cntN (enP ρ f n) w + 0 := by
        show cntN (enP ρ f n) w + (if _ then 1 else 0) = _
        rw [if_neg (by unfold enP; rw [decide_eq_true_iff, Int32.not_le]; exact c37)]
      rw [e9, ← nI_add (cntN (enP ρ f n) w), nI_succ w]; rfl
    · refine sk_S.iconst (v := 1) (dd DX8_enough 24 rfl) (by decide) ?_
      refine sk_S.goto (tgt := 45) (dd DX8_enough 25 rfl) (by decide) ?_
      refine sk_S.iadd (dd DX8_enough 27 rfl) ?_
      refine sk_S.istore (i := 4) (dd DX8_enough 28 rfl) (Nat.le_of_ble_eq_true rfl) rfl ?_
      refine sk_S.iinc (i := 5) (v := _ + 1) (dd DX8_enough 29 rfl) rfl rfl rfl ?_
      refine sk_S.goto (tgt := 13) (dd DX8_enough 30 rfl) (by decide) ?_
      refine sk_S.L (lp_enough hρ hb hI m (w + 1) _ (nI w) (by omega) ((ho.u (by decide)).tr (o2.more (by decide))) ((o2 55 (by decide)).trans e55)) ?_
      have e9 : cntN (enP ρ f n) (w + 1) = cntN (enP ρ f n) w + 1 := by
        show cntN (enP ρ f n) w + (if _ then 1 else 0) = _
        rw [if_pos (by unfold enP; rw [decide_eq_true_iff, ← Int32.not_lt]; exact c37)]
      rw [e9, ← nI_add (cntN (enP ρ f n) w), nI_succ w]; rfl
set_option maxRecDepth 100000 in
set_option maxHeartbeats 4000000 in
theorem cM_enough {l : Launch} {E : sk_V} {d : Nat} {h : sk_M} {ρ : Nat → Int32} {f n : Int32} (hρ : h 55 = ρ) (hb : boI ρ) (hI : lawI ρ 0) : sk_K l E (d + 5) MX8_enough [.ref 54, .int f, .int n] h (fun r h1 => sk_o [63, 64] h h1 ∧ some (.int (nI (cntN (enP ρ f n) 10))) = r) := by
  refine sk_K.of (by decide +kernel) (Nat.le_of_ble_eq_true rfl) ?_
  show sk_S l E (d + 5) _ 0 [some (.ref 54), some (.int f), some (.int n), none, none, none] [] h _
  refine sk_S.aload_n (i := 0) (dd DX8_enough 0 rfl) rfl rfl ?_
  refine sk_S.getr (dd DX8_enough 1 rfl) rfl fX8_9 se_54 (by decide) rfl ?_
  refine sk_S.iconst (v := 3) (dd DX8_enough 2 rfl) (by decide) ?_
  refine sk_S.iald (dd DX8_enough 3 rfl) se_55 (j := 3) ⟨by decide, by decide, by decide⟩ ?_
  refine sk_S.istore_n (i := 3) (dd DX8_enough 4 rfl) rfl (Nat.le_of_ble_eq_true rfl) rfl ?_
  refine sk_S.iconst (v := 0) (dd DX8_enough 5 rfl) (by decide) ?_
  refine sk_S.istore (i := 4) (dd DX8_enough 6 rfl) (Nat.le_of_ble_eq_true rfl) rfl ?_
  refine sk_S.iconst (v := 0) (dd DX8_enough 7 rfl) (by decide) ?_
  refine sk_S.istore (i := 5) (dd DX8_enough 8 rfl) (Nat.le_of_ble_eq_true rfl) rfl ?_
  refine sk_S.L (lp_enough hρ hb hI 10 0 h (ρ 3) rfl sk_o.rf (hρ.trans upd_self.symm)) ?_
  rw [hρ]; rfl
set_option maxRecDepth 100000 in
set_option maxHeartbeats 4000000 in
theorem lp_shortest {l : Launch} {E : sk_V} {d : Nat} {h : sk_M} {ρ : Nat → Int32} {f n : Int32} (hρ : h 55 = ρ) (hb : boI ρ) (hI : lawI ρ 0) : ∀ (m w : Nat) (g : sk_M) (x : Int32), w + m = 10 → sk_o [55, 63, 64] h g → g 55 = upd ρ 3 x → sk_S l E (d + 6) MX8_shortest 13 [some (.ref 54), some (.int f), some (.int n), some (.int (ρ 3)), some (.int (sumN (shW ρ f n) w)), some (.int (nI w))] [] g (fun r h1 => sk_o [63, 64] h h1 ∧ some (.int (sumN (shW ρ f n) 10)) = r)
  | 0, w, g, x, hw, ho, hg => by
    have hwn : w = 10 := by omega
    subst hwn
    refine sk_S.iload (i := 5) (dd DX8_shortest 9 rfl) rfl ?_
    refine sk_S.bipush (v := 10) (dd DX8_shortest 10 rfl) (by decide) ?_
    refine sk_S.icmp_ge (tgt := 45) (dd DX8_shortest 11 rfl) (by decide) (fun c17 => ?_) (fun c17 => absurd (by decide) c17)
    refine sk_S.aload_n (i := 0) (dd DX8_shortest 26 rfl) rfl rfl ?_
    refine sk_S.getr (dd DX8_shortest 27 rfl) rfl fX8_9 se_54 (by decide) rfl ?_
    refine sk_S.iconst (v := 3) (dd DX8_shortest 28 rfl) (by decide) ?_
    refine sk_S.iload_n (i := 3) (dd DX8_shortest 29 rfl) rfl rfl ?_
    refine sk_S.iast (dd DX8_shortest 30 rfl) se_55 (j := 3) ⟨by decide, by decide, by decide⟩ ?_
    refine sk_S.iload (i := 4) (dd DX8_shortest 31 rfl) rfl ?_
    refine sk_S.iret (dd DX8_shortest 32 rfl) rfl rfl ?_
    refine ⟨back_o (ho.u (by decide)) ?_, rfl⟩
    rw [sk_u, sk_r_eq, hg, upd_upd, upd_self, hρ]
  | m + 1, w, g, x, hw, ho, hg => by
    refine sk_S.iload (i := 5) (dd DX8_shortest 9 rfl) rfl ?_
    refine sk_S.bipush (v := 10) (dd DX8_shortest 10 rfl) (by decide) ?_
    refine sk_S.icmp_ge (tgt := 45) (dd DX8_shortest 11 rfl) (by decide) (fun c17 => absurd c17 (nI_ge (b := 10) (by omega) (by decide))) (fun c17 => ?_)
    refine sk_S.aload_n (i := 0) (dd DX8_shortest 12 rfl) rfl rfl ?_
    refine sk_S.getr (dd DX8_shortest 13 rfl) rfl fX8_9 se_54 (by decide) rfl ?_
    refine sk_S.iconst (v := 3) (dd DX8_shortest 14 rfl) (by decide) ?_
    refine sk_S.iload (i := 5) (dd DX8_shortest 15 rfl) rfl ?_
    refine sk_S.iast (dd DX8_shortest 16 rfl) se_55 (j := 3) ⟨by decide, by decide, by decide⟩ ?_
    have e55 : sk_u g 55 3 (nI w) 55 = upd ρ 3 (nI w) := by rw [sk_u, sk_r_eq, hg, upd_upd]
    refine sk_S.iload (i := 4) (dd DX8_shortest 17 rfl) rfl ?_
    refine sk_S.aload_n (i := 0) (dd DX8_shortest 18 rfl) rfl rfl ?_
    refine sk_S.iload_n (i := 1) (dd DX8_shortest 19 rfl) rfl rfl ?_
    refine sk_S.iload_n (i := 2) (dd DX8_shortest 20 rfl) rfl rfl ?_
    refine sk_S.callV (dd DX8_shortest 21 rfl) rfl kX8_165 (cM_shortBy e55 (boI_cg (upd_ne (by decide)) hb) (lawI_cg (fun k hk => upd_ne (by omega)) hI)) se_54 (by decide) rfl rfl rfl rfl (Nat.le_of_ble_eq_true rfl) (fun r33 h33 q33 => ?_)
    obtain ⟨o2, rfl⟩ := q33
    rw [shortG_w]
    show sk_S _ _ _ _ _ _ (.int _ :: _) _ _
    refine sk_S.iadd (dd DX8_shortest 22 rfl) ?_
    refine sk_S.istore (i := 4) (dd DX8_shortest 23 rfl) (Nat.le_of_ble_eq_true rfl) rfl ?_
    refine sk_S.iinc (i := 5) (v := _ + 1) (dd DX8_shortest 24 rfl) rfl rfl rfl ?_
    refine sk_S.goto (tgt := 13) (dd DX8_shortest 25 rfl) (by decide) ?_
    exact sk_S.L (lp_shortest hρ hb hI m (w + 1) _ (nI w) (by omega) ((ho.u (by decide)).tr (o2.more (by decide))) ((o2 55 (by decide)).trans e55)) (by rw [nI_succ]; rfl)
set_option maxRecDepth 100000 in
set_option maxHeartbeats 4000000 in
theorem cM_shortest {l : Launch} {E : sk_V} {d : Nat} {h : sk_M} {ρ : Nat → Int32} {f n : Int32} (hρ : h 55 = ρ) (hb : boI ρ) (hI : lawI ρ 0) : sk_K l E (d + 6) MX8_shortest [.ref 54, .int f, .int n] h (fun r h1 => sk_o [63, 64] h h1 ∧ some (.int (sumN (shW ρ f n) 10)) = r) := by
  refine sk_K.of (by decide +kernel) (Nat.le_of_ble_eq_true rfl) ?_
  show sk_S l E (d + 6) _ 0 [some (.ref 54), some (.int f), some (.int n), none, none, none] [] h _
  refine sk_S.aload_n (i := 0) (dd DX8_shortest 0 rfl) rfl rfl ?_
  refine sk_S.getr (dd DX8_shortest 1 rfl) rfl fX8_9 se_54 (by decide) rfl ?_
  refine sk_S.iconst (v := 3) (dd DX8_shortest 2 rfl) (by decide) ?_
  refine sk_S.iald (dd DX8_shortest 3 rfl) se_55 (j := 3) ⟨by decide, by decide, by decide⟩ ?_
  refine sk_S.istore_n (i := 3) (dd DX8_shortest 4 rfl) rfl (Nat.le_of_ble_eq_true rfl) rfl ?_
  refine sk_S.iconst (v := 0) (dd DX8_shortest 5 rfl) (by decide) ?_
  refine sk_S.istore (i := 4) (dd DX8_shortest 6 rfl) (Nat.le_of_ble_eq_true rfl) rfl ?_
  refine sk_S.iconst (v := 0) (dd DX8_shortest 7 rfl) (by decide) ?_
  refine sk_S.istore (i := 5) (dd DX8_shortest 8 rfl) (Nat.le_of_ble_eq_true rfl) rfl ?_
  refine sk_S.L (lp_shortest hρ hb hI 10 0 h (ρ 3) rfl sk_o.rf (hρ.trans upd_self.symm)) ?_
  rw [hρ]; rfl
set_option maxRecDepth 100000 in
set_option maxHeartbeats 4000000 in
theorem lp_safe {l : Launch} {E : sk_V} {d : Nat} {h : sk_M} {ρ : Nat → Int32} {f : Int32} (hρ : h 55 = ρ) (hb : boI ρ) (hI : lawI ρ 0) : ∀ (n : Nat) (g : sk_M), n ≤ 99 → sk_o [63, 64] h g → sk_S l E (d + 6) MX8_safe 17 [some (.ref 54), some (.int f), some (.int (nI n))] [] g (fun r h1 => sk_o [63, 64] h h1 ∧ some (.int (nI (safeN ρ f n))) = r)
  | 0, g, hn, ho => by
    refine sk_S.iload_n (i := 2) (dd DX8_safe 9 rfl) rfl rfl ?_
    refine sk_S.if_le (tgt := 38) (dd DX8_safe 10 rfl) (by decide) (fun c18 => ?_) (fun c18 => absurd (by decide) c18)
    refine sk_S.iload_n (i := 2) (dd DX8_safe 19 rfl) rfl rfl ?_
    refine sk_S.iret (dd DX8_safe 20 rfl) rfl rfl ?_
    exact ⟨ho, rfl⟩
  | n + 1, g, hn, ho => by
    have e55 : g 55 = ρ := (ho 55 (by decide)).trans hρ
    have hc := cntN_le (enP ρ f (nI (n + 1))) 10
    refine sk_S.iload_n (i := 2) (dd DX8_safe 9 rfl) rfl rfl ?_
    refine sk_S.if_le (tgt := 38) (dd DX8_safe 10 rfl) (by decide) (fun c18 => absurd c18 (nI_nle (by omega) (by omega))) (fun c18 => ?_)
    refine sk_S.aload_n (i := 0) (dd DX8_safe 11 rfl) rfl rfl ?_
    refine sk_S.iload_n (i := 1) (dd DX8_safe 12 rfl) rfl rfl ?_
    refine sk_S.iload_n (i := 2) (dd DX8_safe 13 rfl) rfl rfl ?_
    refine sk_S.callV (dd DX8_safe 14 rfl) rfl kX8_184 (cM_enough e55 hb hI) se_54 (by decide) rfl rfl rfl rfl (Nat.le_of_ble_eq_true rfl) (fun r24 h24 q24 => ?_)
    obtain ⟨o2, rfl⟩ := q24
    show sk_S _ _ _ _ _ _ (.int _ :: _) _ _
    refine sk_S.bipush (v := 10) (dd DX8_safe 15 rfl) (by decide) ?_
    refine sk_S.icmp_ge (tgt := 38) (dd DX8_safe 16 rfl) (by decide) (fun c29 => ?_) (fun c29 => ?_)
    · refine sk_S.iload_n (i := 2) (dd DX8_safe 19 rfl) rfl rfl ?_
      refine sk_S.iret (dd DX8_safe 20 rfl) rfl rfl ?_
      have e9 : cntN (enP ρ f (nI (n + 1))) 10 = 10 := by
        have h2 : nI 10 ≤ nI (cntN (enP ρ f (nI (n + 1))) 10) := c29
        rw [nI_leI (by decide) (by omega)] at h2
        omega
      refine ⟨ho.tr o2, ?_⟩
      show some (Value.int (nI (if _ then _ else _))) = _
      rw [if_pos e9]
    · refine sk_S.iinc (i := 2) (v := _ - 1) (dd DX8_safe 17 rfl) rfl iinc_m1 rfl ?_
      refine sk_S.goto (tgt := 17) (dd DX8_safe 18 rfl) (by decide) ?_
      have e9 : safeN ρ f (n + 1) = safeN ρ f n := by
        show (if _ then _ else _) = _
        rw [if_neg]
        intro q
        apply c29
        rw [q]
        decide
      rw [e9]
      exact sk_S.L (lp_safe hρ hb hI n _ (by omega) (ho.tr o2)) (by rw [← nI_pred n]; rfl)
set_option maxRecDepth 100000 in
set_option maxHeartbeats 4000000 in
theorem cM_safe {l : Launch} {E : sk_V} {d : Nat} {h : sk_M} {f : Int32} (hb : boI (h 55)) (hI : lawI (h 55) 0) : sk_K l E (d + 6) MX8_safe [.ref 54, .int f] h (fun r h1 => (¬ inN f 4 ∧ erM h 1 h1 r) ∨ (inN f 4 ∧ sk_o [63, 64] h h1 ∧ some (.int (nI (safeN (h 55) f 99))) = r)) := by
  refine sk_K.of (by decide +kernel) (Nat.le_of_ble_eq_true rfl) ?_
  show sk_S l E (d + 6) _ 0 [some (.ref 54), some (.int f), none] [] h _
  refine sk_S.iload_n (i := 1) (dd DX8_safe 0 rfl) rfl rfl ?_
  refine sk_S.callS (dd DX8_safe 1 rfl) rfl kX8_89 cM_isFish rfl rfl rfl (Nat.le_of_ble_eq_true rfl) (fun r1 h1 q1 => ?_)
  obtain ⟨rfl, rfl⟩ := q1
  show sk_S _ _ _ _ _ _ (.int _ :: _) _ _
  refine sk_S.bif_ne (tgt := 14) (dd DX8_safe 2 rfl) (by decide) (fun c4 => ?_) (fun c4 => ?_)
  · refine sk_S.bipush (v := 99) (dd DX8_safe 7 rfl) (by decide) ?_
    refine sk_S.istore_n (i := 2) (dd DX8_safe 8 rfl) rfl (Nat.le_of_ble_eq_true rfl) rfl ?_
    refine sk_S.mono (lp_safe rfl hb hI 99 h (by omega) sk_o.rf) ?_
    rintro r h1 ⟨q1, q2⟩
    exact Or.inr ⟨(inN_le (by decide)).mp c4, q1, q2⟩
  · refine sk_S.aload_n (i := 0) (dd DX8_safe 3 rfl) rfl rfl ?_
    refine sk_S.ldc (dd DX8_safe 4 rfl) rfl cnX8_73 ?_
    refine sk_S.callV (dd DX8_safe 5 rfl) rfl kX8_74 (cM_error (k := 1) ⟨by decide, by decide, by decide⟩) se_54 (by decide) rfl rfl rfl rfl (Nat.le_of_ble_eq_true rfl) (fun r10 h10 q10 => ?_)
    obtain ⟨rfl, rfl⟩ := q10
    show sk_S _ _ _ _ _ _ (.int _ :: _) _ _
    refine sk_S.iret (dd DX8_safe 6 rfl) rfl rfl ?_
    exact Or.inl ⟨fun q => c4 ((inN_le (by decide)).mpr q), rfl, rfl⟩
end M7
