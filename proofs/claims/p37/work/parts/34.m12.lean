section M12
set_option maxRecDepth 100000 in
set_option maxHeartbeats 4000000 in
theorem lp_fits {l : Launch} {E : sk_V} {d : Nat} {h : sk_M} {ρ : Nat → Int32} {s len : Nat} {w : Int32} (hs4 : s < 4) (hρ : h 55 = ρ) (hb : boI ρ) (hI : lawI ρ 0) (hl : h 59 s = nI len) (hl24 : len ≤ 24) : ∀ (k m : Nat) (g : sk_M) (x : Int32) (x7 : Option Value), m + k = 10 → sk_o [55, 63, 64] h g → g 55 = upd ρ 3 x → sk_S l E (d + 7) MX8_fits 56 [some (.ref 54), some (.int (nI s)), some (.int w), some (.int (ρ 3)), some (.int (setT (fsP ρ (ceV h s) len) m)), some (.int (lstT (fsP ρ (ceV h s) len) m)), some (.int (nI (10 - m) - 1)), x7] [] g (fun r h1 => (w = 0 ∧ sk_o [63, 64] h h1 ∧ some (.int (setT (fsP ρ (ceV h s) len) 10)) = r) ∨ (¬ w = 0 ∧ ¬ 0 ≤ lstT (fsP ρ (ceV h s) len) 10 ∧ erT h 2 h1 r) ∨ (¬ w = 0 ∧ 0 ≤ lstT (fsP ρ (ceV h s) len) 10 ∧ sk_o [63, 64] h h1 ∧ some (.int (lstT (fsP ρ (ceV h s) len) 10)) = r))
  | 0, m, g, x, x7, hm, ho, hg => by
    have hmm : m = 10 := by omega
    subst hmm
    refine sk_S.iload (i := 6) (dd DX8_fits 32 rfl) rfl ?_
    refine sk_S.if_lt (tgt := 128) (dd DX8_fits 33 rfl) (by decide) (fun c58 => ?_) (fun c58 => absurd (by decide) c58)
    refine sk_S.aload_n (i := 0) (dd DX8_fits 69 rfl) rfl rfl ?_
    refine sk_S.getr (dd DX8_fits 70 rfl) rfl fX8_9 se_54 (by decide) rfl ?_
    refine sk_S.iconst (v := 3) (dd DX8_fits 71 rfl) (by decide) ?_
    refine sk_S.iload_n (i := 3) (dd DX8_fits 72 rfl) rfl rfl ?_
    refine sk_S.iast (dd DX8_fits 73 rfl) se_55 (j := 3) ⟨by decide, by decide, by decide⟩ ?_
    have hb2 : sk_o [63, 64] h (sk_u g 55 3 (ρ 3)) := back_o (ho.u (by decide)) (by rw [sk_u, sk_r_eq, hg, upd_upd, upd_self, hρ])
    refine sk_S.iload_n (i := 2) (dd DX8_fits 74 rfl) rfl rfl ?_
    refine sk_S.if_ne (tgt := 144) (dd DX8_fits 75 rfl) (by decide) (fun c136 => ?_) (fun c136 => ?_)
    · refine sk_S.iload (i := 5) (dd DX8_fits 78 rfl) rfl ?_
      refine sk_S.if_ge (tgt := 158) (dd DX8_fits 79 rfl) (by decide) (fun c146 => ?_) (fun c146 => ?_)
      · refine sk_S.iload (i := 5) (dd DX8_fits 84 rfl) rfl ?_
        refine sk_S.iret (dd DX8_fits 85 rfl) rfl rfl ?_
        exact Or.inr (Or.inr ⟨c136, c146, hb2, rfl⟩)
      · refine sk_S.aload_n (i := 0) (dd DX8_fits 80 rfl) rfl rfl ?_
        refine sk_S.ldc (dd DX8_fits 81 rfl) rfl cnX8_190 ?_
        refine sk_S.callV (dd DX8_fits 82 rfl) rfl kX8_74 (cM_error (k := 2) ⟨by decide, by decide, by decide⟩) se_54 (by decide) rfl rfl rfl rfl (Nat.le_of_ble_eq_true rfl) (fun r152 h152 q152 => ?_)
        obtain ⟨rfl, rfl⟩ := q152
        show sk_S _ _ _ _ _ _ (.int _ :: _) _ _
        refine sk_S.goto (tgt := 160) (dd DX8_fits 83 rfl) (by decide) ?_
        refine sk_S.iret (dd DX8_fits 85 rfl) rfl rfl ?_
        exact Or.inr (Or.inl ⟨c136, c146, _, hb2, rfl, rfl⟩)
    · refine sk_S.iload (i := 4) (dd DX8_fits 76 rfl) rfl ?_
      refine sk_S.goto (tgt := 160) (dd DX8_fits 77 rfl) (by decide) ?_
      refine sk_S.iret (dd DX8_fits 85 rfl) rfl rfl ?_
      exact Or.inl ⟨c136, hb2, rfl⟩
  | k + 1, m, g, x, x7, hm, ho, hg => by
    have e5 : nI (10 - m) - 1 = nI (9 - m) := by rw [show 10 - m = (9 - m) + 1 from by omega, nI_pred]
    rw [e5]
    refine sk_S.iload (i := 6) (dd DX8_fits 32 rfl) rfl ?_
    refine sk_S.if_lt (tgt := 128) (dd DX8_fits 33 rfl) (by decide) (fun c58 => absurd c58 (nI_pos (by omega))) (fun c58 => ?_)
    refine sk_S.aload_n (i := 0) (dd DX8_fits 34 rfl) rfl rfl ?_
    refine sk_S.getr (dd DX8_fits 35 rfl) rfl fX8_9 se_54 (by decide) rfl ?_
    refine sk_S.iconst (v := 3) (dd DX8_fits 36 rfl) (by decide) ?_
    refine sk_S.iload (i := 6) (dd DX8_fits 37 rfl) rfl ?_
    refine sk_S.iast (dd DX8_fits 38 rfl) se_55 (j := 3) ⟨by decide, by decide, by decide⟩ ?_
    have e55 : sk_u g 55 3 (nI (9 - m)) 55 = upd ρ 3 (nI (9 - m)) := by rw [sk_u, sk_r_eq, hg, upd_upd]
    have eg59 : sk_u g 55 3 (nI (9 - m)) 59 = h 59 := (ho.u (by decide)) 59 (by decide)
    have eg60 : sk_u g 55 3 (nI (9 - m)) 60 = h 60 := (ho.u (by decide)) 60 (by decide)
    have ec : ceV (sk_u g 55 3 (nI (9 - m))) s = ceV h s := by funext q; show sk_u g 55 3 (nI (9 - m)) 60 _ = h 60 _; rw [eg60]
    refine sk_S.aload_n (i := 0) (dd DX8_fits 39 rfl) rfl rfl ?_
    refine sk_S.iload_n (i := 1) (dd DX8_fits 40 rfl) rfl rfl ?_
    refine sk_S.callV (dd DX8_fits 41 rfl) rfl kX8_203 (cM_rightOf hs4 e55 (boI_cg (upd_ne (by decide)) hb) (lawI_cg (fun k hk => upd_ne (by omega)) hI) (by rw [eg59]; exact hl) hl24) se_54 (by decide) rfl rfl rfl rfl (Nat.le_of_ble_eq_true rfl) (fun r71 h71 q71 => ?_)
    obtain ⟨o2, rfl⟩ := q71
    rw [ec, rgN_w]
    have e59 : h71 59 = h 59 := (o2 59 (by decide)).trans eg59
    show sk_S _ _ _ _ _ _ (.int _ :: _) _ _
    refine sk_S.aload_n (i := 0) (dd DX8_fits 42 rfl) rfl rfl ?_
    refine sk_S.getr (dd DX8_fits 43 rfl) rfl fX8_22 se_54 (by decide) rfl ?_
    refine sk_S.iload_n (i := 1) (dd DX8_fits 44 rfl) rfl rfl ?_
    refine sk_S.iald (dd DX8_fits 45 rfl) se_59 (sk_ix_nI (k := s) rfl (by omega) (by decide)) ?_
    refine sk_S.icmp_ne (tgt := 87) (dd DX8_fits 46 rfl) (by decide) (fun c80 => ?_) (fun c80 => ?_)
    · refine sk_S.iconst (v := 0) (dd DX8_fits 49 rfl) (by decide) ?_
      refine sk_S.istore (i := 7) (dd DX8_fits 50 rfl) (Nat.le_of_ble_eq_true rfl) rfl ?_
      refine sk_S.iload (i := 4) (dd DX8_fits 51 rfl) rfl ?_
      refine sk_S.iload (i := 7) (dd DX8_fits 52 rfl) rfl ?_
      refine sk_S.if_eq (tgt := 104) (dd DX8_fits 53 rfl) (by decide) (fun c94 => ?_) (fun c94 => absurd rfl c94)
      refine sk_S.iconst (v := 0) (dd DX8_fits 58 rfl) (by decide) ?_
      refine sk_S.ior (dd DX8_fits 59 rfl) ?_
      refine sk_S.istore (i := 4) (dd DX8_fits 60 rfl) (Nat.le_of_ble_eq_true rfl) rfl ?_
      refine sk_S.iload (i := 7) (dd DX8_fits 61 rfl) rfl ?_
      refine sk_S.if_eq (tgt := 118) (dd DX8_fits 62 rfl) (by decide) (fun c110 => ?_) (fun c110 => absurd rfl c110)
      refine sk_S.iload (i := 5) (dd DX8_fits 65 rfl) rfl ?_
      refine sk_S.istore (i := 5) (dd DX8_fits 66 rfl) (Nat.le_of_ble_eq_true rfl) rfl ?_
      refine sk_S.iinc (i := 6) (v := _ - 1) (dd DX8_fits 67 rfl) rfl iinc_m1 rfl ?_
      refine sk_S.goto (tgt := 56) (dd DX8_fits 68 rfl) (by decide) ?_
      have eP : (fsP ρ (ceV h s) len) (9 - m) = false := by
        unfold fsP
        apply decide_eq_false
        intro q
        apply c80
        rw [e59, hl, q]
      have e1 : setT (fsP ρ (ceV h s) len) (m + 1) = setT (fsP ρ (ceV h s) len) m ||| 0 := by
        show setT (fsP ρ (ceV h s) len) m ||| (if _ then _ else _) = _
        rw [eP]; rfl
      have e2 : lstT (fsP ρ (ceV h s) len) (m + 1) = lstT (fsP ρ (ceV h s) len) m := by
        show (if _ then _ else _) = _
        rw [eP]; rfl
      refine sk_S.L (lp_fits hs4 hρ hb hI hl hl24 k (m + 1) _ (nI (9 - m)) (some (.int 0)) (by omega) ((ho.u (by decide)).tr (o2.more (by decide))) ((o2 55 (by decide)).trans e55)) ?_
      rw [e1, e2, show 10 - (m + 1) = 9 - m from by omega]
      rfl
    · refine sk_S.iconst (v := 1) (dd DX8_fits 47 rfl) (by decide) ?_
      refine sk_S.goto (tgt := 88) (dd DX8_fits 48 rfl) (by decide) ?_
      refine sk_S.istore (i := 7) (dd DX8_fits 50 rfl) (Nat.le_of_ble_eq_true rfl) rfl ?_
      refine sk_S.iload (i := 4) (dd DX8_fits 51 rfl) rfl ?_
      refine sk_S.iload (i := 7) (dd DX8_fits 52 rfl) rfl ?_
      refine sk_S.if_eq (tgt := 104) (dd DX8_fits 53 rfl) (by decide) (fun c94 => absurd c94 (by decide)) (fun c94 => ?_)
      refine sk_S.iconst (v := 1) (dd DX8_fits 54 rfl) (by decide) ?_
      refine sk_S.iload (i := 6) (dd DX8_fits 55 rfl) rfl ?_
      refine sk_S.ishl (dd DX8_fits 56 rfl) ?_
      refine sk_S.goto (tgt := 105) (dd DX8_fits 57 rfl) (by decide) ?_
      refine sk_S.ior (dd DX8_fits 59 rfl) ?_
      refine sk_S.istore (i := 4) (dd DX8_fits 60 rfl) (Nat.le_of_ble_eq_true rfl) rfl ?_
      refine sk_S.iload (i := 7) (dd DX8_fits 61 rfl) rfl ?_
      refine sk_S.if_eq (tgt := 118) (dd DX8_fits 62 rfl) (by decide) (fun c110 => absurd c110 (by decide)) (fun c110 => ?_)
      refine sk_S.iload (i := 6) (dd DX8_fits 63 rfl) rfl ?_
      refine sk_S.goto (tgt := 120) (dd DX8_fits 64 rfl) (by decide) ?_
      refine sk_S.istore (i := 5) (dd DX8_fits 66 rfl) (Nat.le_of_ble_eq_true rfl) rfl ?_
      refine sk_S.iinc (i := 6) (v := _ - 1) (dd DX8_fits 67 rfl) rfl iinc_m1 rfl ?_
      refine sk_S.goto (tgt := 56) (dd DX8_fits 68 rfl) (by decide) ?_
      have eP : (fsP ρ (ceV h s) len) (9 - m) = true := by
        unfold fsP
        apply decide_eq_true
        rw [e59, hl] at c80
        exact nI_inj (by have := rgN_le ρ (ceV h s) len (nI (9 - m)); omega) (by omega) c80
      have e1 : setT (fsP ρ (ceV h s) len) (m + 1) = setT (fsP ρ (ceV h s) len) m ||| 1 <<< (nI (9 - m) &&& 31) := by
        show setT (fsP ρ (ceV h s) len) m ||| (if _ then _ else _) = _
        rw [eP]; rfl
      have e2 : lstT (fsP ρ (ceV h s) len) (m + 1) = nI (9 - m) := by
        show (if _ then _ else _) = _
        rw [eP]; rfl
      refine sk_S.L (lp_fits hs4 hρ hb hI hl hl24 k (m + 1) _ (nI (9 - m)) (some (.int 1)) (by omega) ((ho.u (by decide)).tr (o2.more (by decide))) ((o2 55 (by decide)).trans e55)) ?_
      rw [e1, e2, show 10 - (m + 1) = 9 - m from by omega]
      rfl
set_option maxRecDepth 100000 in
set_option maxHeartbeats 4000000 in
theorem cM_fits {l : Launch} {E : sk_V} {d : Nat} {h : sk_M} {s w : Int32} (hb : boI (h 55)) (hI : lawI (h 55) 0) (hS : shI h) : sk_K l E (d + 7) MX8_fits [.ref 54, .int s, .int w] h (fun r h1 => (¬ (inN s 4 ∧ inN w 2) ∧ erM h 1 h1 r) ∨ (∃ j, j < 4 ∧ s = nI j ∧ inN w 2 ∧ ((h 58 j = 0 ∧ erM h 2 h1 r) ∨ (¬ h 58 j = 0 ∧ ((w = 0 ∧ sk_o [63, 64] h h1 ∧ some (.int (setT (fsP (h 55) (ceV h j) (shN h j)) 10)) = r) ∨ (¬ w = 0 ∧ ¬ 0 ≤ lstT (fsP (h 55) (ceV h j) (shN h j)) 10 ∧ erT h 2 h1 r) ∨ (¬ w = 0 ∧ 0 ≤ lstT (fsP (h 55) (ceV h j) (shN h j)) 10 ∧ sk_o [63, 64] h h1 ∧ some (.int (lstT (fsP (h 55) (ceV h j) (shN h j)) 10)) = r)))))) := by
  refine sk_K.of (by decide +kernel) (Nat.le_of_ble_eq_true rfl) ?_
  show sk_S l E (d + 7) _ 0 [some (.ref 54), some (.int s), some (.int w), none, none, none, none, none] [] h _
  refine sk_S.iload_n (i := 1) (dd DX8_fits 0 rfl) rfl rfl ?_
  refine sk_S.callS (dd DX8_fits 1 rfl) rfl kX8_200 cM_isSheet rfl rfl rfl (Nat.le_of_ble_eq_true rfl) (fun r1 h1 q1 => ?_)
  obtain ⟨rfl, rfl⟩ := q1
  show sk_S _ _ _ _ _ _ (.int _ :: _) _ _
  refine sk_S.bif_eq (tgt := 16) (dd DX8_fits 2 rfl) (by decide) (fun c4 => ?_) (fun c4 => ?_)
  · refine sk_S.aload_n (i := 0) (dd DX8_fits 8 rfl) rfl rfl ?_
    refine sk_S.ldc (dd DX8_fits 9 rfl) rfl cnX8_73 ?_
    refine sk_S.callV (dd DX8_fits 10 rfl) rfl kX8_74 (cM_error (k := 1) ⟨by decide, by decide, by decide⟩) se_54 (by decide) rfl rfl rfl rfl (Nat.le_of_ble_eq_true rfl) (fun r19 h19 q19 => ?_)
    obtain ⟨rfl, rfl⟩ := q19
    show sk_S _ _ _ _ _ _ (.int _ :: _) _ _
    refine sk_S.iret (dd DX8_fits 11 rfl) rfl rfl ?_
    exact Or.inl ⟨fun q => c4 ((inN_le (by decide)).mpr q.1), rfl, rfl⟩
  · refine sk_S.iload_n (i := 2) (dd DX8_fits 3 rfl) rfl rfl ?_
    refine sk_S.iconst (v := 0) (dd DX8_fits 4 rfl) (by decide) ?_
    refine sk_S.iconst (v := 1) (dd DX8_fits 5 rfl) (by decide) ?_
    refine sk_S.callS (dd DX8_fits 6 rfl) rfl kX8_47 cM_in rfl rfl rfl (Nat.le_of_ble_eq_true rfl) (fun r10 h10 q10 => ?_)
    obtain ⟨rfl, rfl⟩ := q10
    show sk_S _ _ _ _ _ _ (.int _ :: _) _ _
    refine sk_S.bif_ne (tgt := 23) (dd DX8_fits 7 rfl) (by decide) (fun c13 => ?_) (fun c13 => ?_)
    · obtain ⟨j, hj, rfl⟩ := (inN_le (n := 4) (by decide)).mp c4
      refine sk_S.aload_n (i := 0) (dd DX8_fits 12 rfl) rfl rfl ?_
      refine sk_S.getr (dd DX8_fits 13 rfl) rfl fX8_19 se_54 (by decide) rfl ?_
      refine sk_S.iload_n (i := 1) (dd DX8_fits 14 rfl) rfl rfl ?_
      refine sk_S.iald (dd DX8_fits 15 rfl) se_58 (sk_ix_nI (k := j) rfl (by omega) (by decide)) ?_
      refine sk_S.if_ne (tgt := 39) (dd DX8_fits 16 rfl) (by decide) (fun c29 => ?_) (fun c29 => ?_)
      · obtain ⟨hl, hl24⟩ := hS j hj
        refine sk_S.aload_n (i := 0) (dd DX8_fits 21 rfl) rfl rfl ?_
        refine sk_S.getr (dd DX8_fits 22 rfl) rfl fX8_9 se_54 (by decide) rfl ?_
        refine sk_S.iconst (v := 3) (dd DX8_fits 23 rfl) (by decide) ?_
        refine sk_S.iald (dd DX8_fits 24 rfl) se_55 (j := 3) ⟨by decide, by decide, by decide⟩ ?_
        refine sk_S.istore_n (i := 3) (dd DX8_fits 25 rfl) rfl (Nat.le_of_ble_eq_true rfl) rfl ?_
        refine sk_S.iconst (v := 0) (dd DX8_fits 26 rfl) (by decide) ?_
        refine sk_S.istore (i := 4) (dd DX8_fits 27 rfl) (Nat.le_of_ble_eq_true rfl) rfl ?_
        refine sk_S.iconst (v := -1) (dd DX8_fits 28 rfl) (by decide) ?_
        refine sk_S.istore (i := 5) (dd DX8_fits 29 rfl) (Nat.le_of_ble_eq_true rfl) rfl ?_
        refine sk_S.bipush (v := 9) (dd DX8_fits 30 rfl) (by decide) ?_
        refine sk_S.istore (i := 6) (dd DX8_fits 31 rfl) (Nat.le_of_ble_eq_true rfl) rfl ?_
        refine sk_S.mono (lp_fits hj rfl hb hI hl hl24 10 0 h (h 55 3) none rfl sk_o.rf upd_self.symm) ?_
        intro r h1 q
        exact Or.inr ⟨j, hj, rfl, (inN_le (by decide)).mp c13, Or.inr ⟨c29, q⟩⟩
      · refine sk_S.aload_n (i := 0) (dd DX8_fits 17 rfl) rfl rfl ?_
        refine sk_S.ldc (dd DX8_fits 18 rfl) rfl cnX8_190 ?_
        refine sk_S.callV (dd DX8_fits 19 rfl) rfl kX8_74 (cM_error (k := 2) ⟨by decide, by decide, by decide⟩) se_54 (by decide) rfl rfl rfl rfl (Nat.le_of_ble_eq_true rfl) (fun r35 h35 q35 => ?_)
        obtain ⟨rfl, rfl⟩ := q35
        show sk_S _ _ _ _ _ _ (.int _ :: _) _ _
        refine sk_S.iret (dd DX8_fits 20 rfl) rfl rfl ?_
        exact Or.inr ⟨j, hj, rfl, (inN_le (by decide)).mp c13, Or.inl ⟨c29, rfl, rfl⟩⟩
    · refine sk_S.aload_n (i := 0) (dd DX8_fits 8 rfl) rfl rfl ?_
      refine sk_S.ldc (dd DX8_fits 9 rfl) rfl cnX8_73 ?_
      refine sk_S.callV (dd DX8_fits 10 rfl) rfl kX8_74 (cM_error (k := 1) ⟨by decide, by decide, by decide⟩) se_54 (by decide) rfl rfl rfl rfl (Nat.le_of_ble_eq_true rfl) (fun r19 h19 q19 => ?_)
      obtain ⟨rfl, rfl⟩ := q19
      show sk_S _ _ _ _ _ _ (.int _ :: _) _ _
      refine sk_S.iret (dd DX8_fits 11 rfl) rfl rfl ?_
      exact Or.inl ⟨fun q => c13 ((inN_le (by decide)).mpr q.2), rfl, rfl⟩
set_option maxRecDepth 100000 in
set_option maxHeartbeats 4000000 in
theorem lp_sheet {l : Launch} {E : sk_V} {d : Nat} {h : sk_M} {j : Nat} {b n : Int32} (hj : j < 4) : ∀ (m i : Nat) (g : sk_M), i + m = 24 → sk_o [60] h g → g 60 = clrN (h 60) (24 * j) i → sk_S l E (d + 1) MX8_sheet 93 [some (.ref 54), some (.int (nI j)), some (.int b), some (.int n), some (.int (nI i))] [] g (fun r h1 => sk_o [60] h h1 ∧ h1 60 = clrN (h 60) (24 * j) 24 ∧ some (.int 1) = r)
  | 0, i, g, hi, ho, hg => by
    have hi4 : i = 24 := by omega
    subst hi4
    refine sk_S.iload (i := 4) (dd DX8_sheet 51 rfl) rfl ?_
    refine sk_S.bipush (v := 24) (dd DX8_sheet 52 rfl) (by decide) ?_
    refine sk_S.icmp_ge (tgt := 119) (dd DX8_sheet 53 rfl) (by decide) (fun c97 => ?_) (fun c97 => absurd (by decide) c97)
    refine sk_S.iconst (v := 1) (dd DX8_sheet 65 rfl) (by decide) ?_
    refine sk_S.iret (dd DX8_sheet 66 rfl) rfl rfl ?_
    exact ⟨ho, hg, rfl⟩
  | m + 1, i, g, hi, ho, hg => by
    refine sk_S.iload (i := 4) (dd DX8_sheet 51 rfl) rfl ?_
    refine sk_S.bipush (v := 24) (dd DX8_sheet 52 rfl) (by decide) ?_
    refine sk_S.icmp_ge (tgt := 119) (dd DX8_sheet 53 rfl) (by decide) (fun c97 => absurd c97 (nI_ge (b := 24) (by omega) (by decide))) (fun c97 => ?_)
    refine sk_S.aload_n (i := 0) (dd DX8_sheet 54 rfl) rfl rfl ?_
    refine sk_S.getr (dd DX8_sheet 55 rfl) rfl fX8_25 se_54 (by decide) rfl ?_
    refine sk_S.bipush (v := 24) (dd DX8_sheet 56 rfl) (by decide) ?_
    refine sk_S.iload_n (i := 1) (dd DX8_sheet 57 rfl) rfl rfl ?_
    refine sk_S.imul (dd DX8_sheet 58 rfl) ?_
    refine sk_S.iload (i := 4) (dd DX8_sheet 59 rfl) rfl ?_
    refine sk_S.iadd (dd DX8_sheet 60 rfl) ?_
    refine sk_S.iconst (v := 0) (dd DX8_sheet 61 rfl) (by decide) ?_
    refine sk_S.iast (dd DX8_sheet 62 rfl) se_60 (sk_ix_e (k := 24 * j + i) (ix_24 j i) (by omega) (by decide)) ?_
    refine sk_S.iinc (i := 4) (v := _ + 1) (dd DX8_sheet 63 rfl) rfl rfl rfl ?_
    refine sk_S.goto (tgt := 93) (dd DX8_sheet 64 rfl) (by decide) ?_
    exact sk_S.L (lp_sheet hj m (i + 1) _ (by omega) (ho.u (by decide)) (by rw [sk_u, sk_r_eq, hg, clrN_s])) (by rw [nI_succ]; rfl)
set_option maxRecDepth 100000 in
set_option maxHeartbeats 4000000 in
theorem cM_sheet {l : Launch} {E : sk_V} {d : Nat} {h : sk_M} {s b n : Int32}  : sk_K l E (d + 2) MX8_sheet [.ref 54, .int s, .int b, .int n] h (fun r h1 => (¬ (inN s 4 ∧ okB b) ∧ erM h 1 h1 r) ∨ (∃ j, j < 4 ∧ s = nI j ∧ okB b ∧ ((¬ b = 0 ∧ n < 0 ∧ erM h 3 h1 r) ∨ (¬ b = 0 ∧ ¬ n < 0 ∧ 24 < n ∧ erM h 1 h1 r) ∨ ((b = 0 ∨ inN n 25) ∧ sk_o [58, 59, 60] h h1 ∧ h1 58 = upd (h 58) j b ∧ h1 59 = upd (h 59) j (if b = 0 then 0 else n) ∧ h1 60 = clrN (h 60) (24 * j) 24 ∧ some (.int 1) = r)))) := by
  refine sk_K.of (by decide +kernel) (Nat.le_of_ble_eq_true rfl) ?_
  show sk_S l E (d + 2) _ 0 [some (.ref 54), some (.int s), some (.int b), some (.int n), none] [] h _
  refine sk_S.iload_n (i := 1) (dd DX8_sheet 0 rfl) rfl rfl ?_
  refine sk_S.callS (dd DX8_sheet 1 rfl) rfl kX8_200 cM_isSheet rfl rfl rfl (Nat.le_of_ble_eq_true rfl) (fun r1 h1 q1 => ?_)
  obtain ⟨rfl, rfl⟩ := q1
  show sk_S _ _ _ _ _ _ (.int _ :: _) _ _
  refine sk_S.bif_eq (tgt := 29) (dd DX8_sheet 2 rfl) (by decide) (fun c4 => ?_) (fun c4 => ?_)
  · refine sk_S.aload_n (i := 0) (dd DX8_sheet 14 rfl) rfl rfl ?_
    refine sk_S.ldc (dd DX8_sheet 15 rfl) rfl cnX8_73 ?_
    refine sk_S.callV (dd DX8_sheet 16 rfl) rfl kX8_74 (cM_error (k := 1) ⟨by decide, by decide, by decide⟩) se_54 (by decide) rfl rfl rfl rfl (Nat.le_of_ble_eq_true rfl) (fun r32 h32 q32 => ?_)
    obtain ⟨rfl, rfl⟩ := q32
    show sk_S _ _ _ _ _ _ (.int _ :: _) _ _
    refine sk_S.iret (dd DX8_sheet 17 rfl) rfl rfl ?_
    refine Or.inl ⟨?_, rfl, rfl⟩
    rintro ⟨q, q2⟩
    exact c4 ((inN_le (by decide)).mpr q)
  · refine sk_S.iload_n (i := 2) (dd DX8_sheet 3 rfl) rfl rfl ?_
    refine sk_S.if_eq (tgt := 36) (dd DX8_sheet 4 rfl) (by decide) (fun c8 => ?_) (fun c8 => ?_)
    · obtain ⟨j, hj, rfl⟩ := (inN_le (n := 4) (by decide)).mp c4
      refine sk_S.iload_n (i := 2) (dd DX8_sheet 18 rfl) rfl rfl ?_
      refine sk_S.if_le (tgt := 51) (dd DX8_sheet 19 rfl) (by decide) (fun c37 => ?_) (fun c37 => absurd (by rw [c8]; decide) c37)
      refine sk_S.iload_n (i := 2) (dd DX8_sheet 26 rfl) rfl rfl ?_
      refine sk_S.if_le (tgt := 68) (dd DX8_sheet 27 rfl) (by decide) (fun c52 => ?_) (fun c52 => absurd (by rw [c8]; decide) c52)
      refine sk_S.aload_n (i := 0) (dd DX8_sheet 35 rfl) rfl rfl ?_
      refine sk_S.getr (dd DX8_sheet 36 rfl) rfl fX8_19 se_54 (by decide) rfl ?_
      refine sk_S.iload_n (i := 1) (dd DX8_sheet 37 rfl) rfl rfl ?_
      refine sk_S.iload_n (i := 2) (dd DX8_sheet 38 rfl) rfl rfl ?_
      refine sk_S.iast (dd DX8_sheet 39 rfl) se_58 (sk_ix_nI (k := j) rfl (by omega) (by decide)) ?_
      refine sk_S.aload_n (i := 0) (dd DX8_sheet 40 rfl) rfl rfl ?_
      refine sk_S.getr (dd DX8_sheet 41 rfl) rfl fX8_22 se_54 (by decide) rfl ?_
      refine sk_S.iload_n (i := 1) (dd DX8_sheet 42 rfl) rfl rfl ?_
      refine sk_S.iload_n (i := 2) (dd DX8_sheet 43 rfl) rfl rfl ?_
      refine sk_S.if_ne (tgt := 88) (dd DX8_sheet 44 rfl) (by decide) (fun c81 => absurd c8 c81) (fun c81 => ?_)
      refine sk_S.iconst (v := 0) (dd DX8_sheet 45 rfl) (by decide) ?_
      refine sk_S.goto (tgt := 89) (dd DX8_sheet 46 rfl) (by decide) ?_
      refine sk_S.iast (dd DX8_sheet 48 rfl) se_59 (sk_ix_nI (k := j) rfl (by omega) (by decide)) ?_
      refine sk_S.iconst (v := 0) (dd DX8_sheet 49 rfl) (by decide) ?_
      refine sk_S.istore (i := 4) (dd DX8_sheet 50 rfl) (Nat.le_of_ble_eq_true rfl) rfl ?_
      refine sk_S.mono (lp_sheet hj 24 0 _ rfl sk_o.rf clrN_0.symm) ?_
      rintro r h1 ⟨q1, q2, q3⟩
      refine Or.inr ⟨j, hj, rfl, Or.inl c8, Or.inr (Or.inr ⟨Or.inl c8, (((sk_o.rf (h := h)).u (by decide)).u (by decide)).tr (q1.more (by decide)), ?_, ?_, ?_, q3⟩)⟩
      · rw [q1 58 (by decide)]; rfl
      · rw [q1 59 (by decide), if_pos c8]; rfl
      · rw [q2]; rfl
    · refine sk_S.iload_n (i := 2) (dd DX8_sheet 5 rfl) rfl rfl ?_
      refine sk_S.bipush (v := 8) (dd DX8_sheet 6 rfl) (by decide) ?_
      refine sk_S.icmp_eq (tgt := 36) (dd DX8_sheet 7 rfl) (by decide) (fun c14 => ?_) (fun c14 => ?_)
      · obtain ⟨j, hj, rfl⟩ := (inN_le (n := 4) (by decide)).mp c4
        refine sk_S.iload_n (i := 2) (dd DX8_sheet 18 rfl) rfl rfl ?_
        refine sk_S.if_le (tgt := 51) (dd DX8_sheet 19 rfl) (by decide) (fun c37 => absurd c37 (by rw [c14]; decide)) (fun c37 => ?_)
        refine sk_S.iload_n (i := 3) (dd DX8_sheet 20 rfl) rfl rfl ?_
        refine sk_S.if_ge (tgt := 51) (dd DX8_sheet 21 rfl) (by decide) (fun c41 => ?_) (fun c41 => ?_)
        · refine sk_S.iload_n (i := 2) (dd DX8_sheet 26 rfl) rfl rfl ?_
          refine sk_S.if_le (tgt := 68) (dd DX8_sheet 27 rfl) (by decide) (fun c52 => absurd c52 (by rw [c14]; decide)) (fun c52 => ?_)
          refine sk_S.iload_n (i := 3) (dd DX8_sheet 28 rfl) rfl rfl ?_
          refine sk_S.bipush (v := 24) (dd DX8_sheet 29 rfl) (by decide) ?_
          refine sk_S.icmp_le (tgt := 68) (dd DX8_sheet 30 rfl) (by decide) (fun c58 => ?_) (fun c58 => ?_)
          · refine sk_S.aload_n (i := 0) (dd DX8_sheet 35 rfl) rfl rfl ?_
            refine sk_S.getr (dd DX8_sheet 36 rfl) rfl fX8_19 se_54 (by decide) rfl ?_
            refine sk_S.iload_n (i := 1) (dd DX8_sheet 37 rfl) rfl rfl ?_
            refine sk_S.iload_n (i := 2) (dd DX8_sheet 38 rfl) rfl rfl ?_
            refine sk_S.iast (dd DX8_sheet 39 rfl) se_58 (sk_ix_nI (k := j) rfl (by omega) (by decide)) ?_
            refine sk_S.aload_n (i := 0) (dd DX8_sheet 40 rfl) rfl rfl ?_
            refine sk_S.getr (dd DX8_sheet 41 rfl) rfl fX8_22 se_54 (by decide) rfl ?_
            refine sk_S.iload_n (i := 1) (dd DX8_sheet 42 rfl) rfl rfl ?_
            refine sk_S.iload_n (i := 2) (dd DX8_sheet 43 rfl) rfl rfl ?_
            refine sk_S.if_ne (tgt := 88) (dd DX8_sheet 44 rfl) (by decide) (fun c81 => ?_) (fun c81 => absurd c81 (by rw [c14]; decide))
            refine sk_S.iload_n (i := 3) (dd DX8_sheet 47 rfl) rfl rfl ?_
            refine sk_S.iast (dd DX8_sheet 48 rfl) se_59 (sk_ix_nI (k := j) rfl (by omega) (by decide)) ?_
            refine sk_S.iconst (v := 0) (dd DX8_sheet 49 rfl) (by decide) ?_
            refine sk_S.istore (i := 4) (dd DX8_sheet 50 rfl) (Nat.le_of_ble_eq_true rfl) rfl ?_
            refine sk_S.mono (lp_sheet hj 24 0 _ rfl sk_o.rf clrN_0.symm) ?_
            rintro r h1 ⟨q1, q2, q3⟩
            refine Or.inr ⟨j, hj, rfl, Or.inr (Or.inl c14), Or.inr (Or.inr ⟨Or.inr ((inN_le (M := 24) (by decide)).mp ⟨Int32.not_lt.mp (fun q => absurd c41 (Int32.not_le.mpr q)), c58⟩), (((sk_o.rf (h := h)).u (by decide)).u (by decide)).tr (q1.more (by decide)), ?_, ?_, ?_, q3⟩)⟩
            · rw [q1 58 (by decide)]; rfl
            · rw [q1 59 (by decide), if_neg (by rw [c14]; decide)]; rfl
            · rw [q2]; rfl
          · refine sk_S.aload_n (i := 0) (dd DX8_sheet 31 rfl) rfl rfl ?_
            refine sk_S.ldc (dd DX8_sheet 32 rfl) rfl cnX8_73 ?_
            refine sk_S.callV (dd DX8_sheet 33 rfl) rfl kX8_74 (cM_error (k := 1) ⟨by decide, by decide, by decide⟩) se_54 (by decide) rfl rfl rfl rfl (Nat.le_of_ble_eq_true rfl) (fun r64 h64 q64 => ?_)
            obtain ⟨rfl, rfl⟩ := q64
            show sk_S _ _ _ _ _ _ (.int _ :: _) _ _
            refine sk_S.iret (dd DX8_sheet 34 rfl) rfl rfl ?_
            exact Or.inr ⟨j, hj, rfl, Or.inr (Or.inl c14), Or.inr (Or.inl ⟨by rw [c14]; decide, Int32.not_lt.mpr c41, Int32.not_le.mp c58, rfl, rfl⟩)⟩
        · refine sk_S.aload_n (i := 0) (dd DX8_sheet 22 rfl) rfl rfl ?_
          refine sk_S.ldc (dd DX8_sheet 23 rfl) rfl cnX8_100 ?_
          refine sk_S.callV (dd DX8_sheet 24 rfl) rfl kX8_74 (cM_error (k := 3) ⟨by decide, by decide, by decide⟩) se_54 (by decide) rfl rfl rfl rfl (Nat.le_of_ble_eq_true rfl) (fun r47 h47 q47 => ?_)
          obtain ⟨rfl, rfl⟩ := q47
          show sk_S _ _ _ _ _ _ (.int _ :: _) _ _
          refine sk_S.iret (dd DX8_sheet 25 rfl) rfl rfl ?_
          exact Or.inr ⟨j, hj, rfl, Or.inr (Or.inl c14), Or.inl ⟨by rw [c14]; decide, Int32.not_le.mp c41, rfl, rfl⟩⟩
      · refine sk_S.iload_n (i := 2) (dd DX8_sheet 8 rfl) rfl rfl ?_
        refine sk_S.bipush (v := 16) (dd DX8_sheet 9 rfl) (by decide) ?_
        refine sk_S.icmp_eq (tgt := 36) (dd DX8_sheet 10 rfl) (by decide) (fun c20 => ?_) (fun c20 => ?_)
        · obtain ⟨j, hj, rfl⟩ := (inN_le (n := 4) (by decide)).mp c4
          refine sk_S.iload_n (i := 2) (dd DX8_sheet 18 rfl) rfl rfl ?_
          refine sk_S.if_le (tgt := 51) (dd DX8_sheet 19 rfl) (by decide) (fun c37 => absurd c37 (by rw [c20]; decide)) (fun c37 => ?_)
          refine sk_S.iload_n (i := 3) (dd DX8_sheet 20 rfl) rfl rfl ?_
          refine sk_S.if_ge (tgt := 51) (dd DX8_sheet 21 rfl) (by decide) (fun c41 => ?_) (fun c41 => ?_)
          · refine sk_S.iload_n (i := 2) (dd DX8_sheet 26 rfl) rfl rfl ?_
            refine sk_S.if_le (tgt := 68) (dd DX8_sheet 27 rfl) (by decide) (fun c52 => absurd c52 (by rw [c20]; decide)) (fun c52 => ?_)
            refine sk_S.iload_n (i := 3) (dd DX8_sheet 28 rfl) rfl rfl ?_
            refine sk_S.bipush (v := 24) (dd DX8_sheet 29 rfl) (by decide) ?_
            refine sk_S.icmp_le (tgt := 68) (dd DX8_sheet 30 rfl) (by decide) (fun c58 => ?_) (fun c58 => ?_)
            · refine sk_S.aload_n (i := 0) (dd DX8_sheet 35 rfl) rfl rfl ?_
              refine sk_S.getr (dd DX8_sheet 36 rfl) rfl fX8_19 se_54 (by decide) rfl ?_
              refine sk_S.iload_n (i := 1) (dd DX8_sheet 37 rfl) rfl rfl ?_
              refine sk_S.iload_n (i := 2) (dd DX8_sheet 38 rfl) rfl rfl ?_
              refine sk_S.iast (dd DX8_sheet 39 rfl) se_58 (sk_ix_nI (k := j) rfl (by omega) (by decide)) ?_
              refine sk_S.aload_n (i := 0) (dd DX8_sheet 40 rfl) rfl rfl ?_
              refine sk_S.getr (dd DX8_sheet 41 rfl) rfl fX8_22 se_54 (by decide) rfl ?_
              refine sk_S.iload_n (i := 1) (dd DX8_sheet 42 rfl) rfl rfl ?_
              refine sk_S.iload_n (i := 2) (dd DX8_sheet 43 rfl) rfl rfl ?_
              refine sk_S.if_ne (tgt := 88) (dd DX8_sheet 44 rfl) (by decide) (fun c81 => ?_) (fun c81 => absurd c81 (by rw [c20]; decide))
              refine sk_S.iload_n (i := 3) (dd DX8_sheet 47 rfl) rfl rfl ?_
              refine sk_S.iast (dd DX8_sheet 48 rfl) se_59 (sk_ix_nI (k := j) rfl (by omega) (by decide)) ?_
              refine sk_S.iconst (v := 0) (dd DX8_sheet 49 rfl) (by decide) ?_
              refine sk_S.istore (i := 4) (dd DX8_sheet 50 rfl) (Nat.le_of_ble_eq_true rfl) rfl ?_
              refine sk_S.mono (lp_sheet hj 24 0 _ rfl sk_o.rf clrN_0.symm) ?_
              rintro r h1 ⟨q1, q2, q3⟩
              refine Or.inr ⟨j, hj, rfl, Or.inr (Or.inr (Or.inl c20)), Or.inr (Or.inr ⟨Or.inr ((inN_le (M := 24) (by decide)).mp ⟨Int32.not_lt.mp (fun q => absurd c41 (Int32.not_le.mpr q)), c58⟩), (((sk_o.rf (h := h)).u (by decide)).u (by decide)).tr (q1.more (by decide)), ?_, ?_, ?_, q3⟩)⟩
              · rw [q1 58 (by decide)]; rfl
              · rw [q1 59 (by decide), if_neg (by rw [c20]; decide)]; rfl
              · rw [q2]; rfl
            · refine sk_S.aload_n (i := 0) (dd DX8_sheet 31 rfl) rfl rfl ?_
              refine sk_S.ldc (dd DX8_sheet 32 rfl) rfl cnX8_73 ?_
              refine sk_S.callV (dd DX8_sheet 33 rfl) rfl kX8_74 (cM_error (k := 1) ⟨by decide, by decide, by decide⟩) se_54 (by decide) rfl rfl rfl rfl (Nat.le_of_ble_eq_true rfl) (fun r64 h64 q64 => ?_)
              obtain ⟨rfl, rfl⟩ := q64
              show sk_S _ _ _ _ _ _ (.int _ :: _) _ _
              refine sk_S.iret (dd DX8_sheet 34 rfl) rfl rfl ?_
              exact Or.inr ⟨j, hj, rfl, Or.inr (Or.inr (Or.inl c20)), Or.inr (Or.inl ⟨by rw [c20]; decide, Int32.not_lt.mpr c41, Int32.not_le.mp c58, rfl, rfl⟩)⟩
          · refine sk_S.aload_n (i := 0) (dd DX8_sheet 22 rfl) rfl rfl ?_
            refine sk_S.ldc (dd DX8_sheet 23 rfl) rfl cnX8_100 ?_
            refine sk_S.callV (dd DX8_sheet 24 rfl) rfl kX8_74 (cM_error (k := 3) ⟨by decide, by decide, by decide⟩) se_54 (by decide) rfl rfl rfl rfl (Nat.le_of_ble_eq_true rfl) (fun r47 h47 q47 => ?_)
            obtain ⟨rfl, rfl⟩ := q47
            show sk_S _ _ _ _ _ _ (.int _ :: _) _ _
            refine sk_S.iret (dd DX8_sheet 25 rfl) rfl rfl ?_
            exact Or.inr ⟨j, hj, rfl, Or.inr (Or.inr (Or.inl c20)), Or.inl ⟨by rw [c20]; decide, Int32.not_le.mp c41, rfl, rfl⟩⟩
        · refine sk_S.iload_n (i := 2) (dd DX8_sheet 11 rfl) rfl rfl ?_
          refine sk_S.bipush (v := 32) (dd DX8_sheet 12 rfl) (by decide) ?_
          refine sk_S.icmp_eq (tgt := 36) (dd DX8_sheet 13 rfl) (by decide) (fun c26 => ?_) (fun c26 => ?_)
          · obtain ⟨j, hj, rfl⟩ := (inN_le (n := 4) (by decide)).mp c4
            refine sk_S.iload_n (i := 2) (dd DX8_sheet 18 rfl) rfl rfl ?_
            refine sk_S.if_le (tgt := 51) (dd DX8_sheet 19 rfl) (by decide) (fun c37 => absurd c37 (by rw [c26]; decide)) (fun c37 => ?_)
            refine sk_S.iload_n (i := 3) (dd DX8_sheet 20 rfl) rfl rfl ?_
            refine sk_S.if_ge (tgt := 51) (dd DX8_sheet 21 rfl) (by decide) (fun c41 => ?_) (fun c41 => ?_)
            · refine sk_S.iload_n (i := 2) (dd DX8_sheet 26 rfl) rfl rfl ?_
              refine sk_S.if_le (tgt := 68) (dd DX8_sheet 27 rfl) (by decide) (fun c52 => absurd c52 (by rw [c26]; decide)) (fun c52 => ?_)
              refine sk_S.iload_n (i := 3) (dd DX8_sheet 28 rfl) rfl rfl ?_
              refine sk_S.bipush (v := 24) (dd DX8_sheet 29 rfl) (by decide) ?_
              refine sk_S.icmp_le (tgt := 68) (dd DX8_sheet 30 rfl) (by decide) (fun c58 => ?_) (fun c58 => ?_)
              · refine sk_S.aload_n (i := 0) (dd DX8_sheet 35 rfl) rfl rfl ?_
                refine sk_S.getr (dd DX8_sheet 36 rfl) rfl fX8_19 se_54 (by decide) rfl ?_
                refine sk_S.iload_n (i := 1) (dd DX8_sheet 37 rfl) rfl rfl ?_
                refine sk_S.iload_n (i := 2) (dd DX8_sheet 38 rfl) rfl rfl ?_
                refine sk_S.iast (dd DX8_sheet 39 rfl) se_58 (sk_ix_nI (k := j) rfl (by omega) (by decide)) ?_
                refine sk_S.aload_n (i := 0) (dd DX8_sheet 40 rfl) rfl rfl ?_
                refine sk_S.getr (dd DX8_sheet 41 rfl) rfl fX8_22 se_54 (by decide) rfl ?_
                refine sk_S.iload_n (i := 1) (dd DX8_sheet 42 rfl) rfl rfl ?_
                refine sk_S.iload_n (i := 2) (dd DX8_sheet 43 rfl) rfl rfl ?_
                refine sk_S.if_ne (tgt := 88) (dd DX8_sheet 44 rfl) (by decide) (fun c81 => ?_) (fun c81 => absurd c81 (by rw [c26]; decide))
                refine sk_S.iload_n (i := 3) (dd DX8_sheet 47 rfl) rfl rfl ?_
                refine sk_S.iast (dd DX8_sheet 48 rfl) se_59 (sk_ix_nI (k := j) rfl (by omega) (by decide)) ?_
                refine sk_S.iconst (v := 0) (dd DX8_sheet 49 rfl) (by decide) ?_
                refine sk_S.istore (i := 4) (dd DX8_sheet 50 rfl) (Nat.le_of_ble_eq_true rfl) rfl ?_
                refine sk_S.mono (lp_sheet hj 24 0 _ rfl sk_o.rf clrN_0.symm) ?_
                rintro r h1 ⟨q1, q2, q3⟩
                refine Or.inr ⟨j, hj, rfl, Or.inr (Or.inr (Or.inr c26)), Or.inr (Or.inr ⟨Or.inr ((inN_le (M := 24) (by decide)).mp ⟨Int32.not_lt.mp (fun q => absurd c41 (Int32.not_le.mpr q)), c58⟩), (((sk_o.rf (h := h)).u (by decide)).u (by decide)).tr (q1.more (by decide)), ?_, ?_, ?_, q3⟩)⟩
                · rw [q1 58 (by decide)]; rfl
                · rw [q1 59 (by decide), if_neg (by rw [c26]; decide)]; rfl
                · rw [q2]; rfl
              · refine sk_S.aload_n (i := 0) (dd DX8_sheet 31 rfl) rfl rfl ?_
                refine sk_S.ldc (dd DX8_sheet 32 rfl) rfl cnX8_73 ?_
                refine sk_S.callV (dd DX8_sheet 33 rfl) rfl kX8_74 (cM_error (k := 1) ⟨by decide, by decide, by decide⟩) se_54 (by decide) rfl rfl rfl rfl (Nat.le_of_ble_eq_true rfl) (fun r64 h64 q64 => ?_)
                obtain ⟨rfl, rfl⟩ := q64
                show sk_S _ _ _ _ _ _ (.int _ :: _) _ _
                refine sk_S.iret (dd DX8_sheet 34 rfl) rfl rfl ?_
                exact Or.inr ⟨j, hj, rfl, Or.inr (Or.inr (Or.inr c26)), Or.inr (Or.inl ⟨by rw [c26]; decide, Int32.not_lt.mpr c41, Int32.not_le.mp c58, rfl, rfl⟩)⟩
            · refine sk_S.aload_n (i := 0) (dd DX8_sheet 22 rfl) rfl rfl ?_
              refine sk_S.ldc (dd DX8_sheet 23 rfl) rfl cnX8_100 ?_
              refine sk_S.callV (dd DX8_sheet 24 rfl) rfl kX8_74 (cM_error (k := 3) ⟨by decide, by decide, by decide⟩) se_54 (by decide) rfl rfl rfl rfl (Nat.le_of_ble_eq_true rfl) (fun r47 h47 q47 => ?_)
              obtain ⟨rfl, rfl⟩ := q47
              show sk_S _ _ _ _ _ _ (.int _ :: _) _ _
              refine sk_S.iret (dd DX8_sheet 25 rfl) rfl rfl ?_
              exact Or.inr ⟨j, hj, rfl, Or.inr (Or.inr (Or.inr c26)), Or.inl ⟨by rw [c26]; decide, Int32.not_le.mp c41, rfl, rfl⟩⟩
          · refine sk_S.aload_n (i := 0) (dd DX8_sheet 14 rfl) rfl rfl ?_
            refine sk_S.ldc (dd DX8_sheet 15 rfl) rfl cnX8_73 ?_
            refine sk_S.callV (dd DX8_sheet 16 rfl) rfl kX8_74 (cM_error (k := 1) ⟨by decide, by decide, by decide⟩) se_54 (by decide) rfl rfl rfl rfl (Nat.le_of_ble_eq_true rfl) (fun r32 h32 q32 => ?_)
            obtain ⟨rfl, rfl⟩ := q32
            show sk_S _ _ _ _ _ _ (.int _ :: _) _ _
            refine sk_S.iret (dd DX8_sheet 17 rfl) rfl rfl ?_
            refine Or.inl ⟨?_, rfl, rfl⟩
            rintro ⟨q, q2⟩
            rcases q2 with q2 | q2 | q2 | q2
            · exact c8 q2
            · exact c14 q2
            · exact c20 q2
            · exact c26 q2
set_option maxRecDepth 100000 in
set_option maxHeartbeats 4000000 in
theorem cM_notMoved {l : Launch} {E : sk_V} {d : Nat} {h : sk_M} {s i t j n : Int32} (hS : shI h) : sk_K l E (d + 2) MX8_notMoved [.ref 54, .int s, .int i, .int t, .int j, .int n] h (fun r h1 => h = h1 ∧ some (.int (wI (mvK h s i t j n))) = r) := by
  refine sk_K.of (by decide +kernel) (Nat.le_of_ble_eq_true rfl) ?_
  show sk_S l E (d + 2) _ 0 [some (.ref 54), some (.int s), some (.int i), some (.int t), some (.int j), some (.int n), none] [] h _
  refine sk_S.iload_n (i := 1) (dd DX8_notMoved 0 rfl) rfl rfl ?_
  refine sk_S.callS (dd DX8_notMoved 1 rfl) rfl kX8_200 cM_isSheet rfl rfl rfl (Nat.le_of_ble_eq_true rfl) (fun r1 h1 q1 => ?_)
  obtain ⟨rfl, rfl⟩ := q1
  show sk_S _ _ _ _ _ _ (.int _ :: _) _ _
  refine sk_S.bif_eq (tgt := 14) (dd DX8_notMoved 2 rfl) (by decide) (fun c4 => ?_) (fun c4 => ?_)
  · refine sk_S.ldc (dd DX8_notMoved 6 rfl) rfl cnX8_73 ?_
    refine sk_S.iret (dd DX8_notMoved 7 rfl) rfl rfl ?_
    refine ⟨rfl, ?_⟩
    rw [mvK_no (fun q => c4 ((inN_le (by decide)).mpr q.1))]
    rfl
  · refine sk_S.iload_n (i := 3) (dd DX8_notMoved 3 rfl) rfl rfl ?_
    refine sk_S.callS (dd DX8_notMoved 4 rfl) rfl kX8_200 cM_isSheet rfl rfl rfl (Nat.le_of_ble_eq_true rfl) (fun r8 h8 q8 => ?_)
    obtain ⟨rfl, rfl⟩ := q8
    show sk_S _ _ _ _ _ _ (.int _ :: _) _ _
    refine sk_S.bif_ne (tgt := 17) (dd DX8_notMoved 5 rfl) (by decide) (fun c11 => ?_) (fun c11 => ?_)
    · obtain ⟨a, ha, rfl⟩ := (inN_le (n := 4) (by decide)).mp c4
      obtain ⟨b, hb, rfl⟩ := (inN_le (n := 4) (by decide)).mp c11
      refine sk_S.aload_n (i := 0) (dd DX8_notMoved 8 rfl) rfl rfl ?_
      refine sk_S.getr (dd DX8_notMoved 9 rfl) rfl fX8_19 se_54 (by decide) rfl ?_
      refine sk_S.iload_n (i := 1) (dd DX8_notMoved 10 rfl) rfl rfl ?_
      refine sk_S.iald (dd DX8_notMoved 11 rfl) se_58 (sk_ix_nI (k := a) rfl (by omega) (by decide)) ?_
      refine sk_S.if_eq (tgt := 35) (dd DX8_notMoved 12 rfl) (by decide) (fun c23 => ?_) (fun c23 => ?_)
      · refine sk_S.ldc (dd DX8_notMoved 18 rfl) rfl cnX8_190 ?_
        refine sk_S.iret (dd DX8_notMoved 19 rfl) rfl rfl ?_
        refine ⟨rfl, ?_⟩
        rw [mvK_in ha hb, if_pos (Or.inl c23)]
        rfl
      · refine sk_S.aload_n (i := 0) (dd DX8_notMoved 13 rfl) rfl rfl ?_
        refine sk_S.getr (dd DX8_notMoved 14 rfl) rfl fX8_19 se_54 (by decide) rfl ?_
        refine sk_S.iload_n (i := 3) (dd DX8_notMoved 15 rfl) rfl rfl ?_
        refine sk_S.iald (dd DX8_notMoved 16 rfl) se_58 (sk_ix_nI (k := b) rfl (by omega) (by decide)) ?_
        refine sk_S.if_ne (tgt := 38) (dd DX8_notMoved 17 rfl) (by decide) (fun c32 => ?_) (fun c32 => ?_)
        · refine sk_S.aload_n (i := 0) (dd DX8_notMoved 20 rfl) rfl rfl ?_
          refine sk_S.getr (dd DX8_notMoved 21 rfl) rfl fX8_19 se_54 (by decide) rfl ?_
          refine sk_S.iload_n (i := 1) (dd DX8_notMoved 22 rfl) rfl rfl ?_
          refine sk_S.iald (dd DX8_notMoved 23 rfl) se_58 (sk_ix_nI (k := a) rfl (by omega) (by decide)) ?_
          refine sk_S.aload_n (i := 0) (dd DX8_notMoved 24 rfl) rfl rfl ?_
          refine sk_S.getr (dd DX8_notMoved 25 rfl) rfl fX8_19 se_54 (by decide) rfl ?_
          refine sk_S.iload_n (i := 3) (dd DX8_notMoved 26 rfl) rfl rfl ?_
          refine sk_S.iald (dd DX8_notMoved 27 rfl) se_58 (sk_ix_nI (k := b) rfl (by omega) (by decide)) ?_
          refine sk_S.icmp_eq (tgt := 56) (dd DX8_notMoved 28 rfl) (by decide) (fun c50 => ?_) (fun c50 => ?_)
          · refine sk_S.iload (i := 5) (dd DX8_notMoved 31 rfl) rfl ?_
            refine sk_S.if_lt (tgt := 101) (dd DX8_notMoved 32 rfl) (by decide) (fun c58 => ?_) (fun c58 => ?_)
            · refine sk_S.iconst (v := 0) (dd DX8_notMoved 55 rfl) (by decide) ?_
              refine sk_S.istore (i := 6) (dd DX8_notMoved 56 rfl) (Nat.le_of_ble_eq_true rfl) rfl ?_
              refine sk_S.iload (i := 6) (dd DX8_notMoved 57 rfl) rfl ?_
              refine sk_S.if_eq (tgt := 113) (dd DX8_notMoved 58 rfl) (by decide) (fun c106 => ?_) (fun c106 => absurd rfl c106)
              refine sk_S.ldc (dd DX8_notMoved 61 rfl) rfl cnX8_73 ?_
              refine sk_S.iret (dd DX8_notMoved 62 rfl) rfl rfl ?_
              refine ⟨rfl, ?_⟩
              obtain ⟨la, la24⟩ := hS a ha
              obtain ⟨lb, lb24⟩ := hS b hb
              rw [mvK_in ha hb, if_neg (fun q => q.elim c23 c32), if_neg (fun q => q c50), if_neg]
              · rfl
              rintro ⟨x, y, q, rfl, rfl, rfl, f1, f2⟩
              obtain ⟨a1, a2, a3⟩ := mv_no la24 f1
              obtain ⟨b1, b2, b3⟩ := mv_no lb24 f2
              exact a1 c58
            · refine sk_S.iload_n (i := 2) (dd DX8_notMoved 33 rfl) rfl rfl ?_
              refine sk_S.if_lt (tgt := 101) (dd DX8_notMoved 34 rfl) (by decide) (fun c62 => ?_) (fun c62 => ?_)
              · refine sk_S.iconst (v := 0) (dd DX8_notMoved 55 rfl) (by decide) ?_
                refine sk_S.istore (i := 6) (dd DX8_notMoved 56 rfl) (Nat.le_of_ble_eq_true rfl) rfl ?_
                refine sk_S.iload (i := 6) (dd DX8_notMoved 57 rfl) rfl ?_
                refine sk_S.if_eq (tgt := 113) (dd DX8_notMoved 58 rfl) (by decide) (fun c106 => ?_) (fun c106 => absurd rfl c106)
                refine sk_S.ldc (dd DX8_notMoved 61 rfl) rfl cnX8_73 ?_
                refine sk_S.iret (dd DX8_notMoved 62 rfl) rfl rfl ?_
                refine ⟨rfl, ?_⟩
                obtain ⟨la, la24⟩ := hS a ha
                obtain ⟨lb, lb24⟩ := hS b hb
                rw [mvK_in ha hb, if_neg (fun q => q.elim c23 c32), if_neg (fun q => q c50), if_neg]
                · rfl
                rintro ⟨x, y, q, rfl, rfl, rfl, f1, f2⟩
                obtain ⟨a1, a2, a3⟩ := mv_no la24 f1
                obtain ⟨b1, b2, b3⟩ := mv_no lb24 f2
                exact a2 c62
              · refine sk_S.iload (i := 4) (dd DX8_notMoved 35 rfl) rfl ?_
                refine sk_S.if_lt (tgt := 101) (dd DX8_notMoved 36 rfl) (by decide) (fun c67 => ?_) (fun c67 => ?_)
                · refine sk_S.iconst (v := 0) (dd DX8_notMoved 55 rfl) (by decide) ?_
                  refine sk_S.istore (i := 6) (dd DX8_notMoved 56 rfl) (Nat.le_of_ble_eq_true rfl) rfl ?_
                  refine sk_S.iload (i := 6) (dd DX8_notMoved 57 rfl) rfl ?_
                  refine sk_S.if_eq (tgt := 113) (dd DX8_notMoved 58 rfl) (by decide) (fun c106 => ?_) (fun c106 => absurd rfl c106)
                  refine sk_S.ldc (dd DX8_notMoved 61 rfl) rfl cnX8_73 ?_
                  refine sk_S.iret (dd DX8_notMoved 62 rfl) rfl rfl ?_
                  refine ⟨rfl, ?_⟩
                  obtain ⟨la, la24⟩ := hS a ha
                  obtain ⟨lb, lb24⟩ := hS b hb
                  rw [mvK_in ha hb, if_neg (fun q => q.elim c23 c32), if_neg (fun q => q c50), if_neg]
                  · rfl
                  rintro ⟨x, y, q, rfl, rfl, rfl, f1, f2⟩
                  obtain ⟨a1, a2, a3⟩ := mv_no la24 f1
                  obtain ⟨b1, b2, b3⟩ := mv_no lb24 f2
                  exact b2 c67
                · refine sk_S.iload (i := 5) (dd DX8_notMoved 37 rfl) rfl ?_
                  refine sk_S.aload_n (i := 0) (dd DX8_notMoved 38 rfl) rfl rfl ?_
                  refine sk_S.getr (dd DX8_notMoved 39 rfl) rfl fX8_22 se_54 (by decide) rfl ?_
                  refine sk_S.iload_n (i := 1) (dd DX8_notMoved 40 rfl) rfl rfl ?_
                  refine sk_S.iald (dd DX8_notMoved 41 rfl) se_59 (sk_ix_nI (k := a) rfl (by omega) (by decide)) ?_
                  refine sk_S.iload_n (i := 2) (dd DX8_notMoved 42 rfl) rfl rfl ?_
                  refine sk_S.isub (dd DX8_notMoved 43 rfl) ?_
                  refine sk_S.icmp_gt (tgt := 101) (dd DX8_notMoved 44 rfl) (by decide) (fun c80 => ?_) (fun c80 => ?_)
                  · refine sk_S.iconst (v := 0) (dd DX8_notMoved 55 rfl) (by decide) ?_
                    refine sk_S.istore (i := 6) (dd DX8_notMoved 56 rfl) (Nat.le_of_ble_eq_true rfl) rfl ?_
                    refine sk_S.iload (i := 6) (dd DX8_notMoved 57 rfl) rfl ?_
                    refine sk_S.if_eq (tgt := 113) (dd DX8_notMoved 58 rfl) (by decide) (fun c106 => ?_) (fun c106 => absurd rfl c106)
                    refine sk_S.ldc (dd DX8_notMoved 61 rfl) rfl cnX8_73 ?_
                    refine sk_S.iret (dd DX8_notMoved 62 rfl) rfl rfl ?_
                    refine ⟨rfl, ?_⟩
                    obtain ⟨la, la24⟩ := hS a ha
                    obtain ⟨lb, lb24⟩ := hS b hb
                    rw [mvK_in ha hb, if_neg (fun q => q.elim c23 c32), if_neg (fun q => q c50), if_neg]
                    · rfl
                    rintro ⟨x, y, q, rfl, rfl, rfl, f1, f2⟩
                    obtain ⟨a1, a2, a3⟩ := mv_no la24 f1
                    obtain ⟨b1, b2, b3⟩ := mv_no lb24 f2
                    exact a3 (by rw [← la]; exact c80)
                  · refine sk_S.iload (i := 5) (dd DX8_notMoved 45 rfl) rfl ?_
                    refine sk_S.aload_n (i := 0) (dd DX8_notMoved 46 rfl) rfl rfl ?_
                    refine sk_S.getr (dd DX8_notMoved 47 rfl) rfl fX8_22 se_54 (by decide) rfl ?_
                    refine sk_S.iload_n (i := 3) (dd DX8_notMoved 48 rfl) rfl rfl ?_
                    refine sk_S.iald (dd DX8_notMoved 49 rfl) se_59 (sk_ix_nI (k := b) rfl (by omega) (by decide)) ?_
                    refine sk_S.iload (i := 4) (dd DX8_notMoved 50 rfl) rfl ?_
                    refine sk_S.isub (dd DX8_notMoved 51 rfl) ?_
                    refine sk_S.icmp_gt (tgt := 101) (dd DX8_notMoved 52 rfl) (by decide) (fun c94 => ?_) (fun c94 => ?_)
                    · refine sk_S.iconst (v := 0) (dd DX8_notMoved 55 rfl) (by decide) ?_
                      refine sk_S.istore (i := 6) (dd DX8_notMoved 56 rfl) (Nat.le_of_ble_eq_true rfl) rfl ?_
                      refine sk_S.iload (i := 6) (dd DX8_notMoved 57 rfl) rfl ?_
                      refine sk_S.if_eq (tgt := 113) (dd DX8_notMoved 58 rfl) (by decide) (fun c106 => ?_) (fun c106 => absurd rfl c106)
                      refine sk_S.ldc (dd DX8_notMoved 61 rfl) rfl cnX8_73 ?_
                      refine sk_S.iret (dd DX8_notMoved 62 rfl) rfl rfl ?_
                      refine ⟨rfl, ?_⟩
                      obtain ⟨la, la24⟩ := hS a ha
                      obtain ⟨lb, lb24⟩ := hS b hb
                      rw [mvK_in ha hb, if_neg (fun q => q.elim c23 c32), if_neg (fun q => q c50), if_neg]
                      · rfl
                      rintro ⟨x, y, q, rfl, rfl, rfl, f1, f2⟩
                      obtain ⟨a1, a2, a3⟩ := mv_no la24 f1
                      obtain ⟨b1, b2, b3⟩ := mv_no lb24 f2
                      exact b3 (by rw [← lb]; exact c94)
                    · refine sk_S.iconst (v := 1) (dd DX8_notMoved 53 rfl) (by decide) ?_
                      refine sk_S.goto (tgt := 102) (dd DX8_notMoved 54 rfl) (by decide) ?_
                      refine sk_S.istore (i := 6) (dd DX8_notMoved 56 rfl) (Nat.le_of_ble_eq_true rfl) rfl ?_
                      refine sk_S.iload (i := 6) (dd DX8_notMoved 57 rfl) rfl ?_
                      refine sk_S.if_eq (tgt := 113) (dd DX8_notMoved 58 rfl) (by decide) (fun c106 => absurd c106 (by decide)) (fun c106 => ?_)
                      refine sk_S.iconst (v := 0) (dd DX8_notMoved 59 rfl) (by decide) ?_
                      refine sk_S.goto (tgt := 115) (dd DX8_notMoved 60 rfl) (by decide) ?_
                      refine sk_S.iret (dd DX8_notMoved 62 rfl) rfl rfl ?_
                      refine ⟨rfl, ?_⟩
                      obtain ⟨la, la24⟩ := hS a ha
                      obtain ⟨lb, lb24⟩ := hS b hb
                      rw [mvK_in ha hb, if_neg (fun q => q.elim c23 c32), if_neg (fun q => q c50), if_pos]
                      · rfl
                      rw [la] at c80
                      rw [lb] at c94
                      obtain ⟨x, q, rfl, rfl, f1⟩ := mv_fit la24 c58 c62 c80
                      obtain ⟨y, q2, rfl, e2, f2⟩ := mv_fit lb24 c58 c67 c94
                      have e3 : q = q2 := nI_inj (by omega) (by omega) e2
                      subst e3
                      exact ⟨x, y, q, rfl, rfl, rfl, f1, f2⟩
          · refine sk_S.ldc (dd DX8_notMoved 29 rfl) rfl cnX8_88 ?_
            refine sk_S.iret (dd DX8_notMoved 30 rfl) rfl rfl ?_
            refine ⟨rfl, ?_⟩
            rw [mvK_in ha hb, if_neg (fun q => q.elim c23 c32), if_pos c50]
            rfl
        · refine sk_S.ldc (dd DX8_notMoved 18 rfl) rfl cnX8_190 ?_
          refine sk_S.iret (dd DX8_notMoved 19 rfl) rfl rfl ?_
          refine ⟨rfl, ?_⟩
          rw [mvK_in ha hb, if_pos (Or.inr c32)]
          rfl
    · refine sk_S.ldc (dd DX8_notMoved 6 rfl) rfl cnX8_73 ?_
      refine sk_S.iret (dd DX8_notMoved 7 rfl) rfl rfl ?_
      refine ⟨rfl, ?_⟩
      rw [mvK_no (fun q => c11 ((inN_le (by decide)).mpr q.2))]
      rfl
end M12
