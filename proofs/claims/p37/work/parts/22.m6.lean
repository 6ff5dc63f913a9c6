section M6
set_option maxRecDepth 100000 in
set_option maxHeartbeats 4000000 in
theorem cM_count {l : Launch} {E : sk_V} {d : Nat} {h : sk_M} {w : Int32}  : sk_K l E (d + 1) MX8_count [.ref 54, .int w] h (fun r h1 => (∃ j, j < 10 ∧ w = nI j ∧ h = h1 ∧ some (.int (cntV h j)) = r) ∨ (¬ inN w 10 ∧ erM h 1 h1 r)) := by
  refine sk_K.of (by decide +kernel) (Nat.le_of_ble_eq_true rfl) ?_
  show sk_S l E (d + 1) _ 0 [some (.ref 54), some (.int w)] [] h _
  refine sk_S.iload_n (i := 1) (dd DX8_count 0 rfl) rfl rfl ?_
  refine sk_S.tabL (dd DX8_count 1 rfl) rfl (by decide) (by decide) (by decide) (fun j1 hj1 e1 => ?_) (fun e1 => ?_)
  · rcases j1 with _ | _ | _ | _ | _ | _ | _ | _ | _ | _ | j1
    · show sk_S _ _ _ _ 56 _ _ _ _
      replace e1 : _ = (0 : Int32) := e1
      refine sk_S.aload_n (i := 0) (dd DX8_count 2 rfl) rfl rfl ?_
      refine sk_S.getr (dd DX8_count 3 rfl) rfl fX8_9 se_54 (by decide) rfl ?_
      refine sk_S.iconst (v := 2) (dd DX8_count 4 rfl) (by decide) ?_
      refine sk_S.iald (dd DX8_count 5 rfl) se_55 (j := 2) ⟨by decide, by decide, by decide⟩ ?_
      refine sk_S.iret (dd DX8_count 6 rfl) rfl rfl ?_
      exact Or.inl ⟨0, by decide, e1, rfl, rfl⟩
    · show sk_S _ _ _ _ 63 _ _ _ _
      replace e1 : _ = (1 : Int32) := e1
      refine sk_S.aload_n (i := 0) (dd DX8_count 7 rfl) rfl rfl ?_
      refine sk_S.getr (dd DX8_count 8 rfl) rfl fX8_9 se_54 (by decide) rfl ?_
      refine sk_S.iconst (v := 3) (dd DX8_count 9 rfl) (by decide) ?_
      refine sk_S.iald (dd DX8_count 10 rfl) se_55 (j := 3) ⟨by decide, by decide, by decide⟩ ?_
      refine sk_S.iret (dd DX8_count 11 rfl) rfl rfl ?_
      exact Or.inl ⟨1, by decide, e1, rfl, rfl⟩
    · show sk_S _ _ _ _ 70 _ _ _ _
      replace e1 : _ = (2 : Int32) := e1
      refine sk_S.aload_n (i := 0) (dd DX8_count 12 rfl) rfl rfl ?_
      refine sk_S.getr (dd DX8_count 13 rfl) rfl fX8_9 se_54 (by decide) rfl ?_
      refine sk_S.iconst (v := 0) (dd DX8_count 14 rfl) (by decide) ?_
      refine sk_S.iald (dd DX8_count 15 rfl) se_55 (j := 0) ⟨by decide, by decide, by decide⟩ ?_
      refine sk_S.iret (dd DX8_count 16 rfl) rfl rfl ?_
      exact Or.inl ⟨2, by decide, e1, rfl, rfl⟩
    · show sk_S _ _ _ _ 77 _ _ _ _
      replace e1 : _ = (3 : Int32) := e1
      refine sk_S.aload_n (i := 0) (dd DX8_count 17 rfl) rfl rfl ?_
      refine sk_S.getr (dd DX8_count 18 rfl) rfl fX8_9 se_54 (by decide) rfl ?_
      refine sk_S.iconst (v := 4) (dd DX8_count 19 rfl) (by decide) ?_
      refine sk_S.iload_n (i := 1) (dd DX8_count 20 rfl) rfl rfl ?_
      refine sk_S.iadd (dd DX8_count 21 rfl) ?_
      refine sk_S.iconst (v := 3) (dd DX8_count 22 rfl) (by decide) ?_
      refine sk_S.isub (dd DX8_count 23 rfl) ?_
      refine sk_S.iald (dd DX8_count 24 rfl) se_55 (j := 4) (by rw [e1]; exact ⟨by decide, by decide, by decide⟩) ?_
      refine sk_S.iret (dd DX8_count 25 rfl) rfl rfl ?_
      exact Or.inl ⟨3, by decide, e1, rfl, rfl⟩
    · show sk_S _ _ _ _ 77 _ _ _ _
      replace e1 : _ = (4 : Int32) := e1
      refine sk_S.aload_n (i := 0) (dd DX8_count 17 rfl) rfl rfl ?_
      refine sk_S.getr (dd DX8_count 18 rfl) rfl fX8_9 se_54 (by decide) rfl ?_
      refine sk_S.iconst (v := 4) (dd DX8_count 19 rfl) (by decide) ?_
      refine sk_S.iload_n (i := 1) (dd DX8_count 20 rfl) rfl rfl ?_
      refine sk_S.iadd (dd DX8_count 21 rfl) ?_
      refine sk_S.iconst (v := 3) (dd DX8_count 22 rfl) (by decide) ?_
      refine sk_S.isub (dd DX8_count 23 rfl) ?_
      refine sk_S.iald (dd DX8_count 24 rfl) se_55 (j := 5) (by rw [e1]; exact ⟨by decide, by decide, by decide⟩) ?_
      refine sk_S.iret (dd DX8_count 25 rfl) rfl rfl ?_
      exact Or.inl ⟨4, by decide, e1, rfl, rfl⟩
    · show sk_S _ _ _ _ 77 _ _ _ _
      replace e1 : _ = (5 : Int32) := e1
      refine sk_S.aload_n (i := 0) (dd DX8_count 17 rfl) rfl rfl ?_
      refine sk_S.getr (dd DX8_count 18 rfl) rfl fX8_9 se_54 (by decide) rfl ?_
      refine sk_S.iconst (v := 4) (dd DX8_count 19 rfl) (by decide) ?_
      refine sk_S.iload_n (i := 1) (dd DX8_count 20 rfl) rfl rfl ?_
      refine sk_S.iadd (dd DX8_count 21 rfl) ?_
      refine sk_S.iconst (v := 3) (dd DX8_count 22 rfl) (by decide) ?_
      refine sk_S.isub (dd DX8_count 23 rfl) ?_
      refine sk_S.iald (dd DX8_count 24 rfl) se_55 (j := 6) (by rw [e1]; exact ⟨by decide, by decide, by decide⟩) ?_
      refine sk_S.iret (dd DX8_count 25 rfl) rfl rfl ?_
      exact Or.inl ⟨5, by decide, e1, rfl, rfl⟩
    · show sk_S _ _ _ _ 88 _ _ _ _
      replace e1 : _ = (6 : Int32) := e1
      refine sk_S.aload_n (i := 0) (dd DX8_count 26 rfl) rfl rfl ?_
      refine sk_S.getr (dd DX8_count 27 rfl) rfl fX8_9 se_54 (by decide) rfl ?_
      refine sk_S.bipush (v := 7) (dd DX8_count 28 rfl) (by decide) ?_
      refine sk_S.iald (dd DX8_count 29 rfl) se_55 (j := 7) ⟨by decide, by decide, by decide⟩ ?_
      refine sk_S.iret (dd DX8_count 30 rfl) rfl rfl ?_
      exact Or.inl ⟨6, by decide, e1, rfl, rfl⟩
    · show sk_S _ _ _ _ 96 _ _ _ _
      replace e1 : _ = (7 : Int32) := e1
      refine sk_S.aload_n (i := 0) (dd DX8_count 31 rfl) rfl rfl ?_
      refine sk_S.getr (dd DX8_count 32 rfl) rfl fX8_9 se_54 (by decide) rfl ?_
      refine sk_S.bipush (v := 8) (dd DX8_count 33 rfl) (by decide) ?_
      refine sk_S.iald (dd DX8_count 34 rfl) se_55 (j := 8) ⟨by decide, by decide, by decide⟩ ?_
      refine sk_S.iret (dd DX8_count 35 rfl) rfl rfl ?_
      exact Or.inl ⟨7, by decide, e1, rfl, rfl⟩
    · show sk_S _ _ _ _ 104 _ _ _ _
      replace e1 : _ = (8 : Int32) := e1
      refine sk_S.aload_n (i := 0) (dd DX8_count 36 rfl) rfl rfl ?_
      refine sk_S.geti (dd DX8_count 37 rfl) rfl fX8_206 se_54 (by decide) rfl ?_
      refine sk_S.iret (dd DX8_count 38 rfl) rfl rfl ?_
      exact Or.inl ⟨8, by decide, e1, rfl, rfl⟩
    · show sk_S _ _ _ _ 109 _ _ _ _
      replace e1 : _ = (9 : Int32) := e1
      refine sk_S.aload_n (i := 0) (dd DX8_count 39 rfl) rfl rfl ?_
      refine sk_S.getr (dd DX8_count 40 rfl) rfl fX8_9 se_54 (by decide) rfl ?_
      refine sk_S.iconst (v := 1) (dd DX8_count 41 rfl) (by decide) ?_
      refine sk_S.iald (dd DX8_count 42 rfl) se_55 (j := 1) ⟨by decide, by decide, by decide⟩ ?_
      refine sk_S.iret (dd DX8_count 43 rfl) rfl rfl ?_
      exact Or.inl ⟨9, by decide, e1, rfl, rfl⟩
    · exact absurd hj1 (by simp)
  · show sk_S _ _ _ _ 116 _ _ _ _
    have e1_ := (⟨e1 0 (by decide), e1 1 (by decide), e1 2 (by decide), e1 3 (by decide), e1 4 (by decide), e1 5 (by decide), e1 6 (by decide), e1 7 (by decide), e1 8 (by decide), e1 9 (by decide)⟩ : ¬ _ = (0 : Int32) ∧ ¬ _ = (1 : Int32) ∧ ¬ _ = (2 : Int32) ∧ ¬ _ = (3 : Int32) ∧ ¬ _ = (4 : Int32) ∧ ¬ _ = (5 : Int32) ∧ ¬ _ = (6 : Int32) ∧ ¬ _ = (7 : Int32) ∧ ¬ _ = (8 : Int32) ∧ ¬ _ = (9 : Int32))
    refine sk_S.aload_n (i := 0) (dd DX8_count 44 rfl) rfl rfl ?_
    refine sk_S.ldc (dd DX8_count 45 rfl) rfl cnX8_73 ?_
    refine sk_S.callV (dd DX8_count 46 rfl) rfl kX8_74 (cM_error (k := 1) ⟨by decide, by decide, by decide⟩) se_54 (by decide) rfl rfl rfl rfl (Nat.le_of_ble_eq_true rfl) (fun r119 h119 q119 => ?_)
    obtain ⟨rfl, rfl⟩ := q119
    show sk_S _ _ _ _ _ _ (.int _ :: _) _ _
    refine sk_S.iret (dd DX8_count 47 rfl) rfl rfl ?_
    refine Or.inr ⟨?_, rfl, rfl⟩
    rintro ⟨j, hj, rfl⟩
    obtain ⟨a0, a1, a2, a3, a4, a5, a6, a7, a8, a9⟩ := e1_
    rcases j with _ | _ | _ | _ | _ | _ | _ | _ | _ | _ | j
    · exact a0 rfl
    · exact a1 rfl
    · exact a2 rfl
    · exact a3 rfl
    · exact a4 rfl
    · exact a5 rfl
    · exact a6 rfl
    · exact a7 rfl
    · exact a8 rfl
    · exact a9 rfl
    · omega
set_option maxRecDepth 100000 in
set_option maxHeartbeats 4000000 in
theorem lp_tal3 {l : Launch} {E : sk_V} {d : Nat} {h : sk_M} {ρ : Nat → Int32} (hb : boI ρ) (hI : lawI ρ 0) : ∀ (m j : Nat) (g : sk_M) (x3 : Option Value), j + m = boN ρ → sk_o [55, 63, 64] h g → g 55 = upd (soldK ρ 4) 4 (purB ρ j) → sk_S l E (d + 3) MX8_tallies 76 [some (.ref 54), some (.int (allF ρ 4)), some (.int (nI j)), x3] [] g (fun r h1 => sk_o [55, 63, 64] h h1 ∧ h1 55 = talR ρ ∧ some (.int (allF ρ 4)) = r)
  | 0, j, g, x3, hj, ho, hg => by
    have e2 : g 55 2 = nI (boN ρ) := by rw [hg, upd_ne (by decide), soldK_no (by omega)]; exact hb.1
    have hb6 := hb.2
    have hjn : j = boN ρ := by omega
    refine sk_S.iload_n (i := 2) (dd DX8_tallies_p1 51 rfl) rfl rfl ?_
    refine sk_S.aload_n (i := 0) (dd DX8_tallies_p1 52 rfl) rfl rfl ?_
    refine sk_S.getr (dd DX8_tallies_p1 53 rfl) rfl fX8_9 se_54 (by decide) rfl ?_
    refine sk_S.iconst (v := 2) (dd DX8_tallies_p1 54 rfl) (by decide) ?_
    refine sk_S.iald (dd DX8_tallies_p1 55 rfl) se_55 (j := 2) ⟨by decide, by decide, by decide⟩ ?_
    refine sk_S.icmp_ge (tgt := 115) (dd DX8_tallies_p1 56 rfl) (by decide) (fun c83 => ?_) (fun c83 => absurd (by rw [e2, hjn]; exact Int32.le_refl _) c83)
    refine sk_S.aload_n (i := 0) (dd DX8_tallies_p1 72 rfl) rfl rfl ?_
    refine sk_S.getr (dd DX8_tallies_p1 73 rfl) rfl fX8_9 se_54 (by decide) rfl ?_
    refine sk_S.iconst (v := 5) (dd DX8_tallies_p1 74 rfl) (by decide) ?_
    refine sk_S.aload_n (i := 0) (dd DX8_tallies_p1 75 rfl) rfl rfl ?_
    refine sk_S.getr (dd DX8_tallies_p1 76 rfl) rfl fX8_9 se_54 (by decide) rfl ?_
    refine sk_S.iconst (v := 5) (dd DX8_tallies_p1 77 rfl) (by decide) ?_
    refine sk_S.iald (dd DX8_tallies_p1 78 rfl) se_55 (j := 5) ⟨by decide, by decide, by decide⟩ ?_
    refine sk_S.iload_n (i := 1) (dd DX8_tallies_p1 79 rfl) rfl rfl ?_
    refine sk_S.iadd (dd DX8_tallies_p1 80 rfl) ?_
    refine sk_S.iconst (v := 0) (dd DX8_tallies_p1 81 rfl) (by decide) ?_
    refine sk_S.ldc (dd DX8_tallies_p1 82 rfl) rfl cnX8_96 ?_
    refine sk_S.callS (dd DX8_tallies_p1 83 rfl) rfl kX8_97 cM_held rfl rfl rfl (Nat.le_of_ble_eq_true rfl) (fun r131 h131 q131 => ?_)
    obtain ⟨rfl, rfl⟩ := q131
    show sk_S _ _ _ _ _ _ (.int _ :: _) _ _
    refine sk_S.iast (dd DX8_tallies_p1 84 rfl) se_55 (j := 5) ⟨by decide, by decide, by decide⟩ ?_
    refine sk_S.aload_n (i := 0) (dd DX8_tallies_p1 85 rfl) rfl rfl ?_
    refine sk_S.getr (dd DX8_tallies_p1 86 rfl) rfl fX8_9 se_54 (by decide) rfl ?_
    refine sk_S.bipush (v := 6) (dd DX8_tallies_p1 87 rfl) (by decide) ?_
    refine sk_S.aload_n (i := 0) (dd DX8_tallies_p1 88 rfl) rfl rfl ?_
    refine sk_S.getr (dd DX8_tallies_p1 89 rfl) rfl fX8_9 se_54 (by decide) rfl ?_
    refine sk_S.bipush (v := 6) (dd DX8_tallies_p1 90 rfl) (by decide) ?_
    refine sk_S.iald (dd DX8_tallies_p1 91 rfl) se_55 (j := 6) ⟨by decide, by decide, by decide⟩ ?_
    refine sk_S.iload_n (i := 1) (dd DX8_tallies_p1 92 rfl) rfl rfl ?_
    refine sk_S.if_ne (tgt := 156) (dd DX8_tallies_p1 93 rfl) (by decide) (fun c149 => ?_) (fun c149 => ?_)
    · refine sk_S.bipush (v := -2) (dd DX8_tallies_p1 96 rfl) (by decide) ?_
      refine sk_S.iadd (dd DX8_tallies_p1 97 rfl) ?_
      refine sk_S.iconst (v := 0) (dd DX8_tallies_p1 98 rfl) (by decide) ?_
      refine sk_S.bipush (v := 99) (dd DX8_tallies_p1 99 rfl) (by decide) ?_
      refine sk_S.callS (dd DX8_tallies_p2 0 rfl) rfl kX8_97 cM_held rfl rfl rfl (Nat.le_of_ble_eq_true rfl) (fun r162 h162 q162 => ?_)
      obtain ⟨rfl, rfl⟩ := q162
      show sk_S _ _ _ _ _ _ (.int _ :: _) _ _
      refine sk_S.iast (dd DX8_tallies_p2 1 rfl) se_55 (j := 6) ⟨by decide, by decide, by decide⟩ ?_
      refine sk_S.aload_n (i := 0) (dd DX8_tallies_p2 2 rfl) rfl rfl ?_
      refine sk_S.getr (dd DX8_tallies_p2 3 rfl) rfl fX8_9 se_54 (by decide) rfl ?_
      refine sk_S.iconst (v := 0) (dd DX8_tallies_p2 4 rfl) (by decide) ?_
      refine sk_S.dup2 (dd DX8_tallies_p2 5 rfl) rfl rfl ?_
      refine sk_S.iald (dd DX8_tallies_p2 6 rfl) se_55 (j := 0) ⟨by decide, by decide, by decide⟩ ?_
      refine sk_S.iconst (v := 1) (dd DX8_tallies_p2 7 rfl) (by decide) ?_
      refine sk_S.iadd (dd DX8_tallies_p2 8 rfl) ?_
      refine sk_S.iast (dd DX8_tallies_p2 9 rfl) se_55 (j := 0) ⟨by decide, by decide, by decide⟩ ?_
      refine sk_S.iload_n (i := 1) (dd DX8_tallies_p2 10 rfl) rfl rfl ?_
      refine sk_S.iret (dd DX8_tallies_p2 11 rfl) rfl rfl ?_
      refine ⟨((ho.u (by decide)).u (by decide)).u (by decide), ?_, rfl⟩
      subst hjn
      rw [sk_u, sk_r_eq, sk_u, sk_r_eq, sk_u, sk_r_eq, hg]
      unfold talR
      rw [if_neg c149]
      rfl
    · refine sk_S.iconst (v := 1) (dd DX8_tallies_p1 94 rfl) (by decide) ?_
      refine sk_S.goto (tgt := 158) (dd DX8_tallies_p1 95 rfl) (by decide) ?_
      refine sk_S.iadd (dd DX8_tallies_p1 97 rfl) ?_
      refine sk_S.iconst (v := 0) (dd DX8_tallies_p1 98 rfl) (by decide) ?_
      refine sk_S.bipush (v := 99) (dd DX8_tallies_p1 99 rfl) (by decide) ?_
      refine sk_S.callS (dd DX8_tallies_p2 0 rfl) rfl kX8_97 cM_held rfl rfl rfl (Nat.le_of_ble_eq_true rfl) (fun r162 h162 q162 => ?_)
      obtain ⟨rfl, rfl⟩ := q162
      show sk_S _ _ _ _ _ _ (.int _ :: _) _ _
      refine sk_S.iast (dd DX8_tallies_p2 1 rfl) se_55 (j := 6) ⟨by decide, by decide, by decide⟩ ?_
      refine sk_S.aload_n (i := 0) (dd DX8_tallies_p2 2 rfl) rfl rfl ?_
      refine sk_S.getr (dd DX8_tallies_p2 3 rfl) rfl fX8_9 se_54 (by decide) rfl ?_
      refine sk_S.iconst (v := 0) (dd DX8_tallies_p2 4 rfl) (by decide) ?_
      refine sk_S.dup2 (dd DX8_tallies_p2 5 rfl) rfl rfl ?_
      refine sk_S.iald (dd DX8_tallies_p2 6 rfl) se_55 (j := 0) ⟨by decide, by decide, by decide⟩ ?_
      refine sk_S.iconst (v := 1) (dd DX8_tallies_p2 7 rfl) (by decide) ?_
      refine sk_S.iadd (dd DX8_tallies_p2 8 rfl) ?_
      refine sk_S.iast (dd DX8_tallies_p2 9 rfl) se_55 (j := 0) ⟨by decide, by decide, by decide⟩ ?_
      refine sk_S.iload_n (i := 1) (dd DX8_tallies_p2 10 rfl) rfl rfl ?_
      refine sk_S.iret (dd DX8_tallies_p2 11 rfl) rfl rfl ?_
      refine ⟨((ho.u (by decide)).u (by decide)).u (by decide), ?_, rfl⟩
      subst hjn
      rw [sk_u, sk_r_eq, sk_u, sk_r_eq, sk_u, sk_r_eq, hg]
      unfold talR
      rw [if_pos c149]
      rfl
  | m + 1, j, g, x3, hj, ho, hg => by
    have e2 : g 55 2 = nI (boN ρ) := by rw [hg, upd_ne (by decide), soldK_no (by omega)]; exact hb.1
    have hb6 := hb.2
    
    refine sk_S.iload_n (i := 2) (dd DX8_tallies_p1 51 rfl) rfl rfl ?_
    refine sk_S.aload_n (i := 0) (dd DX8_tallies_p1 52 rfl) rfl rfl ?_
    refine sk_S.getr (dd DX8_tallies_p1 53 rfl) rfl fX8_9 se_54 (by decide) rfl ?_
    refine sk_S.iconst (v := 2) (dd DX8_tallies_p1 54 rfl) (by decide) ?_
    refine sk_S.iald (dd DX8_tallies_p1 55 rfl) se_55 (j := 2) ⟨by decide, by decide, by decide⟩ ?_
    refine sk_S.icmp_ge (tgt := 115) (dd DX8_tallies_p1 56 rfl) (by decide) (fun c83 => absurd c83 (by rw [e2]; exact nI_ge (by omega) (by omega))) (fun c83 => ?_)
    refine sk_S.aload_n (i := 0) (dd DX8_tallies_p1 57 rfl) rfl rfl ?_
    refine sk_S.aload_n (i := 0) (dd DX8_tallies_p1 58 rfl) rfl rfl ?_
    refine sk_S.iload_n (i := 2) (dd DX8_tallies_p1 59 rfl) rfl rfl ?_
    refine sk_S.iconst (v := 2) (dd DX8_tallies_p1 60 rfl) (by decide) ?_
    refine sk_S.callV (dd DX8_tallies_p1 61 rfl) rfl kX8_51 (cM_of (j := j) (w := 2) (by omega)) se_54 (by decide) rfl rfl rfl rfl (Nat.le_of_ble_eq_true rfl) (fun r90 h90 q90 => ?_)
    obtain ⟨rfl, rfl⟩ := q90
    show sk_S _ _ _ _ _ _ (.int _ :: _) _ _
    refine sk_S.iconst (v := 1) (dd DX8_tallies_p1 62 rfl) (by decide) ?_
    refine sk_S.icmp_ne (tgt := 101) (dd DX8_tallies_p1 63 rfl) (by decide) (fun c94 => ?_) (fun c94 => ?_)
    · refine sk_S.aload_n (i := 0) (dd DX8_tallies_p1 66 rfl) rfl rfl ?_
      refine sk_S.iload_n (i := 2) (dd DX8_tallies_p1 67 rfl) rfl rfl ?_
      refine sk_S.callV (dd DX8_tallies_p1 68 rfl) rfl kX8_82 (cM_eatsOf (j := j) (by omega)) se_54 (by decide) rfl rfl rfl rfl (Nat.le_of_ble_eq_true rfl) (fun r103 h103 q103 => ?_)
      obtain ⟨rfl, rfl⟩ := q103
      show sk_S _ _ _ _ _ _ (.int _ :: _) _ _
      refine sk_S.callV (dd DX8_tallies_p1 69 rfl) rfl kX8_168 cM_pays se_54 (by decide) rfl rfl rfl rfl (Nat.le_of_ble_eq_true rfl) (fun r106 h106 q106 => ?_)
      obtain ⟨rfl, rfl⟩ := q106
      show sk_S _ _ _ _ 109 _ _ _ _
      refine sk_S.iinc (i := 2) (v := _ + 1) (dd DX8_tallies_p1 70 rfl) rfl rfl rfl ?_
      refine sk_S.goto (tgt := 76) (dd DX8_tallies_p1 71 rfl) (by decide) ?_
      refine sk_S.L (lp_tal3 hb hI m (j + 1) _ x3 (by omega) (ho.u (by decide)) ?_) (by rw [nI_succ]; rfl)
      have e3 : g 55 (17 + 3 * j + 2) = ρ (17 + 3 * j + 2) := by rw [hg, upd_ne (by omega), soldK_no (by omega)]
      have e4 : g 55 (17 + 3 * j) = ρ (17 + 3 * j) := by rw [hg, upd_ne (by omega), soldK_no (by omega)]
      have e0 : g 55 0 = ρ 0 := by rw [hg, upd_ne (by omega), soldK_no (by omega)]
      rw [e3] at c94
      rw [sk_u, sk_r_eq, e4, e0, hg, upd_upd, upd_eq]
      show upd _ 4 (heldV (purB ρ j - _) _ _) = upd _ 4 (heldV (purB ρ j - _) _ _)
      rw [if_neg c94]
    · refine sk_S.iconst (v := 0) (dd DX8_tallies_p1 64 rfl) (by decide) ?_
      refine sk_S.goto (tgt := 106) (dd DX8_tallies_p1 65 rfl) (by decide) ?_
      refine sk_S.callV (dd DX8_tallies_p1 69 rfl) rfl kX8_168 cM_pays se_54 (by decide) rfl rfl rfl rfl (Nat.le_of_ble_eq_true rfl) (fun r106 h106 q106 => ?_)
      obtain ⟨rfl, rfl⟩ := q106
      show sk_S _ _ _ _ 109 _ _ _ _
      refine sk_S.iinc (i := 2) (v := _ + 1) (dd DX8_tallies_p1 70 rfl) rfl rfl rfl ?_
      refine sk_S.goto (tgt := 76) (dd DX8_tallies_p1 71 rfl) (by decide) ?_
      refine sk_S.L (lp_tal3 hb hI m (j + 1) _ x3 (by omega) (ho.u (by decide)) ?_) (by rw [nI_succ]; rfl)
      have e3 : g 55 (17 + 3 * j + 2) = ρ (17 + 3 * j + 2) := by rw [hg, upd_ne (by omega), soldK_no (by omega)]
      have e4 : g 55 (17 + 3 * j) = ρ (17 + 3 * j) := by rw [hg, upd_ne (by omega), soldK_no (by omega)]
      have e0 : g 55 0 = ρ 0 := by rw [hg, upd_ne (by omega), soldK_no (by omega)]
      rw [e3] at c94
      rw [sk_u, sk_r_eq, hg, upd_upd, upd_eq]
      show upd _ 4 (heldV (purB ρ j - _) _ _) = upd _ 4 (heldV (purB ρ j - _) _ _)
      rw [if_pos c94]
set_option maxRecDepth 100000 in
set_option maxHeartbeats 4000000 in
theorem lp_tal2 {l : Launch} {E : sk_V} {d : Nat} {h : sk_M} {ρ : Nat → Int32} (hb : boI ρ) (hI : lawI ρ 0) : ∀ (m f : Nat) (g : sk_M) (x3 : Option Value), f + m = 4 → sk_o [55, 63, 64] h g → g 55 = soldK (upd ρ 4 (purF ρ 4)) f → sk_S l E (d + 3) MX8_tallies 53 [some (.ref 54), some (.int (allF ρ 4)), some (.int (nI f)), x3] [] g (fun r h1 => sk_o [55, 63, 64] h h1 ∧ h1 55 = talR ρ ∧ some (.int (allF ρ 4)) = r)
  | 0, f, g, x3, hf, ho, hg => by
    have hfn : f = 4 := by omega
    subst hfn
    refine sk_S.iload_n (i := 2) (dd DX8_tallies_p1 37 rfl) rfl rfl ?_
    refine sk_S.iconst (v := 4) (dd DX8_tallies_p1 38 rfl) (by decide) ?_
    refine sk_S.icmp_ge (tgt := 74) (dd DX8_tallies_p1 39 rfl) (by decide) (fun c55 => ?_) (fun c55 => absurd (by decide) c55)
    refine sk_S.iconst (v := 0) (dd DX8_tallies_p1 49 rfl) (by decide) ?_
    refine sk_S.istore_n (i := 2) (dd DX8_tallies_p1 50 rfl) rfl (Nat.le_of_ble_eq_true rfl) rfl ?_
    exact lp_tal3 hb hI (boN ρ) 0 g x3 (Nat.zero_add _) ho (by rw [hg, soldK_up]; rfl)
  | m + 1, f, g, x3, hf, ho, hg => by
    refine sk_S.iload_n (i := 2) (dd DX8_tallies_p1 37 rfl) rfl rfl ?_
    refine sk_S.iconst (v := 4) (dd DX8_tallies_p1 38 rfl) (by decide) ?_
    refine sk_S.icmp_ge (tgt := 74) (dd DX8_tallies_p1 39 rfl) (by decide) (fun c55 => absurd c55 (nI_ge (b := 4) (by omega) (by decide))) (fun c55 => ?_)
    refine sk_S.aload_n (i := 0) (dd DX8_tallies_p1 40 rfl) rfl rfl ?_
    refine sk_S.getr (dd DX8_tallies_p1 41 rfl) rfl fX8_9 se_54 (by decide) rfl ?_
    refine sk_S.bipush (v := 9) (dd DX8_tallies_p1 42 rfl) (by decide) ?_
    refine sk_S.iload_n (i := 2) (dd DX8_tallies_p1 43 rfl) rfl rfl ?_
    refine sk_S.iadd (dd DX8_tallies_p1 44 rfl) ?_
    refine sk_S.iconst (v := 0) (dd DX8_tallies_p1 45 rfl) (by decide) ?_
    refine sk_S.iast (dd DX8_tallies_p1 46 rfl) se_55 (sk_ix_e (k := 9 + f) (ix_add 9 f) (by omega) (by decide)) ?_
    refine sk_S.iinc (i := 2) (v := _ + 1) (dd DX8_tallies_p1 47 rfl) rfl rfl rfl ?_
    refine sk_S.goto (tgt := 53) (dd DX8_tallies_p1 48 rfl) (by decide) ?_
    exact sk_S.L (lp_tal2 hb hI m (f + 1) _ x3 (by omega) (ho.u (by decide)) (by rw [sk_u, sk_r_eq, hg, soldK_s])) (by rw [nI_succ]; rfl)
set_option maxRecDepth 100000 in
set_option maxHeartbeats 4000000 in
theorem lp_tal1 {l : Launch} {E : sk_V} {d : Nat} {h : sk_M} {ρ : Nat → Int32} (hb : boI ρ) (hI : lawI ρ 0) : ∀ (m f : Nat) (g : sk_M) (x3 : Option Value), f + m = 4 → sk_o [55, 63, 64] h g → g 55 = upd ρ 4 (purF ρ f) → sk_S l E (d + 6) MX8_tallies 4 [some (.ref 54), some (.int (allF ρ f)), some (.int (nI f)), x3] [] g (fun r h1 => sk_o [55, 63, 64] h h1 ∧ h1 55 = talR ρ ∧ some (.int (allF ρ 4)) = r)
  | 0, f, g, x3, hf, ho, hg => by
    have hfn : f = 4 := by omega
    subst hfn
    refine sk_S.iload_n (i := 2) (dd DX8_tallies_p1 4 rfl) rfl rfl ?_
    refine sk_S.iconst (v := 4) (dd DX8_tallies_p1 5 rfl) (by decide) ?_
    refine sk_S.icmp_ge (tgt := 51) (dd DX8_tallies_p1 6 rfl) (by decide) (fun c6 => ?_) (fun c6 => absurd (by decide) c6)
    refine sk_S.iconst (v := 0) (dd DX8_tallies_p1 35 rfl) (by decide) ?_
    refine sk_S.istore_n (i := 2) (dd DX8_tallies_p1 36 rfl) rfl (Nat.le_of_ble_eq_true rfl) rfl ?_
    exact lp_tal2 hb hI 4 0 g x3 rfl ho (by rw [soldK_0]; exact hg)
  | m + 1, f, g, x3, hf, ho, hg => by
    have hbg : boI (g 55) := boI_cg (by rw [hg]; exact upd_ne (by decide)) hb
    have hIg : lawI (g 55) 0 := lawI_cg (fun k hk => by rw [hg]; exact upd_ne (by omega)) hI
    refine sk_S.iload_n (i := 2) (dd DX8_tallies_p1 4 rfl) rfl rfl ?_
    refine sk_S.iconst (v := 4) (dd DX8_tallies_p1 5 rfl) (by decide) ?_
    refine sk_S.icmp_ge (tgt := 51) (dd DX8_tallies_p1 6 rfl) (by decide) (fun c6 => absurd c6 (nI_ge (b := 4) (by omega) (by decide))) (fun c6 => ?_)
    refine sk_S.aload_n (i := 0) (dd DX8_tallies_p1 7 rfl) rfl rfl ?_
    refine sk_S.iload_n (i := 2) (dd DX8_tallies_p1 8 rfl) rfl rfl ?_
    refine sk_S.aload_n (i := 0) (dd DX8_tallies_p1 9 rfl) rfl rfl ?_
    refine sk_S.getr (dd DX8_tallies_p1 10 rfl) rfl fX8_9 se_54 (by decide) rfl ?_
    refine sk_S.bipush (v := 9) (dd DX8_tallies_p1 11 rfl) (by decide) ?_
    refine sk_S.iload_n (i := 2) (dd DX8_tallies_p1 12 rfl) rfl rfl ?_
    refine sk_S.iadd (dd DX8_tallies_p1 13 rfl) ?_
    refine sk_S.iald (dd DX8_tallies_p1 14 rfl) se_55 (sk_ix_e (k := 9 + f) (ix_add 9 f) (by omega) (by decide)) ?_
    refine sk_S.callV (dd DX8_tallies_p1 15 rfl) rfl kX8_165 (cM_shortBy rfl hbg hIg) se_54 (by decide) rfl rfl rfl rfl (Nat.le_of_ble_eq_true rfl) (fun r20 h20 q20 => ?_)
    obtain ⟨ho2, rfl⟩ := q20
    have e55 : h20 55 = upd ρ 4 (purF ρ f) := (ho2 55 (by decide)).trans hg
    have eL : shortG (g 55) (nI f) (g 55 (9 + f)) = lessG ρ f := by
      unfold lessG
      rw [hg, upd_ne (by omega)]
      exact shortG_cg (fun k hk => upd_ne (by omega)) (upd_ne (by decide)) (upd_ne (by decide)) (upd_ne (by decide))
    rw [eL]
    show sk_S _ _ _ _ _ _ (.int _ :: _) _ _
    refine sk_S.istore_n (i := 3) (dd DX8_tallies_p1 16 rfl) rfl (Nat.le_of_ble_eq_true rfl) rfl ?_
    refine sk_S.aload_n (i := 0) (dd DX8_tallies_p1 17 rfl) rfl rfl ?_
    refine sk_S.iconst (v := 2) (dd DX8_tallies_p1 18 rfl) (by decide) ?_
    refine sk_S.iload_n (i := 3) (dd DX8_tallies_p1 19 rfl) rfl rfl ?_
    refine sk_S.imul (dd DX8_tallies_p1 20 rfl) ?_
    refine sk_S.aload_n (i := 0) (dd DX8_tallies_p1 21 rfl) rfl rfl ?_
    refine sk_S.getr (dd DX8_tallies_p1 22 rfl) rfl fX8_9 se_54 (by decide) rfl ?_
    refine sk_S.bipush (v := 13) (dd DX8_tallies_p1 23 rfl) (by decide) ?_
    refine sk_S.iload_n (i := 2) (dd DX8_tallies_p1 24 rfl) rfl rfl ?_
    refine sk_S.iadd (dd DX8_tallies_p1 25 rfl) ?_
    refine sk_S.iald (dd DX8_tallies_p1 26 rfl) se_55 (sk_ix_e (k := 13 + f) (ix_add 13 f) (by omega) (by decide)) ?_
    refine sk_S.imul (dd DX8_tallies_p1 27 rfl) ?_
    refine sk_S.callV (dd DX8_tallies_p1 28 rfl) rfl kX8_168 cM_pays se_54 (by decide) rfl rfl rfl rfl (Nat.le_of_ble_eq_true rfl) (fun r38 h38 q38 => ?_)
    obtain ⟨rfl, rfl⟩ := q38
    show sk_S _ _ _ _ 41 _ _ _ _
    refine sk_S.iload_n (i := 1) (dd DX8_tallies_p1 29 rfl) rfl rfl ?_
    refine sk_S.iload_n (i := 3) (dd DX8_tallies_p1 30 rfl) rfl rfl ?_
    refine sk_S.iadd (dd DX8_tallies_p1 31 rfl) ?_
    refine sk_S.istore_n (i := 1) (dd DX8_tallies_p1 32 rfl) rfl (Nat.le_of_ble_eq_true rfl) rfl ?_
    refine sk_S.iinc (i := 2) (v := _ + 1) (dd DX8_tallies_p1 33 rfl) rfl rfl rfl ?_
    refine sk_S.goto (tgt := 4) (dd DX8_tallies_p1 34 rfl) (by decide) ?_
    refine sk_S.L (lp_tal1 hb hI m (f + 1) _ (some (.int (lessG ρ f))) (by omega) ((ho.tr (ho2.more (by decide))).u (by decide)) ?_) (by rw [nI_succ]; rfl)
    rw [sk_u, sk_r_eq, e55, upd_upd, upd_eq, upd_ne (by omega)]
    rfl
set_option maxRecDepth 100000 in
set_option maxHeartbeats 4000000 in
theorem cM_tallies {l : Launch} {E : sk_V} {d : Nat} {h : sk_M} {ρ : Nat → Int32} (hρ : h 55 = ρ) (hb : boI ρ) (hI : lawI ρ 0) : sk_K l E (d + 6) MX8_tallies [.ref 54] h (fun r h1 => sk_o [55, 63, 64] h h1 ∧ h1 55 = talR ρ ∧ some (.int (allF ρ 4)) = r) := by
  refine sk_K.of (by decide +kernel) (Nat.le_of_ble_eq_true rfl) ?_
  show sk_S l E (d + 6) _ 0 [some (.ref 54), none, none, none] [] h _
  refine sk_S.iconst (v := 0) (dd DX8_tallies_p1 0 rfl) (by decide) ?_
  refine sk_S.istore_n (i := 1) (dd DX8_tallies_p1 1 rfl) rfl (Nat.le_of_ble_eq_true rfl) rfl ?_
  refine sk_S.iconst (v := 0) (dd DX8_tallies_p1 2 rfl) (by decide) ?_
  refine sk_S.istore_n (i := 2) (dd DX8_tallies_p1 3 rfl) rfl (Nat.le_of_ble_eq_true rfl) rfl ?_
  exact lp_tal1 hb hI 4 0 h none rfl sk_o.rf (by rw [hρ]; exact upd_self.symm)
set_option maxRecDepth 100000 in
set_option maxHeartbeats 4000000 in
theorem cM_tally {l : Launch} {E : sk_V} {d : Nat} {h : sk_M}  (hb : boI (h 55)) (hI : lawI (h 55) 0) : sk_K l E (d + 7) MX8_tally [.ref 54] h (fun r h1 => (h 55 0 = 9999 ∧ erM h 3 h1 r) ∨ (¬ h 55 0 = 9999 ∧ sk_o [55, 63, 64] h h1 ∧ h1 55 = talR (h 55) ∧ some (.int (allF (h 55) 4)) = r)) := by
  refine sk_K.of (by decide +kernel) (Nat.le_of_ble_eq_true rfl) ?_
  show sk_S l E (d + 7) _ 0 [some (.ref 54)] [] h _
  refine sk_S.aload_n (i := 0) (dd DX8_tally 0 rfl) rfl rfl ?_
  refine sk_S.getr (dd DX8_tally 1 rfl) rfl fX8_9 se_54 (by decide) rfl ?_
  refine sk_S.iconst (v := 0) (dd DX8_tally 2 rfl) (by decide) ?_
  refine sk_S.iald (dd DX8_tally 3 rfl) se_55 (j := 0) ⟨by decide, by decide, by decide⟩ ?_
  refine sk_S.sipush (v := 9999) (dd DX8_tally 4 rfl) (by decide) ?_
  refine sk_S.icmp_ne (tgt := 21) (dd DX8_tally 5 rfl) (by decide) (fun c9 => ?_) (fun c9 => ?_)
  · refine sk_S.aload_n (i := 0) (dd DX8_tally 10 rfl) rfl rfl ?_
    refine sk_S.callV (dd DX8_tally 11 rfl) rfl kX8_171 (cM_tallies rfl hb hI) se_54 (by decide) rfl rfl rfl rfl (Nat.le_of_ble_eq_true rfl) (fun r22 h22 q22 => ?_)
    obtain ⟨ho, e55, rfl⟩ := q22
    show sk_S _ _ _ _ _ _ (.int _ :: _) _ _
    refine sk_S.iret (dd DX8_tally 12 rfl) rfl rfl ?_
    exact Or.inr ⟨c9, ho, e55, rfl⟩
  · refine sk_S.aload_n (i := 0) (dd DX8_tally 6 rfl) rfl rfl ?_
    refine sk_S.ldc (dd DX8_tally 7 rfl) rfl cnX8_100 ?_
    refine sk_S.callV (dd DX8_tally 8 rfl) rfl kX8_74 (cM_error (k := 3) ⟨by decide, by decide, by decide⟩) se_54 (by decide) rfl rfl rfl rfl (Nat.le_of_ble_eq_true rfl) (fun r15 h15 q15 => ?_)
    obtain ⟨rfl, rfl⟩ := q15
    show sk_S _ _ _ _ _ _ (.int _ :: _) _ _
    refine sk_S.goto (tgt := 25) (dd DX8_tally 9 rfl) (by decide) ?_
    refine sk_S.iret (dd DX8_tally 12 rfl) rfl rfl ?_
    exact Or.inl ⟨c9, rfl, rfl⟩
end M6
