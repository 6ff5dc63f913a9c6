section M15
set_option maxRecDepth 100000 in
set_option maxHeartbeats 4000000 in
theorem cM_plainParts {l : Launch} {E : sk_V} {d : Nat} {h : sk_M} {ρ : Nat → Int32} {n t : Nat} {x : Int32} (ht : t < 6) (hρ : h 55 = ρ) (hn : h 54 18 = nI n) (h30 : n ≤ 20) : sk_K l E (d + 1) MX8_plainParts [.ref 54, .int (nI t), .int x] h (fun r h1 => trQ h h1 n [13] (bi ((ρ (17 + 3 * t + 1) - nI t) = 0)) ∧ some (.int (if (ρ (17 + 3 * t + 1) - nI t) = 0 then 0 else x / (ρ (17 + 3 * t + 1) - nI t))) = r) := by
  refine sk_K.of (by decide +kernel) (Nat.le_of_ble_eq_true rfl) ?_
  show sk_S l E (d + 1) _ 0 [some (.ref 54), some (.int (nI t)), some (.int x), none] [] h _
  refine sk_S.aload_n (i := 0) (dd DX8_plainParts 0 rfl) rfl rfl ?_
  refine sk_S.bipush (v := 13) (dd DX8_plainParts 1 rfl) (by decide) ?_
  refine sk_S.callV (dd DX8_plainParts 2 rfl) rfl kX8_209 (cM_begins hn (by omega)) se_54 (by decide) rfl rfl rfl rfl (Nat.le_of_ble_eq_true rfl) (fun r3 h3 q3 => ?_)
  obtain ⟨o1, a1, b1, rfl⟩ := q3
  have n1 : h3 54 18 = nI (n + 1) := by rw [a1, upd_eq]
  have e1 : h3 55 = h 55 := o1 55 (by decide)
  show sk_S _ _ _ _ 6 _ _ _ _
  refine sk_S.aload_n (i := 0) (dd DX8_plainParts 3 rfl) rfl rfl ?_
  refine sk_S.iload_n (i := 1) (dd DX8_plainParts 4 rfl) rfl rfl ?_
  refine sk_S.iconst (v := 1) (dd DX8_plainParts 5 rfl) (by decide) ?_
  refine sk_S.callV (dd DX8_plainParts 6 rfl) rfl kX8_51 (cM_of (j := t) (w := 1) (by omega)) se_54 (by decide) rfl rfl rfl rfl (Nat.le_of_ble_eq_true rfl) (fun r9 h9 q9 => ?_)
  obtain ⟨rfl, rfl⟩ := q9
  show sk_S _ _ _ _ _ _ (.int _ :: _) _ _
  refine sk_S.iload_n (i := 1) (dd DX8_plainParts 7 rfl) rfl rfl ?_
  refine sk_S.isub (dd DX8_plainParts 8 rfl) ?_
  refine sk_S.istore_n (i := 3) (dd DX8_plainParts 9 rfl) rfl (Nat.le_of_ble_eq_true rfl) rfl ?_
  refine sk_S.aload_n (i := 0) (dd DX8_plainParts 10 rfl) rfl rfl ?_
  rw [e1, hρ]
  refine sk_S.iload_n (i := 3) (dd DX8_plainParts 11 rfl) rfl rfl ?_
  refine sk_S.if_ne (tgt := 24) (dd DX8_plainParts 12 rfl) (by decide) (fun c17 => ?_) (fun c17 => ?_)
  · refine sk_S.iconst (v := 0) (dd DX8_plainParts 15 rfl) (by decide) ?_
    refine sk_S.putf (dd DX8_plainParts 16 rfl) rfl pX8_233 se_54 (by decide) rfl rfl rfl ?_
    refine sk_S.aload_n (i := 0) (dd DX8_plainParts 17 rfl) rfl rfl ?_
    refine sk_S.geti (dd DX8_plainParts 18 rfl) rfl fX8_233 se_54 (by decide) rfl ?_
    refine sk_S.if_eq (tgt := 39) (dd DX8_plainParts 19 rfl) (by decide) (fun c32 => ?_) (fun c32 => absurd rfl c32)
    refine sk_S.iload_n (i := 2) (dd DX8_plainParts 22 rfl) rfl rfl ?_
    refine sk_S.iload_n (i := 3) (dd DX8_plainParts 23 rfl) rfl rfl ?_
    refine sk_S.idiv (dd DX8_plainParts 24 rfl) c17 ?_
    refine sk_S.iret (dd DX8_plainParts 25 rfl) rfl rfl ?_
    have hq := trQ.of (bs := [13]) o1 a1 b1
    obtain ⟨h1, h2, h3, h4, h5⟩ := hq
    refine ⟨⟨h1.u (by decide), ?_, ?_, ?_, ?_⟩, ?_⟩
    · exact h2
    · rw [bi_f c17]; rfl
    · intro k k1 k2; rw [sk_u_at, if_pos rfl, if_neg k2]; exact h4 k k1 k2
    · exact h5
    · rw [if_neg c17]
  · refine sk_S.iconst (v := 1) (dd DX8_plainParts 13 rfl) (by decide) ?_
    refine sk_S.goto (tgt := 25) (dd DX8_plainParts 14 rfl) (by decide) ?_
    refine sk_S.putf (dd DX8_plainParts 16 rfl) rfl pX8_233 se_54 (by decide) rfl rfl rfl ?_
    refine sk_S.aload_n (i := 0) (dd DX8_plainParts 17 rfl) rfl rfl ?_
    refine sk_S.geti (dd DX8_plainParts 18 rfl) rfl fX8_233 se_54 (by decide) rfl ?_
    refine sk_S.if_eq (tgt := 39) (dd DX8_plainParts 19 rfl) (by decide) (fun c32 => absurd c32 (show ¬ (1 : Int32) = 0 by decide)) (fun c32 => ?_)
    refine sk_S.iconst (v := 0) (dd DX8_plainParts 20 rfl) (by decide) ?_
    refine sk_S.goto (tgt := 42) (dd DX8_plainParts 21 rfl) (by decide) ?_
    refine sk_S.iret (dd DX8_plainParts 25 rfl) rfl rfl ?_
    have hq := trQ.of (bs := [13]) o1 a1 b1
    obtain ⟨h1, h2, h3, h4, h5⟩ := hq
    refine ⟨⟨h1.u (by decide), ?_, ?_, ?_, ?_⟩, ?_⟩
    · exact h2
    · rw [bi_t c17]; rfl
    · intro k k1 k2; rw [sk_u_at, if_pos rfl, if_neg k2]; exact h4 k k1 k2
    · exact h5
    · rw [if_pos c17]
set_option maxRecDepth 100000 in
set_option maxHeartbeats 4000000 in
theorem cM_partsBy {l : Launch} {E : sk_V} {d : Nat} {h : sk_M} {ρ : Nat → Int32} {n t : Nat} {x : Int32} (ht : t < 6) (hρ : h 55 = ρ) (hn : h 54 18 = nI n) (h30 : n ≤ 15) : sk_K l E (d + 7) MX8_partsBy [.ref 54, .int (nI t), .int x] h (fun r h1 => trQ h h1 n (voRb (ρ (17 + 3 * t)) (ρ (17 + 3 * t + 1)) (nI t)) (bi ((ρ (17 + 3 * t + 1) - nI t) = 0)) ∧ some (.int (voR (ρ (17 + 3 * t)) (ρ (17 + 3 * t + 1)) (nI t) x)) = r) := by
  refine sk_K.of (by decide +kernel) (Nat.le_of_ble_eq_true rfl) ?_
  show sk_S l E (d + 7) _ 0 [some (.ref 54), some (.int (nI t)), some (.int x), none] [] h _
  refine sk_S.aload_n (i := 0) (dd DX8_partsBy 0 rfl) rfl rfl ?_
  refine sk_S.iload_n (i := 1) (dd DX8_partsBy 1 rfl) rfl rfl ?_
  refine sk_S.iconst (v := 0) (dd DX8_partsBy 2 rfl) (by decide) ?_
  refine sk_S.callV (dd DX8_partsBy 3 rfl) rfl kX8_51 (cM_of (j := t) (w := 0) (by omega)) se_54 (by decide) rfl rfl rfl rfl (Nat.le_of_ble_eq_true rfl) (fun r3 h3 q3 => ?_)
  obtain ⟨rfl, rfl⟩ := q3
  show sk_S _ _ _ _ _ _ (.int _ :: _) _ _
  refine sk_S.iconst (v := 1) (dd DX8_partsBy 4 rfl) (by decide) ?_
  refine sk_S.icmp_eq (tgt := 20) (dd DX8_partsBy 5 rfl) (by decide) (fun c7 => ?_) (fun c7 => ?_)
  · refine sk_S.aload_n (i := 0) (dd DX8_partsBy 12 rfl) rfl rfl ?_
    refine sk_S.bipush (v := 21) (dd DX8_partsBy 13 rfl) (by decide) ?_
    refine sk_S.callV (dd DX8_partsBy 14 rfl) rfl kX8_209 (cM_begins hn (by omega)) se_54 (by decide) rfl rfl rfl rfl (Nat.le_of_ble_eq_true rfl) (fun r23 h23 q23 => ?_)
    obtain ⟨o1, a1, b1, rfl⟩ := q23
    have tq := trQ.of (bs := [21]) o1 a1 b1
    have n1 : h23 54 18 = nI (n + 1) := by rw [a1, upd_eq]
    have e1 : h23 55 = h 55 := o1 55 (by decide)
    show sk_S _ _ _ _ 26 _ _ _ _
    refine sk_S.aload_n (i := 0) (dd DX8_partsBy 15 rfl) rfl rfl ?_
    refine sk_S.iload_n (i := 1) (dd DX8_partsBy 16 rfl) rfl rfl ?_
    refine sk_S.iload_n (i := 2) (dd DX8_partsBy 17 rfl) rfl rfl ?_
    refine sk_S.callV (dd DX8_partsBy 18 rfl) rfl kX8_236 (cM_plainParts ht (e1.trans hρ) n1 (by omega)) se_54 (by decide) rfl rfl rfl rfl (Nat.le_of_ble_eq_true rfl) (fun r29 h29 q29 => ?_)
    obtain ⟨t2, rfl⟩ := q29
    show sk_S _ _ _ _ _ _ (.int _ :: _) _ _
    refine sk_S.istore_n (i := 3) (dd DX8_partsBy 19 rfl) rfl (Nat.le_of_ble_eq_true rfl) rfl ?_
    refine sk_S.aload_n (i := 0) (dd DX8_partsBy 20 rfl) rfl rfl ?_
    refine sk_S.geti (dd DX8_partsBy 21 rfl) rfl fX8_233 se_54 (by decide) rfl ?_
    refine sk_S.if_eq (tgt := 44) (dd DX8_partsBy 22 rfl) (by decide) (fun c37 => ?_) (fun c37 => ?_)
    · have hp : ¬ (ρ (17 + 3 * t + 1) - nI t) = 0 := by
        intro q
        rw [t2.2.2.1, bi_t q] at c37
        exact absurd c37 (by decide)
      refine sk_S.iload_n (i := 3) (dd DX8_partsBy 25 rfl) rfl rfl ?_
      refine sk_S.aload_n (i := 0) (dd DX8_partsBy 26 rfl) rfl rfl ?_
      refine sk_S.iload_n (i := 1) (dd DX8_partsBy 27 rfl) rfl rfl ?_
      refine sk_S.iconst (v := 1) (dd DX8_partsBy 28 rfl) (by decide) ?_
      refine sk_S.callV (dd DX8_partsBy 29 rfl) rfl kX8_227 (cM_hauls (n := n + 2) ht ((t2.1 55 (by decide)).trans (e1.trans hρ)) t2.2.1 (by omega)) se_54 (by decide) rfl rfl rfl rfl (Nat.le_of_ble_eq_true rfl) (fun r48 h48 q48 => ?_)
      obtain ⟨o3, a3, b3, rfl⟩ := q48
      show sk_S _ _ _ _ _ _ (.int _ :: _) _ _
      refine sk_S.iadd (dd DX8_partsBy 30 rfl) ?_
      refine sk_S.iret (dd DX8_partsBy 31 rfl) rfl rfl ?_
      have hk : ρ (17 + 3 * t) = 1 ∨ ρ (17 + 3 * t) = 4 := Or.inl (by rw [← hρ]; exact c7)
      unfold voRb voR
      rw [if_pos hk, if_neg hp, if_neg hp, if_pos hk]
      rw [bi_f hp] at t2 ⊢
      refine ⟨(tq.tr t2).tr ?_, ?_⟩
      · have h9 := trQ.of o3 a3 b3
        rw [t2.2.2.1] at h9
        exact h9
      · rw [if_neg hp]
    · refine sk_S.iconst (v := 0) (dd DX8_partsBy 23 rfl) (by decide) ?_
      refine sk_S.goto (tgt := 52) (dd DX8_partsBy 24 rfl) (by decide) ?_
      refine sk_S.iret (dd DX8_partsBy 31 rfl) rfl rfl ?_
      have hk : ρ (17 + 3 * t) = 1 ∨ ρ (17 + 3 * t) = 4 := Or.inl (by rw [← hρ]; exact c7)
      have hp : (ρ (17 + 3 * t + 1) - nI t) = 0 := by
        apply Decidable.byContradiction
        intro q
        apply c37
        rw [t2.2.2.1, bi_f q]
      unfold voRb voR
      rw [if_pos hk, if_pos hp, if_pos hp]
      refine ⟨?_, rfl⟩
      rw [bi_t hp] at t2 ⊢
      exact tq.tr t2
  · refine sk_S.aload_n (i := 0) (dd DX8_partsBy 6 rfl) rfl rfl ?_
    refine sk_S.iload_n (i := 1) (dd DX8_partsBy 7 rfl) rfl rfl ?_
    refine sk_S.iconst (v := 0) (dd DX8_partsBy 8 rfl) (by decide) ?_
    refine sk_S.callV (dd DX8_partsBy 9 rfl) rfl kX8_51 (cM_of (j := t) (w := 0) (by omega)) se_54 (by decide) rfl rfl rfl rfl (Nat.le_of_ble_eq_true rfl) (fun r13 h13 q13 => ?_)
    obtain ⟨rfl, rfl⟩ := q13
    show sk_S _ _ _ _ _ _ (.int _ :: _) _ _
    refine sk_S.iconst (v := 4) (dd DX8_partsBy 10 rfl) (by decide) ?_
    refine sk_S.icmp_ne (tgt := 53) (dd DX8_partsBy 11 rfl) (by decide) (fun c17 => ?_) (fun c17 => ?_)
    · refine sk_S.aload_n (i := 0) (dd DX8_partsBy 32 rfl) rfl rfl ?_
      refine sk_S.iload_n (i := 1) (dd DX8_partsBy 33 rfl) rfl rfl ?_
      refine sk_S.iload_n (i := 2) (dd DX8_partsBy 34 rfl) rfl rfl ?_
      refine sk_S.callV (dd DX8_partsBy 35 rfl) rfl kX8_236 (cM_plainParts ht hρ hn (by omega)) se_54 (by decide) rfl rfl rfl rfl (Nat.le_of_ble_eq_true rfl) (fun r56 h56 q56 => ?_)
      obtain ⟨t2, rfl⟩ := q56
      show sk_S _ _ _ _ _ _ (.int _ :: _) _ _
      refine sk_S.iret (dd DX8_partsBy 36 rfl) rfl rfl ?_
      have hk : ¬ (ρ (17 + 3 * t) = 1 ∨ ρ (17 + 3 * t) = 4) := fun q => q.elim (fun q => c7 (by rw [hρ]; exact q)) (fun q => c17 (by rw [hρ]; exact q))
      unfold voRb voR
      rw [if_neg hk, if_neg hk]
      exact ⟨t2, rfl⟩
    · refine sk_S.aload_n (i := 0) (dd DX8_partsBy 12 rfl) rfl rfl ?_
      refine sk_S.bipush (v := 21) (dd DX8_partsBy 13 rfl) (by decide) ?_
      refine sk_S.callV (dd DX8_partsBy 14 rfl) rfl kX8_209 (cM_begins hn (by omega)) se_54 (by decide) rfl rfl rfl rfl (Nat.le_of_ble_eq_true rfl) (fun r23 h23 q23 => ?_)
      obtain ⟨o1, a1, b1, rfl⟩ := q23
      have tq := trQ.of (bs := [21]) o1 a1 b1
      have n1 : h23 54 18 = nI (n + 1) := by rw [a1, upd_eq]
      have e1 : h23 55 = h 55 := o1 55 (by decide)
      show sk_S _ _ _ _ 26 _ _ _ _
      refine sk_S.aload_n (i := 0) (dd DX8_partsBy 15 rfl) rfl rfl ?_
      refine sk_S.iload_n (i := 1) (dd DX8_partsBy 16 rfl) rfl rfl ?_
      refine sk_S.iload_n (i := 2) (dd DX8_partsBy 17 rfl) rfl rfl ?_
      refine sk_S.callV (dd DX8_partsBy 18 rfl) rfl kX8_236 (cM_plainParts ht (e1.trans hρ) n1 (by omega)) se_54 (by decide) rfl rfl rfl rfl (Nat.le_of_ble_eq_true rfl) (fun r29 h29 q29 => ?_)
      obtain ⟨t2, rfl⟩ := q29
      show sk_S _ _ _ _ _ _ (.int _ :: _) _ _
      refine sk_S.istore_n (i := 3) (dd DX8_partsBy 19 rfl) rfl (Nat.le_of_ble_eq_true rfl) rfl ?_
      refine sk_S.aload_n (i := 0) (dd DX8_partsBy 20 rfl) rfl rfl ?_
      refine sk_S.geti (dd DX8_partsBy 21 rfl) rfl fX8_233 se_54 (by decide) rfl ?_
      refine sk_S.if_eq (tgt := 44) (dd DX8_partsBy 22 rfl) (by decide) (fun c37 => ?_) (fun c37 => ?_)
      · have hp : ¬ (ρ (17 + 3 * t + 1) - nI t) = 0 := by
          intro q
          rw [t2.2.2.1, bi_t q] at c37
          exact absurd c37 (by decide)
        refine sk_S.iload_n (i := 3) (dd DX8_partsBy 25 rfl) rfl rfl ?_
        refine sk_S.aload_n (i := 0) (dd DX8_partsBy 26 rfl) rfl rfl ?_
        refine sk_S.iload_n (i := 1) (dd DX8_partsBy 27 rfl) rfl rfl ?_
        refine sk_S.iconst (v := 1) (dd DX8_partsBy 28 rfl) (by decide) ?_
        refine sk_S.callV (dd DX8_partsBy 29 rfl) rfl kX8_227 (cM_hauls (n := n + 2) ht ((t2.1 55 (by decide)).trans (e1.trans hρ)) t2.2.1 (by omega)) se_54 (by decide) rfl rfl rfl rfl (Nat.le_of_ble_eq_true rfl) (fun r48 h48 q48 => ?_)
        obtain ⟨o3, a3, b3, rfl⟩ := q48
        show sk_S _ _ _ _ _ _ (.int _ :: _) _ _
        refine sk_S.iadd (dd DX8_partsBy 30 rfl) ?_
        refine sk_S.iret (dd DX8_partsBy 31 rfl) rfl rfl ?_
        have hk : ρ (17 + 3 * t) = 1 ∨ ρ (17 + 3 * t) = 4 := Or.inr (by rw [← hρ]; exact c17)
        unfold voRb voR
        rw [if_pos hk, if_neg hp, if_neg hp, if_pos hk]
        rw [bi_f hp] at t2 ⊢
        refine ⟨(tq.tr t2).tr ?_, ?_⟩
        · have h9 := trQ.of o3 a3 b3
          rw [t2.2.2.1] at h9
          exact h9
        · rw [if_neg hp]
      · refine sk_S.iconst (v := 0) (dd DX8_partsBy 23 rfl) (by decide) ?_
        refine sk_S.goto (tgt := 52) (dd DX8_partsBy 24 rfl) (by decide) ?_
        refine sk_S.iret (dd DX8_partsBy 31 rfl) rfl rfl ?_
        have hk : ρ (17 + 3 * t) = 1 ∨ ρ (17 + 3 * t) = 4 := Or.inr (by rw [← hρ]; exact c17)
        have hp : (ρ (17 + 3 * t + 1) - nI t) = 0 := by
          apply Decidable.byContradiction
          intro q
          apply c37
          rw [t2.2.2.1, bi_f q]
        unfold voRb voR
        rw [if_pos hk, if_pos hp, if_pos hp]
        refine ⟨?_, rfl⟩
        rw [bi_t hp] at t2 ⊢
        exact tq.tr t2
set_option maxRecDepth 100000 in
set_option maxHeartbeats 4000000 in
theorem cM_voice {l : Launch} {E : sk_V} {d : Nat} {h : sk_M} {b v x : Int32} (hb : boI (h 55)) : sk_K l E (d + 9) MX8_voice [.ref 54, .int b, .int v, .int x] h (fun r h1 => (¬ (inN b (boN (h 55)) ∧ inN v 4) ∧ erM h 1 h1 r) ∨ (∃ j, j < boN (h 55) ∧ b = nI j ∧ ∃ i, i < 4 ∧ v = nI i ∧ ∃ (g : sk_M) (p : Int32), trQ h g 0 (voB i (h 55 (17 + 3 * j)) (h 55 (17 + 3 * j + 1)) (nI j)) p ∧ ((i = 3 ∧ (h 55 (17 + 3 * j + 1) - nI j = 0) ∧ erM g 6 h1 r) ∨ (¬ (i = 3 ∧ (h 55 (17 + 3 * j + 1) - nI j = 0)) ∧ g = h1 ∧ some (.int (voV i (h 55 (17 + 3 * j)) (h 55 (17 + 3 * j + 1)) (nI j) x)) = r)))) := by
  refine sk_K.of (by decide +kernel) (Nat.le_of_ble_eq_true rfl) ?_
  show sk_S l E (d + 9) _ 0 [some (.ref 54), some (.int b), some (.int v), some (.int x), none] [] h _
  refine sk_S.aload_n (i := 0) (dd DX8_voice 0 rfl) rfl rfl ?_
  refine sk_S.iload_n (i := 1) (dd DX8_voice 1 rfl) rfl rfl ?_
  refine sk_S.callV (dd DX8_voice 2 rfl) rfl kX8_79 cM_isBoat se_54 (by decide) rfl rfl rfl rfl (Nat.le_of_ble_eq_true rfl) (fun r2 h2 q2 => ?_)
  obtain ⟨rfl, rfl⟩ := q2
  show sk_S _ _ _ _ _ _ (.int _ :: _) _ _
  refine sk_S.bif_eq (tgt := 17) (dd DX8_voice 3 rfl) (by decide) (fun c5 => ?_) (fun c5 => ?_)
  · refine sk_S.aload_n (i := 0) (dd DX8_voice 9 rfl) rfl rfl ?_
    refine sk_S.ldc (dd DX8_voice 10 rfl) rfl cnX8_73 ?_
    refine sk_S.callV (dd DX8_voice 11 rfl) rfl kX8_74 (cM_error (k := 1) ⟨by decide, by decide, by decide⟩) se_54 (by decide) rfl rfl rfl rfl (Nat.le_of_ble_eq_true rfl) (fun r20 h20 q20 => ?_)
    obtain ⟨rfl, rfl⟩ := q20
    show sk_S _ _ _ _ _ _ (.int _ :: _) _ _
    refine sk_S.iret (dd DX8_voice 12 rfl) rfl rfl ?_
    exact Or.inl ⟨fun q => c5 (by rw [hb.1]; exact (inN_pred (by have := hb.2; omega)).mpr q.1), rfl, rfl⟩
  · refine sk_S.iload_n (i := 2) (dd DX8_voice 4 rfl) rfl rfl ?_
    refine sk_S.iconst (v := 0) (dd DX8_voice 5 rfl) (by decide) ?_
    refine sk_S.iconst (v := 3) (dd DX8_voice 6 rfl) (by decide) ?_
    refine sk_S.callS (dd DX8_voice 7 rfl) rfl kX8_47 cM_in rfl rfl rfl (Nat.le_of_ble_eq_true rfl) (fun r11 h11 q11 => ?_)
    obtain ⟨rfl, rfl⟩ := q11
    show sk_S _ _ _ _ _ _ (.int _ :: _) _ _
    refine sk_S.bif_ne (tgt := 24) (dd DX8_voice 8 rfl) (by decide) (fun c14 => ?_) (fun c14 => ?_)
    · refine sk_S.aload_n (i := 0) (dd DX8_voice 13 rfl) rfl rfl ?_
      refine sk_S.iconst (v := 0) (dd DX8_voice 14 rfl) (by decide) ?_
      refine sk_S.putf (dd DX8_voice 15 rfl) rfl pX8_206 se_54 (by decide) rfl rfl rfl ?_
      refine sk_S.aload_n (i := 0) (dd DX8_voice 16 rfl) rfl rfl ?_
      refine sk_S.iconst (v := 0) (dd DX8_voice 17 rfl) (by decide) ?_
      refine sk_S.putf (dd DX8_voice 18 rfl) rfl pX8_233 se_54 (by decide) rfl rfl rfl ?_
      rw [hb.1] at c5
      obtain ⟨j, hj, rfl⟩ := (inN_pred (by have := hb.2; omega)).mp c5
      have hb6 := hb.2
      obtain ⟨i, hi, rfl⟩ := (inN_le (n := 4) (by decide)).mp c14
      have eG : (sk_u (sk_u h 54 18 0) 54 19 0) 55 = h 55 := rfl
      have nG : (sk_u (sk_u h 54 18 0) 54 19 0) 54 18 = nI 0 := rfl
      refine sk_S.iload_n (i := 2) (dd DX8_voice 19 rfl) rfl rfl ?_
      refine sk_S.if_ne (tgt := 47) (dd DX8_voice 20 rfl) (by decide) (fun c35 => ?_) (fun c35 => ?_)
      · refine sk_S.iload_n (i := 2) (dd DX8_voice 26 rfl) rfl rfl ?_
        refine sk_S.iconst (v := 1) (dd DX8_voice 27 rfl) (by decide) ?_
        refine sk_S.icmp_ne (tgt := 61) (dd DX8_voice 28 rfl) (by decide) (fun c49 => ?_) (fun c49 => ?_)
        · refine sk_S.iload_n (i := 2) (dd DX8_voice 34 rfl) rfl rfl ?_
          refine sk_S.iconst (v := 2) (dd DX8_voice 35 rfl) (by decide) ?_
          refine sk_S.icmp_ne (tgt := 75) (dd DX8_voice 36 rfl) (by decide) (fun c63 => ?_) (fun c63 => ?_)
          · refine sk_S.aload_n (i := 0) (dd DX8_voice 42 rfl) rfl rfl ?_
            refine sk_S.iload_n (i := 1) (dd DX8_voice 43 rfl) rfl rfl ?_
            refine sk_S.iload_n (i := 3) (dd DX8_voice 44 rfl) rfl rfl ?_
            refine sk_S.callV (dd DX8_voice 45 rfl) rfl kX8_242 (cM_partsBy (t := j) (by omega) eG nG (by omega)) se_54 (by decide) rfl rfl rfl rfl (Nat.le_of_ble_eq_true rfl) (fun r78 h78 q78 => ?_)
            obtain ⟨t2, rfl⟩ := q78
            show sk_S _ _ _ _ _ _ (.int _ :: _) _ _
            refine sk_S.istore (i := 4) (dd DX8_voice 46 rfl) (Nat.le_of_ble_eq_true rfl) rfl ?_
            refine sk_S.aload_n (i := 0) (dd DX8_voice 47 rfl) rfl rfl ?_
            refine sk_S.geti (dd DX8_voice 48 rfl) rfl fX8_233 se_54 (by decide) rfl ?_
            refine sk_S.if_eq (tgt := 99) (dd DX8_voice 49 rfl) (by decide) (fun c87 => ?_) (fun c87 => ?_)
            · refine sk_S.iload (i := 4) (dd DX8_voice 54 rfl) rfl ?_
              refine sk_S.iret (dd DX8_voice 55 rfl) rfl rfl ?_
              have hi : i = 3 := by
                have a0 : ¬ i = 0 := fun q => c35 (by rw [q]; rfl)
                have a1 : ¬ i = 1 := fun q => c49 (by rw [q]; rfl)
                have a2 : ¬ i = 2 := fun q => c63 (by rw [q]; rfl)
                omega
              subst hi
              have tq := trG t2
              exact Or.inr ⟨j, hj, rfl, 3, by decide, rfl, _, _, tq, Or.inr ⟨fun q => absurd c87 (by rw [t2.2.2.1, show bi ((h 55 (17 + 3 * j + 1) - nI j = 0)) = 1 from bi_t q.2]; decide), rfl, rfl⟩⟩
            · refine sk_S.aload_n (i := 0) (dd DX8_voice 50 rfl) rfl rfl ?_
              refine sk_S.ldc (dd DX8_voice 51 rfl) rfl cnX8_245 ?_
              refine sk_S.callV (dd DX8_voice 52 rfl) rfl kX8_74 (cM_error (k := 6) ⟨by decide, by decide, by decide⟩) se_54 (by decide) rfl rfl rfl rfl (Nat.le_of_ble_eq_true rfl) (fun r93 h93 q93 => ?_)
              obtain ⟨rfl, rfl⟩ := q93
              show sk_S _ _ _ _ _ _ (.int _ :: _) _ _
              refine sk_S.goto (tgt := 101) (dd DX8_voice 53 rfl) (by decide) ?_
              refine sk_S.iret (dd DX8_voice 55 rfl) rfl rfl ?_
              have hi : i = 3 := by
                have a0 : ¬ i = 0 := fun q => c35 (by rw [q]; rfl)
                have a1 : ¬ i = 1 := fun q => c49 (by rw [q]; rfl)
                have a2 : ¬ i = 2 := fun q => c63 (by rw [q]; rfl)
                omega
              subst hi
              have tq := trG t2
              have hp : (h 55 (17 + 3 * j + 1) - nI j = 0) := by
                apply Decidable.byContradiction
                intro q
                apply c87
                rw [t2.2.2.1]
                exact bi_f q
              exact Or.inr ⟨j, hj, rfl, 3, by decide, rfl, _, _, tq, Or.inl ⟨rfl, hp, rfl, rfl⟩⟩
          · refine sk_S.aload_n (i := 0) (dd DX8_voice 37 rfl) rfl rfl ?_
            refine sk_S.iload_n (i := 1) (dd DX8_voice 38 rfl) rfl rfl ?_
            refine sk_S.iload_n (i := 3) (dd DX8_voice 39 rfl) rfl rfl ?_
            refine sk_S.callV (dd DX8_voice 40 rfl) rfl kX8_239 (cM_letsBy (t := j) (by omega) eG nG (by omega)) se_54 (by decide) rfl rfl rfl rfl (Nat.le_of_ble_eq_true rfl) (fun r69 h69 q69 => ?_)
            obtain ⟨o2, a2, b2, rfl⟩ := q69
            show sk_S _ _ _ _ _ _ (.int _ :: _) _ _
            refine sk_S.goto (tgt := 81) (dd DX8_voice 41 rfl) (by decide) ?_
            refine sk_S.istore (i := 4) (dd DX8_voice 46 rfl) (Nat.le_of_ble_eq_true rfl) rfl ?_
            refine sk_S.aload_n (i := 0) (dd DX8_voice 47 rfl) rfl rfl ?_
            refine sk_S.geti (dd DX8_voice 48 rfl) rfl fX8_233 se_54 (by decide) rfl ?_
            refine sk_S.if_eq (tgt := 99) (dd DX8_voice 49 rfl) (by decide) (fun c87 => ?_) (fun c87 => absurd (by rw [a2]; rfl) c87)
            refine sk_S.iload (i := 4) (dd DX8_voice 54 rfl) rfl ?_
            refine sk_S.iret (dd DX8_voice 55 rfl) rfl rfl ?_
            have hi : i = 2 := nI_inj (by omega) (by decide) c63
            subst hi
            have tq0 := trQ.of (h := (sk_u (sk_u h 54 18 0) 54 19 0)) (n := 0) o2 a2 b2
            have tq := trG tq0
            exact Or.inr ⟨j, hj, rfl, 2, by decide, rfl, _, _, tq, Or.inr ⟨fun q => absurd q.1 (by decide), rfl, rfl⟩⟩
        · refine sk_S.aload_n (i := 0) (dd DX8_voice 29 rfl) rfl rfl ?_
          refine sk_S.iload_n (i := 1) (dd DX8_voice 30 rfl) rfl rfl ?_
          refine sk_S.iload_n (i := 3) (dd DX8_voice 31 rfl) rfl rfl ?_
          refine sk_S.callV (dd DX8_voice 32 rfl) rfl kX8_227 (cM_hauls (t := j) (by omega) eG nG (by omega)) se_54 (by decide) rfl rfl rfl rfl (Nat.le_of_ble_eq_true rfl) (fun r55 h55 q55 => ?_)
          obtain ⟨o2, a2, b2, rfl⟩ := q55
          show sk_S _ _ _ _ _ _ (.int _ :: _) _ _
          refine sk_S.goto (tgt := 81) (dd DX8_voice 33 rfl) (by decide) ?_
          refine sk_S.istore (i := 4) (dd DX8_voice 46 rfl) (Nat.le_of_ble_eq_true rfl) rfl ?_
          refine sk_S.aload_n (i := 0) (dd DX8_voice 47 rfl) rfl rfl ?_
          refine sk_S.geti (dd DX8_voice 48 rfl) rfl fX8_233 se_54 (by decide) rfl ?_
          refine sk_S.if_eq (tgt := 99) (dd DX8_voice 49 rfl) (by decide) (fun c87 => ?_) (fun c87 => absurd (by rw [a2]; rfl) c87)
          refine sk_S.iload (i := 4) (dd DX8_voice 54 rfl) rfl ?_
          refine sk_S.iret (dd DX8_voice 55 rfl) rfl rfl ?_
          have hi : i = 1 := nI_inj (by omega) (by decide) c49
          subst hi
          have tq0 := trQ.of (h := (sk_u (sk_u h 54 18 0) 54 19 0)) (n := 0) o2 a2 b2
          have tq := trG tq0
          exact Or.inr ⟨j, hj, rfl, 1, by decide, rfl, _, _, tq, Or.inr ⟨fun q => absurd q.1 (by decide), rfl, rfl⟩⟩
      · refine sk_S.aload_n (i := 0) (dd DX8_voice 21 rfl) rfl rfl ?_
        refine sk_S.iload_n (i := 1) (dd DX8_voice 22 rfl) rfl rfl ?_
        refine sk_S.iload_n (i := 3) (dd DX8_voice 23 rfl) rfl rfl ?_
        refine sk_S.callV (dd DX8_voice 24 rfl) rfl kX8_218 (cM_calls (t := j) (by omega) eG nG (by omega)) se_54 (by decide) rfl rfl rfl rfl (Nat.le_of_ble_eq_true rfl) (fun r41 h41 q41 => ?_)
        obtain ⟨o2, a2, b2, rfl⟩ := q41
        show sk_S _ _ _ _ _ _ (.int _ :: _) _ _
        refine sk_S.goto (tgt := 81) (dd DX8_voice 25 rfl) (by decide) ?_
        refine sk_S.istore (i := 4) (dd DX8_voice 46 rfl) (Nat.le_of_ble_eq_true rfl) rfl ?_
        refine sk_S.aload_n (i := 0) (dd DX8_voice 47 rfl) rfl rfl ?_
        refine sk_S.geti (dd DX8_voice 48 rfl) rfl fX8_233 se_54 (by decide) rfl ?_
        refine sk_S.if_eq (tgt := 99) (dd DX8_voice 49 rfl) (by decide) (fun c87 => ?_) (fun c87 => absurd (by rw [a2]; rfl) c87)
        refine sk_S.iload (i := 4) (dd DX8_voice 54 rfl) rfl ?_
        refine sk_S.iret (dd DX8_voice 55 rfl) rfl rfl ?_
        have hi : i = 0 := nI_inj (by omega) (by decide) c35
        subst hi
        have tq0 := trQ.of (h := (sk_u (sk_u h 54 18 0) 54 19 0)) (n := 0) o2 a2 b2
        have tq := trG tq0
        exact Or.inr ⟨j, hj, rfl, 0, by decide, rfl, _, _, tq, Or.inr ⟨fun q => absurd q.1 (by decide), rfl, rfl⟩⟩
    · refine sk_S.aload_n (i := 0) (dd DX8_voice 9 rfl) rfl rfl ?_
      refine sk_S.ldc (dd DX8_voice 10 rfl) rfl cnX8_73 ?_
      refine sk_S.callV (dd DX8_voice 11 rfl) rfl kX8_74 (cM_error (k := 1) ⟨by decide, by decide, by decide⟩) se_54 (by decide) rfl rfl rfl rfl (Nat.le_of_ble_eq_true rfl) (fun r20 h20 q20 => ?_)
      obtain ⟨rfl, rfl⟩ := q20
      show sk_S _ _ _ _ _ _ (.int _ :: _) _ _
      refine sk_S.iret (dd DX8_voice 12 rfl) rfl rfl ?_
      exact Or.inl ⟨fun q => c14 ((inN_le (by decide)).mpr q.2), rfl, rfl⟩
set_option maxRecDepth 100000 in
set_option maxHeartbeats 4000000 in
theorem lp_feed {l : Launch} {E : sk_V} {d : Nat} {h : sk_M} {ρ : Nat → Int32} {w : Int64} {n tp : Nat} (htp : ρ 7 = nI tp) (hn : n ≤ 8) (h60 : tp + n ≤ 60) : ∀ (m k : Nat) (g : sk_M), k + m = n → sk_o [55] h g → g 55 = fdR ρ w tp k → sk_S l E (d + 1) MX8_feed 41 [some (.ref 54), some (.long w), none, some (.int (nI n)), some (.int (nI k))] [] g (fun r h1 => sk_o [55] h h1 ∧ h1 55 = fdR ρ w tp n ∧ some (.int (nI (tp + n))) = r)
  | 0, k, g, hk, ho, hg => by
    have hkn : k = n := by omega
    subst hkn
    refine sk_S.iload (i := 4) (dd DX8_feed 23 rfl) rfl ?_
    refine sk_S.iload_n (i := 3) (dd DX8_feed 24 rfl) rfl rfl ?_
    refine sk_S.icmp_ge (tgt := 91) (dd DX8_feed 25 rfl) (by decide) (fun c44 => ?_) (fun c44 => absurd (Int32.le_refl _) c44)
    refine sk_S.aload_n (i := 0) (dd DX8_feed 53 rfl) rfl rfl ?_
    refine sk_S.getr (dd DX8_feed 54 rfl) rfl fX8_9 se_54 (by decide) rfl ?_
    refine sk_S.bipush (v := 7) (dd DX8_feed 55 rfl) (by decide) ?_
    refine sk_S.iald (dd DX8_feed 56 rfl) se_55 (j := 7) ⟨by decide, by decide, by decide⟩ ?_
    refine sk_S.iret (dd DX8_feed 57 rfl) rfl rfl ?_
    exact ⟨ho, hg, by rw [hg, fdR_7 htp]⟩
  | m + 1, k, g, hk, ho, hg => by
    have e7 : g 55 7 = nI (tp + k) := by rw [hg, fdR_7 htp]
    refine sk_S.iload (i := 4) (dd DX8_feed 23 rfl) rfl ?_
    refine sk_S.iload_n (i := 3) (dd DX8_feed 24 rfl) rfl rfl ?_
    refine sk_S.icmp_ge (tgt := 91) (dd DX8_feed 25 rfl) (by decide) (fun c44 => absurd c44 (nI_ge (by omega) (by omega))) (fun c44 => ?_)
    refine sk_S.aload_n (i := 0) (dd DX8_feed 26 rfl) rfl rfl ?_
    refine sk_S.getr (dd DX8_feed 27 rfl) rfl fX8_9 se_54 (by decide) rfl ?_
    refine sk_S.bipush (v := 35) (dd DX8_feed 28 rfl) (by decide) ?_
    refine sk_S.aload_n (i := 0) (dd DX8_feed 29 rfl) rfl rfl ?_
    refine sk_S.getr (dd DX8_feed 30 rfl) rfl fX8_9 se_54 (by decide) rfl ?_
    refine sk_S.bipush (v := 7) (dd DX8_feed 31 rfl) (by decide) ?_
    refine sk_S.iald (dd DX8_feed 32 rfl) se_55 (j := 7) ⟨by decide, by decide, by decide⟩ ?_
    refine sk_S.iadd (dd DX8_feed 33 rfl) ?_
    refine sk_S.lload_n (i := 1) (dd DX8_feed 34 rfl) rfl rfl ?_
    refine sk_S.bipush (v := 8) (dd DX8_feed 35 rfl) (by decide) ?_
    refine sk_S.iload (i := 4) (dd DX8_feed 36 rfl) rfl ?_
    refine sk_S.imul (dd DX8_feed 37 rfl) ?_
    refine sk_S.lshr (dd DX8_feed 38 rfl) ?_
    refine sk_S.ldc2 (dd DX8_feed 39 rfl) rfl cnX8_104 ?_
    refine sk_S.land (dd DX8_feed 40 rfl) ?_
    refine sk_S.l2i (dd DX8_feed 41 rfl) ?_
    refine sk_S.iast (dd DX8_feed 42 rfl) se_55 (sk_ix_e (k := 35 + (tp + k)) (by rw [e7]; exact ix_add 35 _) (by omega) (by decide)) ?_
    refine sk_S.aload_n (i := 0) (dd DX8_feed 43 rfl) rfl rfl ?_
    refine sk_S.getr (dd DX8_feed 44 rfl) rfl fX8_9 se_54 (by decide) rfl ?_
    refine sk_S.bipush (v := 7) (dd DX8_feed 45 rfl) (by decide) ?_
    refine sk_S.dup2 (dd DX8_feed 46 rfl) rfl rfl ?_
    refine sk_S.iald (dd DX8_feed 47 rfl) se_55 (j := 7) ⟨by decide, by decide, by decide⟩ ?_
    refine sk_S.iconst (v := 1) (dd DX8_feed 48 rfl) (by decide) ?_
    refine sk_S.iadd (dd DX8_feed 49 rfl) ?_
    refine sk_S.iast (dd DX8_feed 50 rfl) se_55 (j := 7) ⟨by decide, by decide, by decide⟩ ?_
    refine sk_S.iinc (i := 4) (v := _ + 1) (dd DX8_feed 51 rfl) rfl rfl rfl ?_
    refine sk_S.goto (tgt := 41) (dd DX8_feed 52 rfl) (by decide) ?_
    refine sk_S.L (lp_feed htp hn h60 m (k + 1) _ (by omega) ((ho.u (by decide)).u (by decide)) ?_) (by rw [nI_succ]; rfl)
    rw [sk_u, sk_r_eq, sk_u, sk_r_eq, upd_ne (by omega), e7, ← nI_succ, hg]
    rfl
set_option maxRecDepth 100000 in
set_option maxHeartbeats 4000000 in
theorem cM_feed {l : Launch} {E : sk_V} {d : Nat} {h : sk_M} {w : Int64} {x : Int32} {tp : Nat} (htp : h 55 7 = nI tp) (ht60 : tp ≤ 60) : sk_K l E (d + 1) MX8_feed [.ref 54, .long w, .int x] h (fun r h1 => (¬ (1 ≤ x ∧ x ≤ 8) ∧ erM h 1 h1 r) ∨ (∃ n, 1 ≤ n ∧ n ≤ 8 ∧ x = nI n ∧ ((60 < tp + n ∧ erM h 4 h1 r) ∨ (tp + n ≤ 60 ∧ sk_o [55] h h1 ∧ h1 55 = fdR (h 55) w tp n ∧ some (.int (nI (tp + n))) = r)))) := by
  refine sk_K.of (by decide +kernel) (Nat.le_of_ble_eq_true rfl) ?_
  show sk_S l E (d + 1) _ 0 [some (.ref 54), some (.long w), none, some (.int x), none] [] h _
  refine sk_S.iload_n (i := 3) (dd DX8_feed 0 rfl) rfl rfl ?_
  refine sk_S.iconst (v := 1) (dd DX8_feed 1 rfl) (by decide) ?_
  refine sk_S.bipush (v := 8) (dd DX8_feed 2 rfl) (by decide) ?_
  refine sk_S.callS (dd DX8_feed 3 rfl) rfl kX8_47 cM_in rfl rfl rfl (Nat.le_of_ble_eq_true rfl) (fun r4 h4 q4 => ?_)
  obtain ⟨rfl, rfl⟩ := q4
  show sk_S _ _ _ _ _ _ (.int _ :: _) _ _
  refine sk_S.bif_ne (tgt := 17) (dd DX8_feed 4 rfl) (by decide) (fun c7 => ?_) (fun c7 => ?_)
  · obtain ⟨n, hn1, hn, rfl⟩ := rg18 c7
    refine sk_S.aload_n (i := 0) (dd DX8_feed 9 rfl) rfl rfl ?_
    refine sk_S.getr (dd DX8_feed 10 rfl) rfl fX8_9 se_54 (by decide) rfl ?_
    refine sk_S.bipush (v := 7) (dd DX8_feed 11 rfl) (by decide) ?_
    refine sk_S.iald (dd DX8_feed 12 rfl) se_55 (j := 7) ⟨by decide, by decide, by decide⟩ ?_
    refine sk_S.iload_n (i := 3) (dd DX8_feed 13 rfl) rfl rfl ?_
    refine sk_S.iadd (dd DX8_feed 14 rfl) ?_
    refine sk_S.bipush (v := 60) (dd DX8_feed 15 rfl) (by decide) ?_
    refine sk_S.icmp_le (tgt := 38) (dd DX8_feed 16 rfl) (by decide) (fun c28 => ?_) (fun c28 => ?_)
    · refine sk_S.iconst (v := 0) (dd DX8_feed 21 rfl) (by decide) ?_
      refine sk_S.istore (i := 4) (dd DX8_feed 22 rfl) (Nat.le_of_ble_eq_true rfl) rfl ?_
      have h60 : tp + n ≤ 60 := by
        rw [htp, nI_add] at c28
        have h2 : nI (tp + n) ≤ nI 60 := c28
        rw [nI_leI (by omega) (by decide)] at h2
        exact h2
      refine sk_S.mono (lp_feed htp hn h60 n 0 h (Nat.zero_add _) sk_o.rf rfl) ?_
      rintro r h1 ⟨q1, q2, q3⟩
      exact Or.inr ⟨n, hn1, hn, rfl, Or.inr ⟨h60, q1, q2, q3⟩⟩
    · refine sk_S.aload_n (i := 0) (dd DX8_feed 17 rfl) rfl rfl ?_
      refine sk_S.ldc (dd DX8_feed 18 rfl) rfl cnX8_78 ?_
      refine sk_S.callV (dd DX8_feed 19 rfl) rfl kX8_74 (cM_error (k := 4) ⟨by decide, by decide, by decide⟩) se_54 (by decide) rfl rfl rfl rfl (Nat.le_of_ble_eq_true rfl) (fun r34 h34 q34 => ?_)
      obtain ⟨rfl, rfl⟩ := q34
      show sk_S _ _ _ _ _ _ (.int _ :: _) _ _
      refine sk_S.iret (dd DX8_feed 20 rfl) rfl rfl ?_
      refine Or.inr ⟨n, hn1, hn, rfl, Or.inl ⟨?_, rfl, rfl⟩⟩
      apply Nat.lt_of_not_le
      intro q
      apply c28
      rw [htp, nI_add]
      exact nI_le (b := 60) q (by decide)
  · refine sk_S.aload_n (i := 0) (dd DX8_feed 5 rfl) rfl rfl ?_
    refine sk_S.ldc (dd DX8_feed 6 rfl) rfl cnX8_73 ?_
    refine sk_S.callV (dd DX8_feed 7 rfl) rfl kX8_74 (cM_error (k := 1) ⟨by decide, by decide, by decide⟩) se_54 (by decide) rfl rfl rfl rfl (Nat.le_of_ble_eq_true rfl) (fun r13 h13 q13 => ?_)
    obtain ⟨rfl, rfl⟩ := q13
    show sk_S _ _ _ _ _ _ (.int _ :: _) _ _
    refine sk_S.iret (dd DX8_feed 8 rfl) rfl rfl ?_
    exact Or.inl ⟨c7, rfl, rfl⟩
end M15
