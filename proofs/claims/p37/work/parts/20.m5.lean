section M5
set_option maxRecDepth 100000 in
set_option maxHeartbeats 4000000 in
theorem cM_rises {l : Launch} {E : sk_V} {d : Nat} {h : sk_M} {v : Int32}  : sk_K l E (d + 1) MX8_rises [.ref 54, .int v] h (fun r h1 => (inN v 10 ∧ sk_u h 55 3 v = h1 ∧ some (.int (h 55 3)) = r) ∨ (¬ inN v 10 ∧ erM h 1 h1 r)) := by
  refine sk_K.of (by decide +kernel) (Nat.le_of_ble_eq_true rfl) ?_
  show sk_S l E (d + 1) _ 0 [some (.ref 54), some (.int v)] [] h _
  refine sk_S.iload_n (i := 1) (dd DX8_rises 0 rfl) rfl rfl ?_
  refine sk_S.iconst (v := 0) (dd DX8_rises 1 rfl) (by decide) ?_
  refine sk_S.bipush (v := 9) (dd DX8_rises 2 rfl) (by decide) ?_
  refine sk_S.callS (dd DX8_rises 3 rfl) rfl kX8_47 cM_in rfl rfl rfl (Nat.le_of_ble_eq_true rfl) (fun r4 h4 q4 => ?_)
  obtain ⟨rfl, rfl⟩ := q4
  show sk_S _ _ _ _ _ _ (.int _ :: _) _ _
  refine sk_S.bif_eq (tgt := 19) (dd DX8_rises 4 rfl) (by decide) (fun c7 => ?_) (fun c7 => ?_)
  · refine sk_S.aload_n (i := 0) (dd DX8_rises 10 rfl) rfl rfl ?_
    refine sk_S.ldc (dd DX8_rises 11 rfl) rfl cnX8_73 ?_
    refine sk_S.callV (dd DX8_rises 12 rfl) rfl kX8_74 (cM_error (k := 1) ⟨by decide, by decide, by decide⟩) se_54 (by decide) rfl rfl rfl rfl (Nat.le_of_ble_eq_true rfl) (fun r22 h22 q22 => ?_)
    obtain ⟨rfl, rfl⟩ := q22
    show sk_S _ _ _ _ _ _ (.int _ :: _) _ _
    refine sk_S.iret (dd DX8_rises 13 rfl) rfl rfl ?_
    exact Or.inr ⟨fun q => c7 ((inN_le (by decide)).mpr q), rfl, rfl⟩
  · refine sk_S.aload_n (i := 0) (dd DX8_rises 5 rfl) rfl rfl ?_
    refine sk_S.iconst (v := 3) (dd DX8_rises 6 rfl) (by decide) ?_
    refine sk_S.iload_n (i := 1) (dd DX8_rises 7 rfl) rfl rfl ?_
    refine sk_S.callV (dd DX8_rises 8 rfl) rfl kX8_85 (cM_becomes (j := 3) ⟨by decide, by decide, by decide⟩) se_54 (by decide) rfl rfl rfl rfl (Nat.le_of_ble_eq_true rfl) (fun r13 h13 q13 => ?_)
    obtain ⟨rfl, rfl⟩ := q13
    show sk_S _ _ _ _ _ _ (.int _ :: _) _ _
    refine sk_S.goto (tgt := 25) (dd DX8_rises 9 rfl) (by decide) ?_
    refine sk_S.iret (dd DX8_rises 13 rfl) rfl rfl ?_
    exact Or.inl ⟨(inN_le (by decide)).mp c7, rfl, rfl⟩
set_option maxRecDepth 100000 in
set_option maxHeartbeats 4000000 in
theorem cM_seed {l : Launch} {E : sk_V} {d : Nat} {h : sk_M} {v : Int32}  : sk_K l E (d + 1) MX8_seed [.ref 54, .int v] h (fun r h1 => sk_u h 55 1 v = h1 ∧ some (.int (h 55 1)) = r) := by
  refine sk_K.of (by decide +kernel) (Nat.le_of_ble_eq_true rfl) ?_
  show sk_S l E (d + 1) _ 0 [some (.ref 54), some (.int v)] [] h _
  refine sk_S.aload_n (i := 0) (dd DX8_seed 0 rfl) rfl rfl ?_
  refine sk_S.iconst (v := 1) (dd DX8_seed 1 rfl) (by decide) ?_
  refine sk_S.iload_n (i := 1) (dd DX8_seed 2 rfl) rfl rfl ?_
  refine sk_S.callV (dd DX8_seed 3 rfl) rfl kX8_85 (cM_becomes (j := 1) ⟨by decide, by decide, by decide⟩) se_54 (by decide) rfl rfl rfl rfl (Nat.le_of_ble_eq_true rfl) (fun r3 h3 q3 => ?_)
  obtain ⟨rfl, rfl⟩ := q3
  show sk_S _ _ _ _ _ _ (.int _ :: _) _ _
  refine sk_S.iret (dd DX8_seed 4 rfl) rfl rfl ?_
  exact ⟨rfl, rfl⟩
set_option maxRecDepth 100000 in
set_option maxHeartbeats 4000000 in
theorem cM_price {l : Launch} {E : sk_V} {d : Nat} {h : sk_M} {f v : Int32}  : sk_K l E (d + 2) MX8_price [.ref 54, .int f, .int v] h (fun r h1 => (∃ j, j < 4 ∧ f = nI j ∧ inN v 10 ∧ sk_u h 55 (13 + j) v = h1 ∧ some (.int (h 55 (13 + j))) = r) ∨ (¬ (inN f 4 ∧ inN v 10) ∧ erM h 1 h1 r)) := by
  refine sk_K.of (by decide +kernel) (Nat.le_of_ble_eq_true rfl) ?_
  show sk_S l E (d + 2) _ 0 [some (.ref 54), some (.int f), some (.int v)] [] h _
  refine sk_S.iload_n (i := 1) (dd DX8_price 0 rfl) rfl rfl ?_
  refine sk_S.callS (dd DX8_price 1 rfl) rfl kX8_89 cM_isFish rfl rfl rfl (Nat.le_of_ble_eq_true rfl) (fun r1 h1 q1 => ?_)
  obtain ⟨rfl, rfl⟩ := q1
  show sk_S _ _ _ _ _ _ (.int _ :: _) _ _
  refine sk_S.bif_eq (tgt := 29) (dd DX8_price 2 rfl) (by decide) (fun c4 => ?_) (fun c4 => ?_)
  · refine sk_S.aload_n (i := 0) (dd DX8_price 15 rfl) rfl rfl ?_
    refine sk_S.ldc (dd DX8_price 16 rfl) rfl cnX8_73 ?_
    refine sk_S.callV (dd DX8_price 17 rfl) rfl kX8_74 (cM_error (k := 1) ⟨by decide, by decide, by decide⟩) se_54 (by decide) rfl rfl rfl rfl (Nat.le_of_ble_eq_true rfl) (fun r32 h32 q32 => ?_)
    obtain ⟨rfl, rfl⟩ := q32
    show sk_S _ _ _ _ _ _ (.int _ :: _) _ _
    refine sk_S.iret (dd DX8_price 18 rfl) rfl rfl ?_
    exact Or.inr ⟨fun q => c4 ((inN_le (by decide)).mpr q.1), rfl, rfl⟩
  · refine sk_S.iload_n (i := 2) (dd DX8_price 3 rfl) rfl rfl ?_
    refine sk_S.iconst (v := 0) (dd DX8_price 4 rfl) (by decide) ?_
    refine sk_S.bipush (v := 9) (dd DX8_price 5 rfl) (by decide) ?_
    refine sk_S.callS (dd DX8_price 6 rfl) rfl kX8_47 cM_in rfl rfl rfl (Nat.le_of_ble_eq_true rfl) (fun r11 h11 q11 => ?_)
    obtain ⟨rfl, rfl⟩ := q11
    show sk_S _ _ _ _ _ _ (.int _ :: _) _ _
    refine sk_S.bif_eq (tgt := 29) (dd DX8_price 7 rfl) (by decide) (fun c14 => ?_) (fun c14 => ?_)
    · refine sk_S.aload_n (i := 0) (dd DX8_price 15 rfl) rfl rfl ?_
      refine sk_S.ldc (dd DX8_price 16 rfl) rfl cnX8_73 ?_
      refine sk_S.callV (dd DX8_price 17 rfl) rfl kX8_74 (cM_error (k := 1) ⟨by decide, by decide, by decide⟩) se_54 (by decide) rfl rfl rfl rfl (Nat.le_of_ble_eq_true rfl) (fun r32 h32 q32 => ?_)
      obtain ⟨rfl, rfl⟩ := q32
      show sk_S _ _ _ _ _ _ (.int _ :: _) _ _
      refine sk_S.iret (dd DX8_price 18 rfl) rfl rfl ?_
      exact Or.inr ⟨fun q => c14 ((inN_le (by decide)).mpr q.2), rfl, rfl⟩
    · obtain ⟨j, hj, rfl⟩ := (inN_le (n := 4) (by decide)).mp c4
      refine sk_S.aload_n (i := 0) (dd DX8_price 8 rfl) rfl rfl ?_
      refine sk_S.bipush (v := 13) (dd DX8_price 9 rfl) (by decide) ?_
      refine sk_S.iload_n (i := 1) (dd DX8_price 10 rfl) rfl rfl ?_
      refine sk_S.iadd (dd DX8_price 11 rfl) ?_
      refine sk_S.iload_n (i := 2) (dd DX8_price 12 rfl) rfl rfl ?_
      refine sk_S.callV (dd DX8_price 13 rfl) rfl kX8_85 (cM_becomes (j := 13 + j) (sk_ix_e (ix_add 13 j) (by omega) (by decide))) se_54 (by decide) rfl rfl rfl rfl (Nat.le_of_ble_eq_true rfl) (fun r23 h23 q23 => ?_)
      obtain ⟨rfl, rfl⟩ := q23
      show sk_S _ _ _ _ _ _ (.int _ :: _) _ _
      refine sk_S.goto (tgt := 35) (dd DX8_price 14 rfl) (by decide) ?_
      refine sk_S.iret (dd DX8_price 18 rfl) rfl rfl ?_
      exact Or.inl ⟨j, hj, rfl, (inN_le (by decide)).mp c14, rfl, rfl⟩
set_option maxRecDepth 100000 in
set_option maxHeartbeats 4000000 in
theorem cM_lose {l : Launch} {E : sk_V} {d : Nat} {h : sk_M} {b v : Int32} (hb : boI (h 55)) : sk_K l E (d + 2) MX8_lose [.ref 54, .int b, .int v] h (fun r h1 => (∃ j, j < boN (h 55) ∧ b = nI j ∧ inN v 2 ∧ sk_u h 55 (17 + 3 * j + 2) v = h1 ∧ some (.int (h 55 (17 + 3 * j + 2))) = r) ∨ (¬ (inN b (boN (h 55)) ∧ inN v 2) ∧ erM h 1 h1 r)) := by
  refine sk_K.of (by decide +kernel) (Nat.le_of_ble_eq_true rfl) ?_
  show sk_S l E (d + 2) _ 0 [some (.ref 54), some (.int b), some (.int v)] [] h _
  refine sk_S.aload_n (i := 0) (dd DX8_lose 0 rfl) rfl rfl ?_
  refine sk_S.iload_n (i := 1) (dd DX8_lose 1 rfl) rfl rfl ?_
  refine sk_S.callV (dd DX8_lose 2 rfl) rfl kX8_79 cM_isBoat se_54 (by decide) rfl rfl rfl rfl (Nat.le_of_ble_eq_true rfl) (fun r2 h2 q2 => ?_)
  obtain ⟨rfl, rfl⟩ := q2
  show sk_S _ _ _ _ _ _ (.int _ :: _) _ _
  refine sk_S.bif_eq (tgt := 33) (dd DX8_lose 3 rfl) (by decide) (fun c5 => ?_) (fun c5 => ?_)
  · refine sk_S.aload_n (i := 0) (dd DX8_lose 20 rfl) rfl rfl ?_
    refine sk_S.ldc (dd DX8_lose 21 rfl) rfl cnX8_73 ?_
    refine sk_S.callV (dd DX8_lose 22 rfl) rfl kX8_74 (cM_error (k := 1) ⟨by decide, by decide, by decide⟩) se_54 (by decide) rfl rfl rfl rfl (Nat.le_of_ble_eq_true rfl) (fun r36 h36 q36 => ?_)
    obtain ⟨rfl, rfl⟩ := q36
    show sk_S _ _ _ _ _ _ (.int _ :: _) _ _
    refine sk_S.iret (dd DX8_lose 23 rfl) rfl rfl ?_
    exact Or.inr ⟨fun q => c5 (by rw [hb.1]; exact (inN_pred (by have := hb.2; omega)).mpr q.1), rfl, rfl⟩
  · refine sk_S.iload_n (i := 2) (dd DX8_lose 4 rfl) rfl rfl ?_
    refine sk_S.iconst (v := 0) (dd DX8_lose 5 rfl) (by decide) ?_
    refine sk_S.iconst (v := 1) (dd DX8_lose 6 rfl) (by decide) ?_
    refine sk_S.callS (dd DX8_lose 7 rfl) rfl kX8_47 cM_in rfl rfl rfl (Nat.le_of_ble_eq_true rfl) (fun r11 h11 q11 => ?_)
    obtain ⟨rfl, rfl⟩ := q11
    show sk_S _ _ _ _ _ _ (.int _ :: _) _ _
    refine sk_S.bif_eq (tgt := 33) (dd DX8_lose 8 rfl) (by decide) (fun c14 => ?_) (fun c14 => ?_)
    · refine sk_S.aload_n (i := 0) (dd DX8_lose 20 rfl) rfl rfl ?_
      refine sk_S.ldc (dd DX8_lose 21 rfl) rfl cnX8_73 ?_
      refine sk_S.callV (dd DX8_lose 22 rfl) rfl kX8_74 (cM_error (k := 1) ⟨by decide, by decide, by decide⟩) se_54 (by decide) rfl rfl rfl rfl (Nat.le_of_ble_eq_true rfl) (fun r36 h36 q36 => ?_)
      obtain ⟨rfl, rfl⟩ := q36
      show sk_S _ _ _ _ _ _ (.int _ :: _) _ _
      refine sk_S.iret (dd DX8_lose 23 rfl) rfl rfl ?_
      exact Or.inr ⟨fun q => c14 ((inN_le (by decide)).mpr q.2), rfl, rfl⟩
    · rw [hb.1] at c5
      obtain ⟨j, hj, rfl⟩ := (inN_pred (by have := hb.2; omega)).mp c5
      have hb6 := hb.2
      refine sk_S.aload_n (i := 0) (dd DX8_lose 9 rfl) rfl rfl ?_
      refine sk_S.bipush (v := 17) (dd DX8_lose 10 rfl) (by decide) ?_
      refine sk_S.iconst (v := 3) (dd DX8_lose 11 rfl) (by decide) ?_
      refine sk_S.iload_n (i := 1) (dd DX8_lose 12 rfl) rfl rfl ?_
      refine sk_S.imul (dd DX8_lose 13 rfl) ?_
      refine sk_S.iadd (dd DX8_lose 14 rfl) ?_
      refine sk_S.iconst (v := 2) (dd DX8_lose 15 rfl) (by decide) ?_
      refine sk_S.iadd (dd DX8_lose 16 rfl) ?_
      refine sk_S.iload_n (i := 2) (dd DX8_lose 17 rfl) rfl rfl ?_
      refine sk_S.callV (dd DX8_lose 18 rfl) rfl kX8_85 (cM_becomes (j := 17 + 3 * j + 2) (sk_ix_e (k := 17 + 3 * j + 2) (by show nI 17 + nI 3 * nI j + nI 2 = _; rw [nI_mul, nI_add, nI_add]) (by omega) (by decide))) se_54 (by decide) rfl rfl rfl rfl (Nat.le_of_ble_eq_true rfl) (fun r27 h27 q27 => ?_)
      obtain ⟨rfl, rfl⟩ := q27
      show sk_S _ _ _ _ _ _ (.int _ :: _) _ _
      refine sk_S.goto (tgt := 39) (dd DX8_lose 19 rfl) (by decide) ?_
      refine sk_S.iret (dd DX8_lose 23 rfl) rfl rfl ?_
      exact Or.inl ⟨j, hj, rfl, (inN_le (by decide)).mp c14, rfl, rfl⟩
set_option maxRecDepth 100000 in
set_option maxHeartbeats 4000000 in
theorem cM_become {l : Launch} {E : sk_V} {d : Nat} {h : sk_M} {b v : Int32} (hb : boI (h 55)) : sk_K l E (d + 2) MX8_become [.ref 54, .int b, .int v] h (fun r h1 => (∃ j, j < boN (h 55) ∧ b = nI j ∧ inN v 70 ∧ sk_u (sk_u h 55 (17 + 3 * j + 1) (v - v / 10 * 10)) 55 (17 + 3 * j) (v / 10) = h1 ∧ some (.int (h 55 (17 + 3 * j))) = r) ∨ (¬ (inN b (boN (h 55)) ∧ inN v 70) ∧ erM h 1 h1 r)) := by
  refine sk_K.of (by decide +kernel) (Nat.le_of_ble_eq_true rfl) ?_
  show sk_S l E (d + 2) _ 0 [some (.ref 54), some (.int b), some (.int v)] [] h _
  refine sk_S.aload_n (i := 0) (dd DX8_become 0 rfl) rfl rfl ?_
  refine sk_S.iload_n (i := 1) (dd DX8_become 1 rfl) rfl rfl ?_
  refine sk_S.callV (dd DX8_become 2 rfl) rfl kX8_79 cM_isBoat se_54 (by decide) rfl rfl rfl rfl (Nat.le_of_ble_eq_true rfl) (fun r2 h2 q2 => ?_)
  obtain ⟨rfl, rfl⟩ := q2
  show sk_S _ _ _ _ _ _ (.int _ :: _) _ _
  refine sk_S.bif_eq (tgt := 15) (dd DX8_become 3 rfl) (by decide) (fun c5 => ?_) (fun c5 => ?_)
  · refine sk_S.aload_n (i := 0) (dd DX8_become 7 rfl) rfl rfl ?_
    refine sk_S.ldc (dd DX8_become 8 rfl) rfl cnX8_73 ?_
    refine sk_S.callV (dd DX8_become 9 rfl) rfl kX8_74 (cM_error (k := 1) ⟨by decide, by decide, by decide⟩) se_54 (by decide) rfl rfl rfl rfl (Nat.le_of_ble_eq_true rfl) (fun r18 h18 q18 => ?_)
    obtain ⟨rfl, rfl⟩ := q18
    show sk_S _ _ _ _ _ _ (.int _ :: _) _ _
    refine sk_S.iret (dd DX8_become 10 rfl) rfl rfl ?_
    exact Or.inr ⟨fun q => c5 (by rw [hb.1]; exact (inN_pred (by have := hb.2; omega)).mpr q.1), rfl, rfl⟩
  · refine sk_S.iload_n (i := 2) (dd DX8_become 4 rfl) rfl rfl ?_
    refine sk_S.callS (dd DX8_become 5 rfl) rfl kX8_69 cM_isKm rfl rfl rfl (Nat.le_of_ble_eq_true rfl) (fun r9 h9 q9 => ?_)
    obtain ⟨rfl, rfl⟩ := q9
    show sk_S _ _ _ _ _ _ (.int _ :: _) _ _
    refine sk_S.bif_ne (tgt := 22) (dd DX8_become 6 rfl) (by decide) (fun c12 => ?_) (fun c12 => ?_)
    · rw [hb.1] at c5
      obtain ⟨j, hj, rfl⟩ := (inN_pred (by have := hb.2; omega)).mp c5
      have hb6 := hb.2
      refine sk_S.aload_n (i := 0) (dd DX8_become 11 rfl) rfl rfl ?_
      refine sk_S.getr (dd DX8_become 12 rfl) rfl fX8_9 se_54 (by decide) rfl ?_
      refine sk_S.bipush (v := 17) (dd DX8_become 13 rfl) (by decide) ?_
      refine sk_S.iconst (v := 3) (dd DX8_become 14 rfl) (by decide) ?_
      refine sk_S.iload_n (i := 1) (dd DX8_become 15 rfl) rfl rfl ?_
      refine sk_S.imul (dd DX8_become 16 rfl) ?_
      refine sk_S.iadd (dd DX8_become 17 rfl) ?_
      refine sk_S.iconst (v := 1) (dd DX8_become 18 rfl) (by decide) ?_
      refine sk_S.iadd (dd DX8_become 19 rfl) ?_
      refine sk_S.iload_n (i := 2) (dd DX8_become 20 rfl) rfl rfl ?_
      refine sk_S.bipush (v := 10) (dd DX8_become 21 rfl) (by decide) ?_
      refine sk_S.irem (dd DX8_become 22 rfl) (by decide) ?_
      refine sk_S.iast (dd DX8_become 23 rfl) se_55 (sk_ix_e (k := 17 + 3 * j + 1) (by show nI 17 + nI 3 * nI j + nI 1 = _; rw [nI_mul, nI_add, nI_add]) (by omega) (by decide)) ?_
      refine sk_S.aload_n (i := 0) (dd DX8_become 24 rfl) rfl rfl ?_
      refine sk_S.bipush (v := 17) (dd DX8_become 25 rfl) (by decide) ?_
      refine sk_S.iconst (v := 3) (dd DX8_become 26 rfl) (by decide) ?_
      refine sk_S.iload_n (i := 1) (dd DX8_become 27 rfl) rfl rfl ?_
      refine sk_S.imul (dd DX8_become 28 rfl) ?_
      refine sk_S.iadd (dd DX8_become 29 rfl) ?_
      refine sk_S.iload_n (i := 2) (dd DX8_become 30 rfl) rfl rfl ?_
      refine sk_S.bipush (v := 10) (dd DX8_become 31 rfl) (by decide) ?_
      refine sk_S.idiv (dd DX8_become 32 rfl) (by decide) ?_
      refine sk_S.callV (dd DX8_become 33 rfl) rfl kX8_85 (cM_becomes (j := 17 + 3 * j) (sk_ix_e (k := 17 + 3 * j) (by show nI 17 + nI 3 * nI j = _; rw [nI_mul, nI_add]) (by omega) (by decide))) se_54 (by decide) rfl rfl rfl rfl (Nat.le_of_ble_eq_true rfl) (fun r50 h50 q50 => ?_)
      obtain ⟨rfl, rfl⟩ := q50
      show sk_S _ _ _ _ _ _ (.int _ :: _) _ _
      refine sk_S.iret (dd DX8_become 34 rfl) rfl rfl ?_
      refine Or.inl ⟨j, hj, rfl, (inN_le (by decide)).mp c12, rfl, ?_⟩
      rw [sk_u_at, if_pos rfl, if_neg (by omega)]
    · refine sk_S.aload_n (i := 0) (dd DX8_become 7 rfl) rfl rfl ?_
      refine sk_S.ldc (dd DX8_become 8 rfl) rfl cnX8_73 ?_
      refine sk_S.callV (dd DX8_become 9 rfl) rfl kX8_74 (cM_error (k := 1) ⟨by decide, by decide, by decide⟩) se_54 (by decide) rfl rfl rfl rfl (Nat.le_of_ble_eq_true rfl) (fun r18 h18 q18 => ?_)
      obtain ⟨rfl, rfl⟩ := q18
      show sk_S _ _ _ _ _ _ (.int _ :: _) _ _
      refine sk_S.iret (dd DX8_become 10 rfl) rfl rfl ?_
      exact Or.inr ⟨fun q => c12 ((inN_le (by decide)).mpr q.2), rfl, rfl⟩
set_option maxRecDepth 100000 in
set_option maxHeartbeats 4000000 in
theorem cM_boat {l : Launch} {E : sk_V} {d : Nat} {h : sk_M} {v : Int32} (hb : boI (h 55)) : sk_K l E (d + 2) MX8_boat [.ref 54, .int v] h (fun r h1 => (¬ inN v 70 ∧ erM h 1 h1 r) ∨ (inN v 70 ∧ boN (h 55) = 6 ∧ erM h 4 h1 r) ∨ (inN v 70 ∧ boN (h 55) < 6 ∧ sk_u (sk_u (sk_u (sk_u h 55 2 (h 55 2 + 1)) 55 (17 + 3 * boN (h 55)) (v / 10)) 55 (17 + 3 * boN (h 55) + 1) (v - v / 10 * 10)) 55 (17 + 3 * boN (h 55) + 2) 0 = h1 ∧ some (.int (nI (boN (h 55)))) = r)) := by
  refine sk_K.of (by decide +kernel) (Nat.le_of_ble_eq_true rfl) ?_
  show sk_S l E (d + 2) _ 0 [some (.ref 54), some (.int v), none] [] h _
  refine sk_S.iload_n (i := 1) (dd DX8_boat 0 rfl) rfl rfl ?_
  refine sk_S.callS (dd DX8_boat 1 rfl) rfl kX8_69 cM_isKm rfl rfl rfl (Nat.le_of_ble_eq_true rfl) (fun r1 h1 q1 => ?_)
  obtain ⟨rfl, rfl⟩ := q1
  show sk_S _ _ _ _ _ _ (.int _ :: _) _ _
  refine sk_S.bif_ne (tgt := 14) (dd DX8_boat 2 rfl) (by decide) (fun c4 => ?_) (fun c4 => ?_)
  · refine sk_S.aload_n (i := 0) (dd DX8_boat 7 rfl) rfl rfl ?_
    refine sk_S.getr (dd DX8_boat 8 rfl) rfl fX8_9 se_54 (by decide) rfl ?_
    refine sk_S.iconst (v := 2) (dd DX8_boat 9 rfl) (by decide) ?_
    refine sk_S.iald (dd DX8_boat 10 rfl) se_55 (j := 2) ⟨by decide, by decide, by decide⟩ ?_
    refine sk_S.istore_n (i := 2) (dd DX8_boat 11 rfl) rfl (Nat.le_of_ble_eq_true rfl) rfl ?_
    refine sk_S.iload_n (i := 2) (dd DX8_boat 12 rfl) rfl rfl ?_
    refine sk_S.bipush (v := 6) (dd DX8_boat 13 rfl) (by decide) ?_
    refine sk_S.icmp_ne (tgt := 34) (dd DX8_boat 14 rfl) (by decide) (fun c24 => ?_) (fun c24 => ?_)
    · have hb6 := hb.2
      have hlt : boN (h 55) < 6 := by
        apply Nat.lt_of_le_of_ne hb6
        intro q
        apply c24
        rw [hb.1, q]
        rfl
      generalize ej : boN (h 55) = j at *
      refine sk_S.aload_n (i := 0) (dd DX8_boat 19 rfl) rfl rfl ?_
      refine sk_S.getr (dd DX8_boat 20 rfl) rfl fX8_9 se_54 (by decide) rfl ?_
      refine sk_S.iconst (v := 2) (dd DX8_boat 21 rfl) (by decide) ?_
      refine sk_S.dup2 (dd DX8_boat 22 rfl) rfl rfl ?_
      refine sk_S.iald (dd DX8_boat 23 rfl) se_55 (j := 2) ⟨by decide, by decide, by decide⟩ ?_
      refine sk_S.iconst (v := 1) (dd DX8_boat 24 rfl) (by decide) ?_
      refine sk_S.iadd (dd DX8_boat 25 rfl) ?_
      refine sk_S.iast (dd DX8_boat 26 rfl) se_55 (j := 2) ⟨by decide, by decide, by decide⟩ ?_
      refine sk_S.aload_n (i := 0) (dd DX8_boat 27 rfl) rfl rfl ?_
      refine sk_S.getr (dd DX8_boat 28 rfl) rfl fX8_9 se_54 (by decide) rfl ?_
      refine sk_S.bipush (v := 17) (dd DX8_boat 29 rfl) (by decide) ?_
      refine sk_S.iconst (v := 3) (dd DX8_boat 30 rfl) (by decide) ?_
      refine sk_S.iload_n (i := 2) (dd DX8_boat 31 rfl) rfl rfl ?_
      refine sk_S.imul (dd DX8_boat 32 rfl) ?_
      refine sk_S.iadd (dd DX8_boat 33 rfl) ?_
      refine sk_S.iload_n (i := 1) (dd DX8_boat 34 rfl) rfl rfl ?_
      refine sk_S.bipush (v := 10) (dd DX8_boat 35 rfl) (by decide) ?_
      refine sk_S.idiv (dd DX8_boat 36 rfl) (by decide) ?_
      refine sk_S.iast (dd DX8_boat 37 rfl) se_55 (sk_ix_e (k := 17 + 3 * j) (by rw [hb.1, ej]; show nI 17 + nI 3 * nI j = _; rw [nI_mul, nI_add]) (by omega) (by decide)) ?_
      refine sk_S.aload_n (i := 0) (dd DX8_boat 38 rfl) rfl rfl ?_
      refine sk_S.getr (dd DX8_boat 39 rfl) rfl fX8_9 se_54 (by decide) rfl ?_
      refine sk_S.bipush (v := 17) (dd DX8_boat 40 rfl) (by decide) ?_
      refine sk_S.iconst (v := 3) (dd DX8_boat 41 rfl) (by decide) ?_
      refine sk_S.iload_n (i := 2) (dd DX8_boat 42 rfl) rfl rfl ?_
      refine sk_S.imul (dd DX8_boat 43 rfl) ?_
      refine sk_S.iadd (dd DX8_boat 44 rfl) ?_
      refine sk_S.iconst (v := 1) (dd DX8_boat 45 rfl) (by decide) ?_
      refine sk_S.iadd (dd DX8_boat 46 rfl) ?_
      refine sk_S.iload_n (i := 1) (dd DX8_boat 47 rfl) rfl rfl ?_
      refine sk_S.bipush (v := 10) (dd DX8_boat 48 rfl) (by decide) ?_
      refine sk_S.irem (dd DX8_boat 49 rfl) (by decide) ?_
      refine sk_S.iast (dd DX8_boat 50 rfl) se_55 (sk_ix_e (k := 17 + 3 * j + 1) (by rw [hb.1, ej]; show nI 17 + nI 3 * nI j + nI 1 = _; rw [nI_mul, nI_add, nI_add]) (by omega) (by decide)) ?_
      refine sk_S.aload_n (i := 0) (dd DX8_boat 51 rfl) rfl rfl ?_
      refine sk_S.getr (dd DX8_boat 52 rfl) rfl fX8_9 se_54 (by decide) rfl ?_
      refine sk_S.bipush (v := 17) (dd DX8_boat 53 rfl) (by decide) ?_
      refine sk_S.iconst (v := 3) (dd DX8_boat 54 rfl) (by decide) ?_
      refine sk_S.iload_n (i := 2) (dd DX8_boat 55 rfl) rfl rfl ?_
      refine sk_S.imul (dd DX8_boat 56 rfl) ?_
      refine sk_S.iadd (dd DX8_boat 57 rfl) ?_
      refine sk_S.iconst (v := 2) (dd DX8_boat 58 rfl) (by decide) ?_
      refine sk_S.iadd (dd DX8_boat 59 rfl) ?_
      refine sk_S.iconst (v := 0) (dd DX8_boat 60 rfl) (by decide) ?_
      refine sk_S.iast (dd DX8_boat 61 rfl) se_55 (sk_ix_e (k := 17 + 3 * j + 2) (by rw [hb.1, ej]; show nI 17 + nI 3 * nI j + nI 2 = _; rw [nI_mul, nI_add, nI_add]) (by omega) (by decide)) ?_
      refine sk_S.iload_n (i := 2) (dd DX8_boat 62 rfl) rfl rfl ?_
      refine sk_S.iret (dd DX8_boat 63 rfl) rfl rfl ?_
      refine Or.inr (Or.inr ⟨(inN_le (by decide)).mp c4, by omega, rfl, ?_⟩)
      rw [hb.1, ej]
    · refine sk_S.aload_n (i := 0) (dd DX8_boat 15 rfl) rfl rfl ?_
      refine sk_S.ldc (dd DX8_boat 16 rfl) rfl cnX8_78 ?_
      refine sk_S.callV (dd DX8_boat 17 rfl) rfl kX8_74 (cM_error (k := 4) ⟨by decide, by decide, by decide⟩) se_54 (by decide) rfl rfl rfl rfl (Nat.le_of_ble_eq_true rfl) (fun r30 h30 q30 => ?_)
      obtain ⟨rfl, rfl⟩ := q30
      show sk_S _ _ _ _ _ _ (.int _ :: _) _ _
      refine sk_S.iret (dd DX8_boat 18 rfl) rfl rfl ?_
      refine Or.inr (Or.inl ⟨(inN_le (by decide)).mp c4, ?_, rfl, rfl⟩)
      have h2 := hb.1.symm.trans c24
      exact (nI_eq (by have := hb.2; omega) (by decide)).mp h2
  · refine sk_S.aload_n (i := 0) (dd DX8_boat 3 rfl) rfl rfl ?_
    refine sk_S.ldc (dd DX8_boat 4 rfl) rfl cnX8_73 ?_
    refine sk_S.callV (dd DX8_boat 5 rfl) rfl kX8_74 (cM_error (k := 1) ⟨by decide, by decide, by decide⟩) se_54 (by decide) rfl rfl rfl rfl (Nat.le_of_ble_eq_true rfl) (fun r10 h10 q10 => ?_)
    obtain ⟨rfl, rfl⟩ := q10
    show sk_S _ _ _ _ _ _ (.int _ :: _) _ _
    refine sk_S.iret (dd DX8_boat 6 rfl) rfl rfl ?_
    exact Or.inl ⟨fun q => c4 ((inN_le (by decide)).mpr q), rfl, rfl⟩
set_option maxRecDepth 100000 in
set_option maxHeartbeats 4000000 in
theorem cM_told {l : Launch} {E : sk_V} {d : Nat} {h : sk_M} {k : Int32}  : sk_K l E (d + 1) MX8_told [.ref 54, .int k] h (fun r h1 => (∃ j, 1 ≤ j ∧ j ≤ 6 ∧ k = nI j ∧ h = h1 ∧ some (.int (h 57 j)) = r) ∨ (¬ (∃ j, 1 ≤ j ∧ j ≤ 6 ∧ k = nI j) ∧ erM h 1 h1 r)) := by
  refine sk_K.of (by decide +kernel) (Nat.le_of_ble_eq_true rfl) ?_
  show sk_S l E (d + 1) _ 0 [some (.ref 54), some (.int k)] [] h _
  refine sk_S.iload_n (i := 1) (dd DX8_told 0 rfl) rfl rfl ?_
  refine sk_S.iconst (v := 1) (dd DX8_told 1 rfl) (by decide) ?_
  refine sk_S.bipush (v := 6) (dd DX8_told 2 rfl) (by decide) ?_
  refine sk_S.callS (dd DX8_told 3 rfl) rfl kX8_47 cM_in rfl rfl rfl (Nat.le_of_ble_eq_true rfl) (fun r4 h4 q4 => ?_)
  obtain ⟨rfl, rfl⟩ := q4
  show sk_S _ _ _ _ _ _ (.int _ :: _) _ _
  refine sk_S.bif_eq (tgt := 19) (dd DX8_told 4 rfl) (by decide) (fun c7 => ?_) (fun c7 => ?_)
  · refine sk_S.aload_n (i := 0) (dd DX8_told 10 rfl) rfl rfl ?_
    refine sk_S.ldc (dd DX8_told 11 rfl) rfl cnX8_73 ?_
    refine sk_S.callV (dd DX8_told 12 rfl) rfl kX8_74 (cM_error (k := 1) ⟨by decide, by decide, by decide⟩) se_54 (by decide) rfl rfl rfl rfl (Nat.le_of_ble_eq_true rfl) (fun r22 h22 q22 => ?_)
    obtain ⟨rfl, rfl⟩ := q22
    show sk_S _ _ _ _ _ _ (.int _ :: _) _ _
    refine sk_S.iret (dd DX8_told 13 rfl) rfl rfl ?_
    refine Or.inr ⟨?_, rfl, rfl⟩
    rintro ⟨j, q1, q2, rfl⟩
    exact c7 ⟨nI_le (a := 1) q1 (by omega), nI_le (b := 6) q2 (by decide)⟩
  · obtain ⟨j, hj1, hj6, rfl⟩ := rg16 c7
    refine sk_S.aload_n (i := 0) (dd DX8_told 5 rfl) rfl rfl ?_
    refine sk_S.getr (dd DX8_told 6 rfl) rfl fX8_16 se_54 (by decide) rfl ?_
    refine sk_S.iload_n (i := 1) (dd DX8_told 7 rfl) rfl rfl ?_
    refine sk_S.iald (dd DX8_told 8 rfl) se_57 (sk_ix_nI (k := j) rfl (by omega) (by decide)) ?_
    refine sk_S.goto (tgt := 25) (dd DX8_told 9 rfl) (by decide) ?_
    refine sk_S.iret (dd DX8_told 13 rfl) rfl rfl ?_
    exact Or.inl ⟨j, hj1, hj6, rfl, rfl, rfl⟩
set_option maxRecDepth 100000 in
set_option maxHeartbeats 4000000 in
theorem cM_sells {l : Launch} {E : sk_V} {d : Nat} {h : sk_M} {ρ : Nat → Int32} {j : Nat} {n : Int32} (hj : j < 4) (hρ : h 55 = ρ) (hI : lawI ρ 1) : sk_K l E (d + 4) MX8_sells [.ref 54, .int (nI j), .int n] h (fun r h1 => sk_o [55, 63, 64] h h1 ∧ h1 55 = sellR ρ j n ∧ some (.int (n * coinsG ρ j (ρ (9 + j)))) = r) := by
  refine sk_K.of (by decide +kernel) (Nat.le_of_ble_eq_true rfl) ?_
  show sk_S l E (d + 4) _ 0 [some (.ref 54), some (.int (nI j)), some (.int n), none] [] h _
  refine sk_S.iload_n (i := 2) (dd DX8_sells 0 rfl) rfl rfl ?_
  refine sk_S.aload_n (i := 0) (dd DX8_sells 1 rfl) rfl rfl ?_
  refine sk_S.iload_n (i := 1) (dd DX8_sells 2 rfl) rfl rfl ?_
  refine sk_S.aload_n (i := 0) (dd DX8_sells 3 rfl) rfl rfl ?_
  refine sk_S.getr (dd DX8_sells 4 rfl) rfl fX8_9 se_54 (by decide) rfl ?_
  refine sk_S.bipush (v := 9) (dd DX8_sells 5 rfl) (by decide) ?_
  refine sk_S.iload_n (i := 1) (dd DX8_sells 6 rfl) rfl rfl ?_
  refine sk_S.iadd (dd DX8_sells 7 rfl) ?_
  refine sk_S.iald (dd DX8_sells 8 rfl) se_55 (sk_ix_e (k := 9 + j) (ix_add 9 j) (by omega) (by decide)) ?_
  refine sk_S.callV (dd DX8_sells 9 rfl) rfl kX8_92 (cM_coinsFor hj hρ hI) se_54 (by decide) rfl rfl rfl rfl (Nat.le_of_ble_eq_true rfl) (fun r12 h12 q12 => ?_)
  obtain ⟨ho, rfl⟩ := q12
  have e55 : h12 55 = ρ := (ho 55 (by decide)).trans hρ
  show sk_S _ _ _ _ _ _ (.int _ :: _) _ _
  refine sk_S.imul (dd DX8_sells 10 rfl) ?_
  refine sk_S.istore_n (i := 3) (dd DX8_sells 11 rfl) rfl (Nat.le_of_ble_eq_true rfl) rfl ?_
  refine sk_S.aload_n (i := 0) (dd DX8_sells 12 rfl) rfl rfl ?_
  refine sk_S.getr (dd DX8_sells 13 rfl) rfl fX8_9 se_54 (by decide) rfl ?_
  refine sk_S.iconst (v := 4) (dd DX8_sells 14 rfl) (by decide) ?_
  refine sk_S.aload_n (i := 0) (dd DX8_sells 15 rfl) rfl rfl ?_
  refine sk_S.getr (dd DX8_sells 16 rfl) rfl fX8_9 se_54 (by decide) rfl ?_
  refine sk_S.iconst (v := 4) (dd DX8_sells 17 rfl) (by decide) ?_
  refine sk_S.iald (dd DX8_sells 18 rfl) se_55 (j := 4) ⟨by decide, by decide, by decide⟩ ?_
  refine sk_S.iload_n (i := 3) (dd DX8_sells 19 rfl) rfl rfl ?_
  refine sk_S.iadd (dd DX8_sells 20 rfl) ?_
  refine sk_S.ldc (dd DX8_sells 21 rfl) rfl cnX8_95 ?_
  refine sk_S.ldc (dd DX8_sells 22 rfl) rfl cnX8_96 ?_
  refine sk_S.callS (dd DX8_sells 23 rfl) rfl kX8_97 cM_held rfl rfl rfl (Nat.le_of_ble_eq_true rfl) (fun r34 h34 q34 => ?_)
  obtain ⟨rfl, rfl⟩ := q34
  show sk_S _ _ _ _ _ _ (.int _ :: _) _ _
  refine sk_S.iast (dd DX8_sells 24 rfl) se_55 (j := 4) ⟨by decide, by decide, by decide⟩ ?_
  refine sk_S.aload_n (i := 0) (dd DX8_sells 25 rfl) rfl rfl ?_
  refine sk_S.getr (dd DX8_sells 26 rfl) rfl fX8_9 se_54 (by decide) rfl ?_
  refine sk_S.bipush (v := 9) (dd DX8_sells 27 rfl) (by decide) ?_
  refine sk_S.iload_n (i := 1) (dd DX8_sells 28 rfl) rfl rfl ?_
  refine sk_S.iadd (dd DX8_sells 29 rfl) ?_
  refine sk_S.dup2 (dd DX8_sells 30 rfl) rfl rfl ?_
  refine sk_S.iald (dd DX8_sells 31 rfl) se_55 (sk_ix_e (k := 9 + j) (ix_add 9 j) (by omega) (by decide)) ?_
  refine sk_S.iload_n (i := 2) (dd DX8_sells 32 rfl) rfl rfl ?_
  refine sk_S.iadd (dd DX8_sells 33 rfl) ?_
  refine sk_S.iast (dd DX8_sells 34 rfl) se_55 (sk_ix_e (k := 9 + j) (ix_add 9 j) (by omega) (by decide)) ?_
  refine sk_S.iload_n (i := 3) (dd DX8_sells 35 rfl) rfl rfl ?_
  refine sk_S.iret (dd DX8_sells 36 rfl) rfl rfl ?_
  subst hρ
  refine ⟨((ho.more (by decide)).u (by decide)).u (by decide), ?_, rfl⟩
  rw [sk_u, sk_r_eq, sk_u, sk_r_eq]
  unfold sellR
  rw [e55, upd_ne (by omega)]
set_option maxRecDepth 100000 in
set_option maxHeartbeats 4000000 in
theorem cM_sell {l : Launch} {E : sk_V} {d : Nat} {h : sk_M} {f n : Int32} (hI : lawI (h 55) 1) : sk_K l E (d + 5) MX8_sell [.ref 54, .int f, .int n] h (fun r h1 => (¬ (inN f 4 ∧ inN n 100) ∧ erM h 1 h1 r) ∨ (∃ j, j < 4 ∧ f = nI j ∧ inN n 100 ∧ ((¬ h 55 (9 + j) + n ≤ 99 ∧ erM h 3 h1 r) ∨ (h 55 (9 + j) + n ≤ 99 ∧ sk_o [55, 63, 64] h h1 ∧ h1 55 = sellR (h 55) j n ∧ some (.int (n * coinsG (h 55) j (h 55 (9 + j)))) = r)))) := by
  refine sk_K.of (by decide +kernel) (Nat.le_of_ble_eq_true rfl) ?_
  show sk_S l E (d + 5) _ 0 [some (.ref 54), some (.int f), some (.int n)] [] h _
  refine sk_S.iload_n (i := 1) (dd DX8_sell 0 rfl) rfl rfl ?_
  refine sk_S.callS (dd DX8_sell 1 rfl) rfl kX8_89 cM_isFish rfl rfl rfl (Nat.le_of_ble_eq_true rfl) (fun r1 h1 q1 => ?_)
  obtain ⟨rfl, rfl⟩ := q1
  show sk_S _ _ _ _ _ _ (.int _ :: _) _ _
  refine sk_S.bif_eq (tgt := 17) (dd DX8_sell 2 rfl) (by decide) (fun c4 => ?_) (fun c4 => ?_)
  · refine sk_S.aload_n (i := 0) (dd DX8_sell 8 rfl) rfl rfl ?_
    refine sk_S.ldc (dd DX8_sell 9 rfl) rfl cnX8_73 ?_
    refine sk_S.callV (dd DX8_sell 10 rfl) rfl kX8_74 (cM_error (k := 1) ⟨by decide, by decide, by decide⟩) se_54 (by decide) rfl rfl rfl rfl (Nat.le_of_ble_eq_true rfl) (fun r20 h20 q20 => ?_)
    obtain ⟨rfl, rfl⟩ := q20
    show sk_S _ _ _ _ _ _ (.int _ :: _) _ _
    refine sk_S.iret (dd DX8_sell 11 rfl) rfl rfl ?_
    exact Or.inl ⟨fun q => c4 ((inN_le (by decide)).mpr q.1), rfl, rfl⟩
  · refine sk_S.iload_n (i := 2) (dd DX8_sell 3 rfl) rfl rfl ?_
    refine sk_S.iconst (v := 0) (dd DX8_sell 4 rfl) (by decide) ?_
    refine sk_S.bipush (v := 99) (dd DX8_sell 5 rfl) (by decide) ?_
    refine sk_S.callS (dd DX8_sell 6 rfl) rfl kX8_47 cM_in rfl rfl rfl (Nat.le_of_ble_eq_true rfl) (fun r11 h11 q11 => ?_)
    obtain ⟨rfl, rfl⟩ := q11
    show sk_S _ _ _ _ _ _ (.int _ :: _) _ _
    refine sk_S.bif_ne (tgt := 24) (dd DX8_sell 7 rfl) (by decide) (fun c14 => ?_) (fun c14 => ?_)
    · obtain ⟨j, hj, rfl⟩ := (inN_le (n := 4) (by decide)).mp c4
      refine sk_S.aload_n (i := 0) (dd DX8_sell 12 rfl) rfl rfl ?_
      refine sk_S.getr (dd DX8_sell 13 rfl) rfl fX8_9 se_54 (by decide) rfl ?_
      refine sk_S.bipush (v := 9) (dd DX8_sell 14 rfl) (by decide) ?_
      refine sk_S.iload_n (i := 1) (dd DX8_sell 15 rfl) rfl rfl ?_
      refine sk_S.iadd (dd DX8_sell 16 rfl) ?_
      refine sk_S.iald (dd DX8_sell 17 rfl) se_55 (sk_ix_e (k := 9 + j) (ix_add 9 j) (by omega) (by decide)) ?_
      refine sk_S.iload_n (i := 2) (dd DX8_sell 18 rfl) rfl rfl ?_
      refine sk_S.iadd (dd DX8_sell 19 rfl) ?_
      refine sk_S.bipush (v := 99) (dd DX8_sell 20 rfl) (by decide) ?_
      refine sk_S.icmp_le (tgt := 49) (dd DX8_sell 21 rfl) (by decide) (fun c37 => ?_) (fun c37 => ?_)
      · refine sk_S.aload_n (i := 0) (dd DX8_sell 26 rfl) rfl rfl ?_
        refine sk_S.iload_n (i := 1) (dd DX8_sell 27 rfl) rfl rfl ?_
        refine sk_S.iload_n (i := 2) (dd DX8_sell 28 rfl) rfl rfl ?_
        refine sk_S.callV (dd DX8_sell 29 rfl) rfl kX8_101 (cM_sells hj rfl hI) se_54 (by decide) rfl rfl rfl rfl (Nat.le_of_ble_eq_true rfl) (fun r52 h52 q52 => ?_)
        obtain ⟨ho, e55, rfl⟩ := q52
        show sk_S _ _ _ _ _ _ (.int _ :: _) _ _
        refine sk_S.iret (dd DX8_sell 30 rfl) rfl rfl ?_
        exact Or.inr ⟨j, hj, rfl, (inN_le (by decide)).mp c14, Or.inr ⟨c37, ho, e55, rfl⟩⟩
      · refine sk_S.aload_n (i := 0) (dd DX8_sell 22 rfl) rfl rfl ?_
        refine sk_S.ldc (dd DX8_sell 23 rfl) rfl cnX8_100 ?_
        refine sk_S.callV (dd DX8_sell 24 rfl) rfl kX8_74 (cM_error (k := 3) ⟨by decide, by decide, by decide⟩) se_54 (by decide) rfl rfl rfl rfl (Nat.le_of_ble_eq_true rfl) (fun r43 h43 q43 => ?_)
        obtain ⟨rfl, rfl⟩ := q43
        show sk_S _ _ _ _ _ _ (.int _ :: _) _ _
        refine sk_S.goto (tgt := 55) (dd DX8_sell 25 rfl) (by decide) ?_
        refine sk_S.iret (dd DX8_sell 30 rfl) rfl rfl ?_
        exact Or.inr ⟨j, hj, rfl, (inN_le (by decide)).mp c14, Or.inl ⟨c37, rfl, rfl⟩⟩
    · refine sk_S.aload_n (i := 0) (dd DX8_sell 8 rfl) rfl rfl ?_
      refine sk_S.ldc (dd DX8_sell 9 rfl) rfl cnX8_73 ?_
      refine sk_S.callV (dd DX8_sell 10 rfl) rfl kX8_74 (cM_error (k := 1) ⟨by decide, by decide, by decide⟩) se_54 (by decide) rfl rfl rfl rfl (Nat.le_of_ble_eq_true rfl) (fun r20 h20 q20 => ?_)
      obtain ⟨rfl, rfl⟩ := q20
      show sk_S _ _ _ _ _ _ (.int _ :: _) _ _
      refine sk_S.iret (dd DX8_sell 11 rfl) rfl rfl ?_
      exact Or.inl ⟨fun q => c14 ((inN_le (by decide)).mpr q.2), rfl, rfl⟩
set_option maxRecDepth 100000 in
set_option maxHeartbeats 4000000 in
theorem cM_untell {l : Launch} {E : sk_V} {d : Nat} {h : sk_M} {u : Int32}  : sk_K l E (d + 1) MX8_untell [.ref 54, .int u] h (fun r h1 => (¬ inN u 2 ∧ erM h 1 h1 r) ∨ (∃ j, j < 2 ∧ u = nI j ∧ sk_u h 55 (119 + 121 * j) 0 = h1 ∧ some (.int (if h 55 (119 + 121 * j) ≤ 0 then 0 else 1)) = r)) := by
  refine sk_K.of (by decide +kernel) (Nat.le_of_ble_eq_true rfl) ?_
  show sk_S l E (d + 1) _ 0 [some (.ref 54), some (.int u)] [] h _
  refine sk_S.iload_n (i := 1) (dd DX8_untell 0 rfl) rfl rfl ?_
  refine sk_S.iconst (v := 0) (dd DX8_untell 1 rfl) (by decide) ?_
  refine sk_S.iconst (v := 1) (dd DX8_untell 2 rfl) (by decide) ?_
  refine sk_S.callS (dd DX8_untell 3 rfl) rfl kX8_47 cM_in rfl rfl rfl (Nat.le_of_ble_eq_true rfl) (fun r3 h3 q3 => ?_)
  obtain ⟨rfl, rfl⟩ := q3
  show sk_S _ _ _ _ _ _ (.int _ :: _) _ _
  refine sk_S.bif_ne (tgt := 16) (dd DX8_untell 4 rfl) (by decide) (fun c6 => ?_) (fun c6 => ?_)
  · obtain ⟨j, hj, rfl⟩ := (inN_le (n := 2) (by decide)).mp c6
    refine sk_S.aload_n (i := 0) (dd DX8_untell 9 rfl) rfl rfl ?_
    refine sk_S.bipush (v := 119) (dd DX8_untell 10 rfl) (by decide) ?_
    refine sk_S.bipush (v := 121) (dd DX8_untell 11 rfl) (by decide) ?_
    refine sk_S.iload_n (i := 1) (dd DX8_untell 12 rfl) rfl rfl ?_
    refine sk_S.imul (dd DX8_untell 13 rfl) ?_
    refine sk_S.iadd (dd DX8_untell 14 rfl) ?_
    refine sk_S.iconst (v := 0) (dd DX8_untell 15 rfl) (by decide) ?_
    refine sk_S.callV (dd DX8_untell 16 rfl) rfl kX8_85 (cM_becomes (j := 119 + 121 * j) (sk_ix_e (ix_at j) (by omega) (by decide))) se_54 (by decide) rfl rfl rfl rfl (Nat.le_of_ble_eq_true rfl) (fun r25 h25 q25 => ?_)
    obtain ⟨rfl, rfl⟩ := q25
    show sk_S _ _ _ _ _ _ (.int _ :: _) _ _
    refine sk_S.if_le (tgt := 35) (dd DX8_untell 17 rfl) (by decide) (fun c28 => ?_) (fun c28 => ?_)
    · refine sk_S.iconst (v := 0) (dd DX8_untell 20 rfl) (by decide) ?_
      refine sk_S.iret (dd DX8_untell 21 rfl) rfl rfl ?_
      exact Or.inr ⟨j, hj, rfl, rfl, by rw [if_pos c28]⟩
    · refine sk_S.iconst (v := 1) (dd DX8_untell 18 rfl) (by decide) ?_
      refine sk_S.goto (tgt := 36) (dd DX8_untell 19 rfl) (by decide) ?_
      refine sk_S.iret (dd DX8_untell 21 rfl) rfl rfl ?_
      exact Or.inr ⟨j, hj, rfl, rfl, by rw [if_neg c28]⟩
  · refine sk_S.aload_n (i := 0) (dd DX8_untell 5 rfl) rfl rfl ?_
    refine sk_S.ldc (dd DX8_untell 6 rfl) rfl cnX8_73 ?_
    refine sk_S.callV (dd DX8_untell 7 rfl) rfl kX8_74 (cM_error (k := 1) ⟨by decide, by decide, by decide⟩) se_54 (by decide) rfl rfl rfl rfl (Nat.le_of_ble_eq_true rfl) (fun r12 h12 q12 => ?_)
    obtain ⟨rfl, rfl⟩ := q12
    show sk_S _ _ _ _ _ _ (.int _ :: _) _ _
    refine sk_S.iret (dd DX8_untell 8 rfl) rfl rfl ?_
    exact Or.inl ⟨fun q => c6 ((inN_le (by decide)).mpr q), rfl, rfl⟩
set_option maxRecDepth 100000 in
set_option maxHeartbeats 4000000 in
theorem cM_law {l : Launch} {E : sk_V} {d : Nat} {h : sk_M} {u a b c : Int32} (h0 : lawI (h 55) 0) (h9 : lawI (h 55) 1) : sk_K l E (d + 3) MX8_law [.ref 54, .int u, .int a, .int b, .int c] h (fun r h1 => (¬ inN u 2 ∧ erM h 1 h1 r) ∨ (∃ j, j < 2 ∧ u = nI j ∧ sk_o [63, 64] h h1 ∧ some (.int (gvV (h 55) j a b c)) = r)) := by
  refine sk_K.of (by decide +kernel) (Nat.le_of_ble_eq_true rfl) ?_
  show sk_S l E (d + 3) _ 0 [some (.ref 54), some (.int u), some (.int a), some (.int b), some (.int c)] [] h _
  refine sk_S.iload_n (i := 1) (dd DX8_law 0 rfl) rfl rfl ?_
  refine sk_S.iconst (v := 0) (dd DX8_law 1 rfl) (by decide) ?_
  refine sk_S.iconst (v := 1) (dd DX8_law 2 rfl) (by decide) ?_
  refine sk_S.callS (dd DX8_law 3 rfl) rfl kX8_47 cM_in rfl rfl rfl (Nat.le_of_ble_eq_true rfl) (fun r3 h3 q3 => ?_)
  obtain ⟨rfl, rfl⟩ := q3
  show sk_S _ _ _ _ _ _ (.int _ :: _) _ _
  refine sk_S.bif_eq (tgt := 21) (dd DX8_law 4 rfl) (by decide) (fun c6 => ?_) (fun c6 => ?_)
  · refine sk_S.aload_n (i := 0) (dd DX8_law 12 rfl) rfl rfl ?_
    refine sk_S.ldc (dd DX8_law 13 rfl) rfl cnX8_73 ?_
    refine sk_S.callV (dd DX8_law 14 rfl) rfl kX8_74 (cM_error (k := 1) ⟨by decide, by decide, by decide⟩) se_54 (by decide) rfl rfl rfl rfl (Nat.le_of_ble_eq_true rfl) (fun r24 h24 q24 => ?_)
    obtain ⟨rfl, rfl⟩ := q24
    show sk_S _ _ _ _ _ _ (.int _ :: _) _ _
    refine sk_S.iret (dd DX8_law 15 rfl) rfl rfl ?_
    exact Or.inl ⟨fun q => c6 ((inN_le (by decide)).mpr q), rfl, rfl⟩
  · obtain ⟨j, hj, rfl⟩ := (inN_le (n := 2) (by decide)).mp c6
    have hI : lawI (h 55) j := by
      have e2 : j = 0 ∨ j = 1 := by omega
      rcases e2 with rfl | rfl
      · exact h0
      · exact h9
    refine sk_S.aload_n (i := 0) (dd DX8_law 5 rfl) rfl rfl ?_
    refine sk_S.iload_n (i := 1) (dd DX8_law 6 rfl) rfl rfl ?_
    refine sk_S.iload_n (i := 2) (dd DX8_law 7 rfl) rfl rfl ?_
    refine sk_S.iload_n (i := 3) (dd DX8_law 8 rfl) rfl rfl ?_
    refine sk_S.iload (i := 4) (dd DX8_law 9 rfl) rfl ?_
    refine sk_S.callV (dd DX8_law 10 rfl) rfl kX8_58 (cM_gives hj rfl hI) se_54 (by decide) rfl rfl rfl rfl (Nat.le_of_ble_eq_true rfl) (fun r15 h15 q15 => ?_)
    obtain ⟨ho, rfl⟩ := q15
    show sk_S _ _ _ _ _ _ (.int _ :: _) _ _
    refine sk_S.goto (tgt := 27) (dd DX8_law 11 rfl) (by decide) ?_
    refine sk_S.iret (dd DX8_law 15 rfl) rfl rfl ?_
    exact Or.inr ⟨j, hj, rfl, ho, rfl⟩
set_option maxRecDepth 100000 in
set_option maxHeartbeats 4000000 in
theorem cM_catches {l : Launch} {E : sk_V} {d : Nat} {h : sk_M} {f : Int32} (hb : boI (h 55)) (hI : lawI (h 55) 0) : sk_K l E (d + 6) MX8_catches [.ref 54, .int f] h (fun r h1 => (¬ inN f 4 ∧ erM h 1 h1 r) ∨ (∃ j, j < 4 ∧ f = nI j ∧ sk_o [63, 64] h h1 ∧ some (.int (catchG (h 55) (nI j) (h 55 (9 + j)) (h 55 3) (h 55 0))) = r)) := by
  refine sk_K.of (by decide +kernel) (Nat.le_of_ble_eq_true rfl) ?_
  show sk_S l E (d + 6) _ 0 [some (.ref 54), some (.int f)] [] h _
  refine sk_S.iload_n (i := 1) (dd DX8_catches 0 rfl) rfl rfl ?_
  refine sk_S.callS (dd DX8_catches 1 rfl) rfl kX8_89 cM_isFish rfl rfl rfl (Nat.le_of_ble_eq_true rfl) (fun r1 h1 q1 => ?_)
  obtain ⟨rfl, rfl⟩ := q1
  show sk_S _ _ _ _ _ _ (.int _ :: _) _ _
  refine sk_S.bif_eq (tgt := 15) (dd DX8_catches 2 rfl) (by decide) (fun c4 => ?_) (fun c4 => ?_)
  · refine sk_S.aload_n (i := 0) (dd DX8_catches 7 rfl) rfl rfl ?_
    refine sk_S.ldc (dd DX8_catches 8 rfl) rfl cnX8_73 ?_
    refine sk_S.callV (dd DX8_catches 9 rfl) rfl kX8_74 (cM_error (k := 1) ⟨by decide, by decide, by decide⟩) se_54 (by decide) rfl rfl rfl rfl (Nat.le_of_ble_eq_true rfl) (fun r18 h18 q18 => ?_)
    obtain ⟨rfl, rfl⟩ := q18
    show sk_S _ _ _ _ _ _ (.int _ :: _) _ _
    refine sk_S.iret (dd DX8_catches 10 rfl) rfl rfl ?_
    exact Or.inl ⟨fun q => c4 ((inN_le (by decide)).mpr q), rfl, rfl⟩
  · obtain ⟨j, hj, rfl⟩ := (inN_le (n := 4) (by decide)).mp c4
    refine sk_S.aload_n (i := 0) (dd DX8_catches 3 rfl) rfl rfl ?_
    refine sk_S.iload_n (i := 1) (dd DX8_catches 4 rfl) rfl rfl ?_
    refine sk_S.callV (dd DX8_catches 5 rfl) rfl kX8_181 (cM_catchOf hj rfl hb hI) se_54 (by decide) rfl rfl rfl rfl (Nat.le_of_ble_eq_true rfl) (fun r9 h9 q9 => ?_)
    obtain ⟨ho, rfl⟩ := q9
    show sk_S _ _ _ _ _ _ (.int _ :: _) _ _
    refine sk_S.goto (tgt := 21) (dd DX8_catches 6 rfl) (by decide) ?_
    refine sk_S.iret (dd DX8_catches 10 rfl) rfl rfl ?_
    exact Or.inr ⟨j, hj, rfl, ho, rfl⟩
set_option maxRecDepth 100000 in
set_option maxHeartbeats 4000000 in
theorem cM_tell {l : Launch} {E : sk_V} {d : Nat} {h : sk_M} {v : Int32} {n : Nat} (hn : h 55 8 = nI n) (hn24 : n ≤ 24) : sk_K l E (d + 1) MX8_tell [.ref 54, .int v] h (fun r h1 => (n = 24 ∧ erM h 4 h1 r) ∨ (n < 24 ∧ sk_u (sk_u h 55 (95 + n) v) 55 8 (nI (n + 1)) = h1 ∧ some (.int (nI (n + 1))) = r)) := by
  refine sk_K.of (by decide +kernel) (Nat.le_of_ble_eq_true rfl) ?_
  show sk_S l E (d + 1) _ 0 [some (.ref 54), some (.int v)] [] h _
  refine sk_S.aload_n (i := 0) (dd DX8_tell 0 rfl) rfl rfl ?_
  refine sk_S.getr (dd DX8_tell 1 rfl) rfl fX8_9 se_54 (by decide) rfl ?_
  refine sk_S.bipush (v := 8) (dd DX8_tell 2 rfl) (by decide) ?_
  refine sk_S.iald (dd DX8_tell 3 rfl) se_55 (j := 8) ⟨by decide, by decide, by decide⟩ ?_
  refine sk_S.bipush (v := 24) (dd DX8_tell 4 rfl) (by decide) ?_
  refine sk_S.icmp_ne (tgt := 19) (dd DX8_tell 5 rfl) (by decide) (fun c9 => ?_) (fun c9 => ?_)
  · have hlt : n < 24 := by
      apply Nat.lt_of_le_of_ne hn24
      intro q
      apply c9
      rw [hn, q]
      rfl
    refine sk_S.aload_n (i := 0) (dd DX8_tell 10 rfl) rfl rfl ?_
    refine sk_S.getr (dd DX8_tell 11 rfl) rfl fX8_9 se_54 (by decide) rfl ?_
    refine sk_S.bipush (v := 95) (dd DX8_tell 12 rfl) (by decide) ?_
    refine sk_S.aload_n (i := 0) (dd DX8_tell 13 rfl) rfl rfl ?_
    refine sk_S.getr (dd DX8_tell 14 rfl) rfl fX8_9 se_54 (by decide) rfl ?_
    refine sk_S.bipush (v := 8) (dd DX8_tell 15 rfl) (by decide) ?_
    refine sk_S.iald (dd DX8_tell 16 rfl) se_55 (j := 8) ⟨by decide, by decide, by decide⟩ ?_
    refine sk_S.iadd (dd DX8_tell 17 rfl) ?_
    refine sk_S.iload_n (i := 1) (dd DX8_tell 18 rfl) rfl rfl ?_
    refine sk_S.iast (dd DX8_tell 19 rfl) se_55 (sk_ix_e (k := 95 + n) (by rw [hn]; exact ix_add 95 n) (by omega) (by decide)) ?_
    refine sk_S.aload_n (i := 0) (dd DX8_tell 20 rfl) rfl rfl ?_
    refine sk_S.getr (dd DX8_tell 21 rfl) rfl fX8_9 se_54 (by decide) rfl ?_
    refine sk_S.bipush (v := 8) (dd DX8_tell 22 rfl) (by decide) ?_
    refine sk_S.dup2 (dd DX8_tell 23 rfl) rfl rfl ?_
    refine sk_S.iald (dd DX8_tell 24 rfl) se_55 (j := 8) ⟨by decide, by decide, by decide⟩ ?_
    refine sk_S.iconst (v := 1) (dd DX8_tell 25 rfl) (by decide) ?_
    refine sk_S.iadd (dd DX8_tell 26 rfl) ?_
    refine sk_S.iast (dd DX8_tell 27 rfl) se_55 (j := 8) ⟨by decide, by decide, by decide⟩ ?_
    refine sk_S.aload_n (i := 0) (dd DX8_tell 28 rfl) rfl rfl ?_
    refine sk_S.getr (dd DX8_tell 29 rfl) rfl fX8_9 se_54 (by decide) rfl ?_
    refine sk_S.bipush (v := 8) (dd DX8_tell 30 rfl) (by decide) ?_
    refine sk_S.iald (dd DX8_tell 31 rfl) se_55 (j := 8) ⟨by decide, by decide, by decide⟩ ?_
    refine sk_S.iret (dd DX8_tell 32 rfl) rfl rfl ?_
    have e1 : sk_u h 55 (95 + n) v 55 8 = nI n := by rw [sk_u_at, if_pos rfl, if_neg (by omega)]; exact hn
    refine Or.inr ⟨hlt, ?_, ?_⟩
    · rw [e1, nI_succ]
    · rw [sk_u_at, if_pos rfl, if_pos rfl, e1, nI_succ]
  · refine sk_S.aload_n (i := 0) (dd DX8_tell 6 rfl) rfl rfl ?_
    refine sk_S.ldc (dd DX8_tell 7 rfl) rfl cnX8_78 ?_
    refine sk_S.callV (dd DX8_tell 8 rfl) rfl kX8_74 (cM_error (k := 4) ⟨by decide, by decide, by decide⟩) se_54 (by decide) rfl rfl rfl rfl (Nat.le_of_ble_eq_true rfl) (fun r15 h15 q15 => ?_)
    obtain ⟨rfl, rfl⟩ := q15
    show sk_S _ _ _ _ _ _ (.int _ :: _) _ _
    refine sk_S.iret (dd DX8_tell 9 rfl) rfl rfl ?_
    refine Or.inl ⟨?_, rfl, rfl⟩
    exact (nI_eq (by omega) (by decide)).mp (hn.symm.trans c9)
set_option maxRecDepth 100000 in
set_option maxHeartbeats 4000000 in
theorem cM_body {l : Launch} {E : sk_V} {d : Nat} {h : sk_M} {i : Int32} {n : Nat} (hn : h 54 18 = nI n) (hn30 : n ≤ 30) : sk_K l E (d + 1) MX8_body [.ref 54, .int i] h (fun r h1 => (∃ j, j < n ∧ i = nI j ∧ h = h1 ∧ some (.int (h 66 j)) = r) ∨ (¬ inN i n ∧ erM h 2 h1 r)) := by
  refine sk_K.of (by decide +kernel) (Nat.le_of_ble_eq_true rfl) ?_
  show sk_S l E (d + 1) _ 0 [some (.ref 54), some (.int i)] [] h _
  refine sk_S.iload_n (i := 1) (dd DX8_body 0 rfl) rfl rfl ?_
  refine sk_S.iconst (v := 0) (dd DX8_body 1 rfl) (by decide) ?_
  refine sk_S.aload_n (i := 0) (dd DX8_body 2 rfl) rfl rfl ?_
  refine sk_S.geti (dd DX8_body 3 rfl) rfl fX8_206 se_54 (by decide) rfl ?_
  refine sk_S.iconst (v := 1) (dd DX8_body 4 rfl) (by decide) ?_
  refine sk_S.isub (dd DX8_body 5 rfl) ?_
  refine sk_S.callS (dd DX8_body 6 rfl) rfl kX8_47 cM_in rfl rfl rfl (Nat.le_of_ble_eq_true rfl) (fun r8 h8 q8 => ?_)
  obtain ⟨rfl, rfl⟩ := q8
  show sk_S _ _ _ _ _ _ (.int _ :: _) _ _
  refine sk_S.bif_eq (tgt := 23) (dd DX8_body 7 rfl) (by decide) (fun c11 => ?_) (fun c11 => ?_)
  · refine sk_S.aload_n (i := 0) (dd DX8_body 13 rfl) rfl rfl ?_
    refine sk_S.ldc (dd DX8_body 14 rfl) rfl cnX8_190 ?_
    refine sk_S.callV (dd DX8_body 15 rfl) rfl kX8_74 (cM_error (k := 2) ⟨by decide, by decide, by decide⟩) se_54 (by decide) rfl rfl rfl rfl (Nat.le_of_ble_eq_true rfl) (fun r26 h26 q26 => ?_)
    obtain ⟨rfl, rfl⟩ := q26
    show sk_S _ _ _ _ _ _ (.int _ :: _) _ _
    refine sk_S.iret (dd DX8_body 16 rfl) rfl rfl ?_
    exact Or.inr ⟨fun q => c11 (by rw [hn]; exact (inN_pred (by omega)).mpr q), rfl, rfl⟩
  · rw [hn] at c11
    obtain ⟨j, hj, rfl⟩ := (inN_pred (by omega)).mp c11
    refine sk_S.aload_n (i := 0) (dd DX8_body 8 rfl) rfl rfl ?_
    refine sk_S.getr (dd DX8_body 9 rfl) rfl fX8_43 se_54 (by decide) rfl ?_
    refine sk_S.iload_n (i := 1) (dd DX8_body 10 rfl) rfl rfl ?_
    refine sk_S.iald (dd DX8_body 11 rfl) se_66 (sk_ix_nI (k := j) rfl (by omega) (by decide)) ?_
    refine sk_S.goto (tgt := 29) (dd DX8_body 12 rfl) (by decide) ?_
    refine sk_S.iret (dd DX8_body 16 rfl) rfl rfl ?_
    exact Or.inl ⟨j, hj, rfl, rfl, rfl⟩
end M5
