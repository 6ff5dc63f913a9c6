section M1
set_option maxRecDepth 100000 in
set_option maxHeartbeats 4000000 in
/-- between two -/
theorem cM_in {l : Launch} {E : sk_V} {d : Nat} {h : sk_M} {v a b : Int32}  : sk_K l E (d + 0) MX8_in [.int v, .int a, .int b] h (fun r h1 => h = h1 ∧ some (.int (bi (a ≤ v ∧ v ≤ b))) = r) := by
  refine sk_K.of (by decide +kernel) (Nat.le_of_ble_eq_true rfl) ?_
  show sk_S l E (d + 0) _ 0 [some (.int v), some (.int a), some (.int b)] [] h _
  refine sk_S.iload_n (i := 0) (dd DX8_in 0 rfl) rfl rfl ?_
  refine sk_S.iload_n (i := 1) (dd DX8_in 1 rfl) rfl rfl ?_
  refine sk_S.icmp_lt (tgt := 14) (dd DX8_in 2 rfl) (by decide) (fun c2 => ?_) (fun c2 => ?_)
  · refine sk_S.iconst (v := 0) (dd DX8_in 8 rfl) (by decide) ?_
    refine sk_S.iret (dd DX8_in 9 rfl) rfl rfl ?_
    refine ⟨rfl, ?_⟩
    unfold bi
    simp only [Int32.lt_iff_toInt_lt, Int32.le_iff_toInt_le] at *
    (repeat' split) <;> first | rfl | (exfalso; omega)
  · refine sk_S.iload_n (i := 0) (dd DX8_in 3 rfl) rfl rfl ?_
    refine sk_S.iload_n (i := 2) (dd DX8_in 4 rfl) rfl rfl ?_
    refine sk_S.icmp_gt (tgt := 14) (dd DX8_in 5 rfl) (by decide) (fun c7 => ?_) (fun c7 => ?_)
    · refine sk_S.iconst (v := 0) (dd DX8_in 8 rfl) (by decide) ?_
      refine sk_S.iret (dd DX8_in 9 rfl) rfl rfl ?_
      refine ⟨rfl, ?_⟩
      unfold bi
      simp only [Int32.lt_iff_toInt_lt, Int32.le_iff_toInt_le] at *
      (repeat' split) <;> first | rfl | (exfalso; omega)
    · refine sk_S.iconst (v := 1) (dd DX8_in 6 rfl) (by decide) ?_
      refine sk_S.goto (tgt := 15) (dd DX8_in 7 rfl) (by decide) ?_
      refine sk_S.iret (dd DX8_in 9 rfl) rfl rfl ?_
      refine ⟨rfl, ?_⟩
      unfold bi
      simp only [Int32.lt_iff_toInt_lt, Int32.le_iff_toInt_le] at *
      (repeat' split) <;> first | rfl | (exfalso; omega)
set_option maxRecDepth 100000 in
set_option maxHeartbeats 4000000 in
theorem cM_held {l : Launch} {E : sk_V} {d : Nat} {h : sk_M} {v a b : Int32}  : sk_K l E (d + 0) MX8_held [.int v, .int a, .int b] h (fun r h1 => h = h1 ∧ some (.int (heldV v a b)) = r) := by
  refine sk_K.of (by decide +kernel) (Nat.le_of_ble_eq_true rfl) ?_
  show sk_S l E (d + 0) _ 0 [some (.int v), some (.int a), some (.int b)] [] h _
  refine sk_S.iload_n (i := 0) (dd DX8_held 0 rfl) rfl rfl ?_
  refine sk_S.iload_n (i := 1) (dd DX8_held 1 rfl) rfl rfl ?_
  refine sk_S.icmp_ge (tgt := 9) (dd DX8_held 2 rfl) (by decide) (fun c2 => ?_) (fun c2 => ?_)
  · refine sk_S.iload_n (i := 0) (dd DX8_held 5 rfl) rfl rfl ?_
    refine sk_S.iload_n (i := 2) (dd DX8_held 6 rfl) rfl rfl ?_
    refine sk_S.icmp_le (tgt := 18) (dd DX8_held 7 rfl) (by decide) (fun c11 => ?_) (fun c11 => ?_)
    · refine sk_S.iload_n (i := 0) (dd DX8_held 10 rfl) rfl rfl ?_
      refine sk_S.iret (dd DX8_held 11 rfl) rfl rfl ?_
      refine ⟨rfl, ?_⟩
      unfold heldV
      simp only [Int32.lt_iff_toInt_lt, Int32.le_iff_toInt_le] at *
      (repeat' split) <;> first | rfl | (exfalso; omega)
    · refine sk_S.iload_n (i := 2) (dd DX8_held 8 rfl) rfl rfl ?_
      refine sk_S.goto (tgt := 19) (dd DX8_held 9 rfl) (by decide) ?_
      refine sk_S.iret (dd DX8_held 11 rfl) rfl rfl ?_
      refine ⟨rfl, ?_⟩
      unfold heldV
      simp only [Int32.lt_iff_toInt_lt, Int32.le_iff_toInt_le] at *
      (repeat' split) <;> first | rfl | (exfalso; omega)
  · refine sk_S.iload_n (i := 1) (dd DX8_held 3 rfl) rfl rfl ?_
    refine sk_S.goto (tgt := 19) (dd DX8_held 4 rfl) (by decide) ?_
    refine sk_S.iret (dd DX8_held 11 rfl) rfl rfl ?_
    refine ⟨rfl, ?_⟩
    unfold heldV
    simp only [Int32.lt_iff_toInt_lt, Int32.le_iff_toInt_le] at *
    (repeat' split) <;> first | rfl | (exfalso; omega)
set_option maxRecDepth 100000 in
set_option maxHeartbeats 4000000 in
theorem cM_isFish {l : Launch} {E : sk_V} {d : Nat} {h : sk_M} {f : Int32}  : sk_K l E (d + 1) MX8_isFish [.int f] h (fun r h1 => h = h1 ∧ some (.int (bi (0 ≤ f ∧ f ≤ 3))) = r) := by
  refine sk_K.of (by decide +kernel) (Nat.le_of_ble_eq_true rfl) ?_
  show sk_S l E (d + 1) _ 0 [some (.int f)] [] h _
  refine sk_S.iload_n (i := 0) (dd DX8_isFish 0 rfl) rfl rfl ?_
  refine sk_S.iconst (v := 0) (dd DX8_isFish 1 rfl) (by decide) ?_
  refine sk_S.iconst (v := 3) (dd DX8_isFish 2 rfl) (by decide) ?_
  refine sk_S.callS (dd DX8_isFish 3 rfl) rfl kX8_47 cM_in rfl rfl rfl (Nat.le_of_ble_eq_true rfl) (fun r3 h3 q3 => ?_)
  obtain ⟨rfl, rfl⟩ := q3
  show sk_S _ _ _ _ _ _ (.int _ :: _) _ _
  refine sk_S.iret (dd DX8_isFish 4 rfl) rfl bi_narrow ?_
  exact ⟨rfl, rfl⟩
set_option maxRecDepth 100000 in
set_option maxHeartbeats 4000000 in
theorem cM_isSheet {l : Launch} {E : sk_V} {d : Nat} {h : sk_M} {f : Int32}  : sk_K l E (d + 1) MX8_isSheet [.int f] h (fun r h1 => h = h1 ∧ some (.int (bi (0 ≤ f ∧ f ≤ 3))) = r) := by
  refine sk_K.of (by decide +kernel) (Nat.le_of_ble_eq_true rfl) ?_
  show sk_S l E (d + 1) _ 0 [some (.int f)] [] h _
  refine sk_S.iload_n (i := 0) (dd DX8_isSheet 0 rfl) rfl rfl ?_
  refine sk_S.iconst (v := 0) (dd DX8_isSheet 1 rfl) (by decide) ?_
  refine sk_S.iconst (v := 3) (dd DX8_isSheet 2 rfl) (by decide) ?_
  refine sk_S.callS (dd DX8_isSheet 3 rfl) rfl kX8_47 cM_in rfl rfl rfl (Nat.le_of_ble_eq_true rfl) (fun r3 h3 q3 => ?_)
  obtain ⟨rfl, rfl⟩ := q3
  show sk_S _ _ _ _ _ _ (.int _ :: _) _ _
  refine sk_S.iret (dd DX8_isSheet 4 rfl) rfl bi_narrow ?_
  exact ⟨rfl, rfl⟩
set_option maxRecDepth 100000 in
set_option maxHeartbeats 4000000 in
theorem cM_isKm {l : Launch} {E : sk_V} {d : Nat} {h : sk_M} {f : Int32}  : sk_K l E (d + 1) MX8_isKm [.int f] h (fun r h1 => h = h1 ∧ some (.int (bi (0 ≤ f ∧ f ≤ 69))) = r) := by
  refine sk_K.of (by decide +kernel) (Nat.le_of_ble_eq_true rfl) ?_
  show sk_S l E (d + 1) _ 0 [some (.int f)] [] h _
  refine sk_S.iload_n (i := 0) (dd DX8_isKm 0 rfl) rfl rfl ?_
  refine sk_S.iconst (v := 0) (dd DX8_isKm 1 rfl) (by decide) ?_
  refine sk_S.bipush (v := 69) (dd DX8_isKm 2 rfl) (by decide) ?_
  refine sk_S.callS (dd DX8_isKm 3 rfl) rfl kX8_47 cM_in rfl rfl rfl (Nat.le_of_ble_eq_true rfl) (fun r4 h4 q4 => ?_)
  obtain ⟨rfl, rfl⟩ := q4
  show sk_S _ _ _ _ _ _ (.int _ :: _) _ _
  refine sk_S.iret (dd DX8_isKm 4 rfl) rfl bi_narrow ?_
  exact ⟨rfl, rfl⟩
set_option maxRecDepth 100000 in
set_option maxHeartbeats 4000000 in
theorem cM_isBoat {l : Launch} {E : sk_V} {d : Nat} {h : sk_M} {b : Int32}  : sk_K l E (d + 1) MX8_isBoat [.ref 54, .int b] h (fun r h1 => h = h1 ∧ some (.int (bi (0 ≤ b ∧ b ≤ h 55 2 - 1))) = r) := by
  refine sk_K.of (by decide +kernel) (Nat.le_of_ble_eq_true rfl) ?_
  show sk_S l E (d + 1) _ 0 [some (.ref 54), some (.int b)] [] h _
  refine sk_S.iload_n (i := 1) (dd DX8_isBoat 0 rfl) rfl rfl ?_
  refine sk_S.iconst (v := 0) (dd DX8_isBoat 1 rfl) (by decide) ?_
  refine sk_S.aload_n (i := 0) (dd DX8_isBoat 2 rfl) rfl rfl ?_
  refine sk_S.getr (dd DX8_isBoat 3 rfl) rfl fX8_9 se_54 (by decide) rfl ?_
  refine sk_S.iconst (v := 2) (dd DX8_isBoat 4 rfl) (by decide) ?_
  refine sk_S.iald (dd DX8_isBoat 5 rfl) se_55 (j := 2) ⟨by decide, by decide, by decide⟩ ?_
  refine sk_S.iconst (v := 1) (dd DX8_isBoat 6 rfl) (by decide) ?_
  refine sk_S.isub (dd DX8_isBoat 7 rfl) ?_
  refine sk_S.callS (dd DX8_isBoat 8 rfl) rfl kX8_47 cM_in rfl rfl rfl (Nat.le_of_ble_eq_true rfl) (fun r10 h10 q10 => ?_)
  obtain ⟨rfl, rfl⟩ := q10
  show sk_S _ _ _ _ _ _ (.int _ :: _) _ _
  refine sk_S.iret (dd DX8_isBoat 9 rfl) rfl bi_narrow ?_
  exact ⟨rfl, rfl⟩
set_option maxRecDepth 100000 in
set_option maxHeartbeats 4000000 in
theorem cM_becomes {l : Launch} {E : sk_V} {d : Nat} {h : sk_M} {x v : Int32} {j : Nat} (hj : sk_ix x j 361) : sk_K l E (d + 0) MX8_becomes [.ref 54, .int x, .int v] h (fun r h1 => sk_u h 55 j v = h1 ∧ some (.int (h 55 j)) = r) := by
  refine sk_K.of (by decide +kernel) (Nat.le_of_ble_eq_true rfl) ?_
  show sk_S l E (d + 0) _ 0 [some (.ref 54), some (.int x), some (.int v), none] [] h _
  refine sk_S.aload_n (i := 0) (dd DX8_becomes 0 rfl) rfl rfl ?_
  refine sk_S.getr (dd DX8_becomes 1 rfl) rfl fX8_9 se_54 (by decide) rfl ?_
  refine sk_S.iload_n (i := 1) (dd DX8_becomes 2 rfl) rfl rfl ?_
  refine sk_S.iald (dd DX8_becomes 3 rfl) se_55 hj ?_
  refine sk_S.istore_n (i := 3) (dd DX8_becomes 4 rfl) rfl (Nat.le_of_ble_eq_true rfl) rfl ?_
  refine sk_S.aload_n (i := 0) (dd DX8_becomes 5 rfl) rfl rfl ?_
  refine sk_S.getr (dd DX8_becomes 6 rfl) rfl fX8_9 se_54 (by decide) rfl ?_
  refine sk_S.iload_n (i := 1) (dd DX8_becomes 7 rfl) rfl rfl ?_
  refine sk_S.iload_n (i := 2) (dd DX8_becomes 8 rfl) rfl rfl ?_
  refine sk_S.iast (dd DX8_becomes 9 rfl) se_55 hj ?_
  refine sk_S.iload_n (i := 3) (dd DX8_becomes 10 rfl) rfl rfl ?_
  refine sk_S.iret (dd DX8_becomes 11 rfl) rfl rfl ?_
  exact ⟨rfl, rfl⟩
set_option maxRecDepth 100000 in
set_option maxHeartbeats 4000000 in
theorem cM_of {l : Launch} {E : sk_V} {d : Nat} {h : sk_M} {j w : Nat} (hj : 17 + 3 * j + w < 361) : sk_K l E (d + 0) MX8_of [.ref 54, .int (nI j), .int (nI w)] h (fun r h1 => h = h1 ∧ some (.int (h 55 (17 + 3 * j + w))) = r) := by
  refine sk_K.of (by decide +kernel) (Nat.le_of_ble_eq_true rfl) ?_
  show sk_S l E (d + 0) _ 0 [some (.ref 54), some (.int (nI j)), some (.int (nI w))] [] h _
  refine sk_S.aload_n (i := 0) (dd DX8_of 0 rfl) rfl rfl ?_
  refine sk_S.getr (dd DX8_of 1 rfl) rfl fX8_9 se_54 (by decide) rfl ?_
  refine sk_S.bipush (v := 17) (dd DX8_of 2 rfl) (by decide) ?_
  refine sk_S.iconst (v := 3) (dd DX8_of 3 rfl) (by decide) ?_
  refine sk_S.iload_n (i := 1) (dd DX8_of 4 rfl) rfl rfl ?_
  refine sk_S.imul (dd DX8_of 5 rfl) ?_
  refine sk_S.iadd (dd DX8_of 6 rfl) ?_
  refine sk_S.iload_n (i := 2) (dd DX8_of 7 rfl) rfl rfl ?_
  refine sk_S.iadd (dd DX8_of 8 rfl) ?_
  refine sk_S.iald (dd DX8_of 9 rfl) se_55 (sk_ix_e (ix_of j w) hj (by decide)) ?_
  refine sk_S.iret (dd DX8_of 10 rfl) rfl rfl ?_
  exact ⟨rfl, rfl⟩
set_option maxRecDepth 100000 in
set_option maxHeartbeats 4000000 in
theorem cM_error {l : Launch} {E : sk_V} {d : Nat} {h : sk_M} {x : Int32} {k : Nat} (hk : sk_ix (-1000000000 - x) k 7) : sk_K l E (d + 0) MX8_error [.ref 54, .int x] h (fun r h1 => sk_u h 57 k (h 57 k + 1) = h1 ∧ some (.int x) = r) := by
  refine sk_K.of (by decide +kernel) (Nat.le_of_ble_eq_true rfl) ?_
  show sk_S l E (d + 0) _ 0 [some (.ref 54), some (.int x)] [] h _
  refine sk_S.aload_n (i := 0) (dd DX8_error 0 rfl) rfl rfl ?_
  refine sk_S.getr (dd DX8_error 1 rfl) rfl fX8_16 se_54 (by decide) rfl ?_
  refine sk_S.ldc (dd DX8_error 2 rfl) rfl cnX8_46 ?_
  refine sk_S.iload_n (i := 1) (dd DX8_error 3 rfl) rfl rfl ?_
  refine sk_S.isub (dd DX8_error 4 rfl) ?_
  refine sk_S.dup2 (dd DX8_error 5 rfl) rfl rfl ?_
  refine sk_S.iald (dd DX8_error 6 rfl) se_57 hk ?_
  refine sk_S.iconst (v := 1) (dd DX8_error 7 rfl) (by decide) ?_
  refine sk_S.iadd (dd DX8_error 8 rfl) ?_
  refine sk_S.iast (dd DX8_error 9 rfl) se_57 hk ?_
  refine sk_S.iload_n (i := 1) (dd DX8_error 10 rfl) rfl rfl ?_
  refine sk_S.iret (dd DX8_error 11 rfl) rfl rfl ?_
  exact ⟨rfl, rfl⟩
set_option maxRecDepth 100000 in
set_option maxHeartbeats 4000000 in
theorem cM_haulsOf {l : Launch} {E : sk_V} {d : Nat} {h : sk_M} {j : Nat} {f : Int32} (hj : j < 6) : sk_K l E (d + 1) MX8_haulsOf [.ref 54, .int (nI j), .int f] h (fun r h1 => h = h1 ∧ some (.int (haulsV (h 55 (17 + 3 * j)) (h 55 (17 + 3 * j + 1)) (h 55 3) (h 55 0) f)) = r) := by
  refine sk_K.of (by decide +kernel) (Nat.le_of_ble_eq_true rfl) ?_
  show sk_S l E (d + 1) _ 0 [some (.ref 54), some (.int (nI j)), some (.int f), none, none] [] h _
  refine sk_S.aload_n (i := 0) (dd DX8_haulsOf 0 rfl) rfl rfl ?_
  refine sk_S.iload_n (i := 1) (dd DX8_haulsOf 1 rfl) rfl rfl ?_
  refine sk_S.iconst (v := 1) (dd DX8_haulsOf 2 rfl) (by decide) ?_
  refine sk_S.callV (dd DX8_haulsOf 3 rfl) rfl kX8_51 (cM_of (j := j) (w := 1) (by omega)) se_54 (by decide) rfl rfl rfl rfl (Nat.le_of_ble_eq_true rfl) (fun r3 h3 q3 => ?_)
  obtain ⟨rfl, rfl⟩ := q3
  show sk_S _ _ _ _ _ _ (.int _ :: _) _ _
  refine sk_S.istore_n (i := 3) (dd DX8_haulsOf 4 rfl) rfl (Nat.le_of_ble_eq_true rfl) rfl ?_
  refine sk_S.iconst (v := 5) (dd DX8_haulsOf 5 rfl) (by decide) ?_
  refine sk_S.iload_n (i := 3) (dd DX8_haulsOf 6 rfl) rfl rfl ?_
  refine sk_S.iadd (dd DX8_haulsOf 7 rfl) ?_
  refine sk_S.aload_n (i := 0) (dd DX8_haulsOf 8 rfl) rfl rfl ?_
  refine sk_S.getr (dd DX8_haulsOf 9 rfl) rfl fX8_9 se_54 (by decide) rfl ?_
  refine sk_S.iconst (v := 3) (dd DX8_haulsOf 10 rfl) (by decide) ?_
  refine sk_S.iald (dd DX8_haulsOf 11 rfl) se_55 (j := 3) ⟨by decide, by decide, by decide⟩ ?_
  refine sk_S.isub (dd DX8_haulsOf 12 rfl) ?_
  refine sk_S.istore (i := 4) (dd DX8_haulsOf 13 rfl) (Nat.le_of_ble_eq_true rfl) rfl ?_
  refine sk_S.aload_n (i := 0) (dd DX8_haulsOf 14 rfl) rfl rfl ?_
  refine sk_S.iload_n (i := 1) (dd DX8_haulsOf 15 rfl) rfl rfl ?_
  refine sk_S.iconst (v := 0) (dd DX8_haulsOf 16 rfl) (by decide) ?_
  refine sk_S.callV (dd DX8_haulsOf 17 rfl) rfl kX8_51 (cM_of (j := j) (w := 0) (by omega)) se_54 (by decide) rfl rfl rfl rfl (Nat.le_of_ble_eq_true rfl) (fun r22 h22 q22 => ?_)
  obtain ⟨rfl, rfl⟩ := q22
  show sk_S _ _ _ _ _ _ (.int _ :: _) _ _
  refine sk_S.tabL (dd DX8_haulsOf 18 rfl) rfl (by decide) (by decide) (by decide) (fun j25 hj25 e25 => ?_) (fun e25 => ?_)
  · rcases j25 with _ | _ | _ | _ | _ | _ | j25
    · show sk_S _ _ _ _ 64 _ _ _ _
      replace e25 : _ = (1 : Int32) := e25
      refine sk_S.iload (i := 4) (dd DX8_haulsOf 19 rfl) rfl ?_
      refine sk_S.iconst (v := 5) (dd DX8_haulsOf 20 rfl) (by decide) ?_
      refine sk_S.iadd (dd DX8_haulsOf 21 rfl) ?_
      refine sk_S.iret (dd DX8_haulsOf 22 rfl) rfl rfl ?_
      refine ⟨rfl, ?_⟩
      (try simp only [Nat.add_zero] at *)
      simp [haulsV, *]
    · show sk_S _ _ _ _ 69 _ _ _ _
      replace e25 : _ = (2 : Int32) := e25
      refine sk_S.iload (i := 4) (dd DX8_haulsOf 23 rfl) rfl ?_
      refine sk_S.iconst (v := 2) (dd DX8_haulsOf 24 rfl) (by decide) ?_
      refine sk_S.idiv (dd DX8_haulsOf 25 rfl) (by decide) ?_
      refine sk_S.iret (dd DX8_haulsOf 26 rfl) rfl rfl ?_
      refine ⟨rfl, ?_⟩
      (try simp only [Nat.add_zero] at *)
      simp [haulsV, *]
    · show sk_S _ _ _ _ 74 _ _ _ _
      replace e25 : _ = (3 : Int32) := e25
      refine sk_S.iload_n (i := 2) (dd DX8_haulsOf 27 rfl) rfl rfl ?_
      refine sk_S.iload_n (i := 3) (dd DX8_haulsOf 28 rfl) rfl rfl ?_
      refine sk_S.iconst (v := 4) (dd DX8_haulsOf 29 rfl) (by decide) ?_
      refine sk_S.irem (dd DX8_haulsOf 30 rfl) (by decide) ?_
      refine sk_S.icmp_ne (tgt := 88) (dd DX8_haulsOf 31 rfl) (by decide) (fun c78 => ?_) (fun c78 => ?_)
      · refine sk_S.iload (i := 4) (dd DX8_haulsOf 36 rfl) rfl ?_
        refine sk_S.iconst (v := 2) (dd DX8_haulsOf 37 rfl) (by decide) ?_
        refine sk_S.idiv (dd DX8_haulsOf 38 rfl) (by decide) ?_
        refine sk_S.iret (dd DX8_haulsOf 39 rfl) rfl rfl ?_
        refine ⟨rfl, ?_⟩
        (try simp only [Nat.add_zero] at *)
        simp [haulsV, *]
      · refine sk_S.iconst (v := 2) (dd DX8_haulsOf 32 rfl) (by decide) ?_
        refine sk_S.iload (i := 4) (dd DX8_haulsOf 33 rfl) rfl ?_
        refine sk_S.imul (dd DX8_haulsOf 34 rfl) ?_
        refine sk_S.goto (tgt := 92) (dd DX8_haulsOf 35 rfl) (by decide) ?_
        refine sk_S.iret (dd DX8_haulsOf 39 rfl) rfl rfl ?_
        refine ⟨rfl, ?_⟩
        (try simp only [Nat.add_zero] at *)
        simp [haulsV, *]
    · show sk_S _ _ _ _ 93 _ _ _ _
      replace e25 : _ = (4 : Int32) := e25
      refine sk_S.iload (i := 4) (dd DX8_haulsOf 40 rfl) rfl ?_
      refine sk_S.iconst (v := 5) (dd DX8_haulsOf 41 rfl) (by decide) ?_
      refine sk_S.iadd (dd DX8_haulsOf 42 rfl) ?_
      refine sk_S.aload_n (i := 0) (dd DX8_haulsOf 43 rfl) rfl rfl ?_
      refine sk_S.getr (dd DX8_haulsOf 44 rfl) rfl fX8_9 se_54 (by decide) rfl ?_
      refine sk_S.iconst (v := 0) (dd DX8_haulsOf 45 rfl) (by decide) ?_
      refine sk_S.iald (dd DX8_haulsOf 46 rfl) se_55 (j := 0) ⟨by decide, by decide, by decide⟩ ?_
      refine sk_S.iconst (v := 5) (dd DX8_haulsOf 47 rfl) (by decide) ?_
      refine sk_S.irem (dd DX8_haulsOf 48 rfl) (by decide) ?_
      refine sk_S.iadd (dd DX8_haulsOf 49 rfl) ?_
      refine sk_S.iret (dd DX8_haulsOf 50 rfl) rfl rfl ?_
      refine ⟨rfl, ?_⟩
      (try simp only [Nat.add_zero] at *)
      simp [haulsV, *]
    · show sk_S _ _ _ _ 107 _ _ _ _
      replace e25 : _ = (5 : Int32) := e25
      refine sk_S.aload_n (i := 0) (dd DX8_haulsOf 51 rfl) rfl rfl ?_
      refine sk_S.getr (dd DX8_haulsOf 52 rfl) rfl fX8_9 se_54 (by decide) rfl ?_
      refine sk_S.iconst (v := 3) (dd DX8_haulsOf 53 rfl) (by decide) ?_
      refine sk_S.iald (dd DX8_haulsOf 54 rfl) se_55 (j := 3) ⟨by decide, by decide, by decide⟩ ?_
      refine sk_S.bipush (v := 6) (dd DX8_haulsOf 55 rfl) (by decide) ?_
      refine sk_S.icmp_le (tgt := 122) (dd DX8_haulsOf 56 rfl) (by decide) (fun c115 => ?_) (fun c115 => ?_)
      · refine sk_S.iload (i := 4) (dd DX8_haulsOf 59 rfl) rfl ?_
        refine sk_S.iconst (v := 2) (dd DX8_haulsOf 60 rfl) (by decide) ?_
        refine sk_S.idiv (dd DX8_haulsOf 61 rfl) (by decide) ?_
        refine sk_S.iload_n (i := 2) (dd DX8_haulsOf 62 rfl) rfl rfl ?_
        refine sk_S.iadd (dd DX8_haulsOf 63 rfl) ?_
        refine sk_S.iret (dd DX8_haulsOf 64 rfl) rfl rfl ?_
        refine ⟨rfl, ?_⟩
        (try simp only [Nat.add_zero] at *)
        simp [haulsV, *]
      · refine sk_S.iconst (v := 0) (dd DX8_haulsOf 57 rfl) (by decide) ?_
        refine sk_S.goto (tgt := 128) (dd DX8_haulsOf 58 rfl) (by decide) ?_
        refine sk_S.iret (dd DX8_haulsOf 64 rfl) rfl rfl ?_
        refine ⟨rfl, ?_⟩
        (try simp only [Nat.add_zero] at *)
        simp [haulsV, *]
    · show sk_S _ _ _ _ 129 _ _ _ _
      replace e25 : _ = (6 : Int32) := e25
      refine sk_S.bipush (v := 20) (dd DX8_haulsOf 65 rfl) (by decide) ?_
      refine sk_S.iload_n (i := 3) (dd DX8_haulsOf 66 rfl) rfl rfl ?_
      refine sk_S.isub (dd DX8_haulsOf 67 rfl) ?_
      refine sk_S.iconst (v := 2) (dd DX8_haulsOf 68 rfl) (by decide) ?_
      refine sk_S.aload_n (i := 0) (dd DX8_haulsOf 69 rfl) rfl rfl ?_
      refine sk_S.getr (dd DX8_haulsOf 70 rfl) rfl fX8_9 se_54 (by decide) rfl ?_
      refine sk_S.iconst (v := 3) (dd DX8_haulsOf 71 rfl) (by decide) ?_
      refine sk_S.iald (dd DX8_haulsOf 72 rfl) se_55 (j := 3) ⟨by decide, by decide, by decide⟩ ?_
      refine sk_S.imul (dd DX8_haulsOf 73 rfl) ?_
      refine sk_S.isub (dd DX8_haulsOf 74 rfl) ?_
      refine sk_S.iload_n (i := 2) (dd DX8_haulsOf 75 rfl) rfl rfl ?_
      refine sk_S.isub (dd DX8_haulsOf 76 rfl) ?_
      refine sk_S.iret (dd DX8_haulsOf 77 rfl) rfl rfl ?_
      refine ⟨rfl, ?_⟩
      (try simp only [Nat.add_zero] at *)
      simp [haulsV, *]
    · exact absurd hj25 (by simp)
  · show sk_S _ _ _ _ 145 _ _ _ _
    have e25_ := (⟨e25 0 (by decide), e25 1 (by decide), e25 2 (by decide), e25 3 (by decide), e25 4 (by decide), e25 5 (by decide)⟩ : ¬ _ = (1 : Int32) ∧ ¬ _ = (2 : Int32) ∧ ¬ _ = (3 : Int32) ∧ ¬ _ = (4 : Int32) ∧ ¬ _ = (5 : Int32) ∧ ¬ _ = (6 : Int32))
    refine sk_S.iload (i := 4) (dd DX8_haulsOf 78 rfl) rfl ?_
    refine sk_S.iret (dd DX8_haulsOf 79 rfl) rfl rfl ?_
    refine ⟨rfl, ?_⟩
    (try simp only [Nat.add_zero] at *)
    simp [haulsV, *]
set_option maxRecDepth 100000 in
set_option maxHeartbeats 4000000 in
theorem cM_eatsOf {l : Launch} {E : sk_V} {d : Nat} {h : sk_M} {j : Nat} (hj : j < 6) : sk_K l E (d + 1) MX8_eatsOf [.ref 54, .int (nI j)] h (fun r h1 => h = h1 ∧ some (.int (eatsV (h 55 (17 + 3 * j)) (h 55 0))) = r) := by
  refine sk_K.of (by decide +kernel) (Nat.le_of_ble_eq_true rfl) ?_
  show sk_S l E (d + 1) _ 0 [some (.ref 54), some (.int (nI j))] [] h _
  refine sk_S.aload_n (i := 0) (dd DX8_eatsOf 0 rfl) rfl rfl ?_
  refine sk_S.iload_n (i := 1) (dd DX8_eatsOf 1 rfl) rfl rfl ?_
  refine sk_S.iconst (v := 0) (dd DX8_eatsOf 2 rfl) (by decide) ?_
  refine sk_S.callV (dd DX8_eatsOf 3 rfl) rfl kX8_51 (cM_of (j := j) (w := 0) (by omega)) se_54 (by decide) rfl rfl rfl rfl (Nat.le_of_ble_eq_true rfl) (fun r3 h3 q3 => ?_)
  obtain ⟨rfl, rfl⟩ := q3
  show sk_S _ _ _ _ _ _ (.int _ :: _) _ _
  refine sk_S.tabL (dd DX8_eatsOf 4 rfl) rfl (by decide) (by decide) (by decide) (fun j6 hj6 e6 => ?_) (fun e6 => ?_)
  · rcases j6 with _ | _ | _ | _ | _ | _ | j6
    · show sk_S _ _ _ _ 44 _ _ _ _
      replace e6 : _ = (1 : Int32) := e6
      refine sk_S.iconst (v := 2) (dd DX8_eatsOf 5 rfl) (by decide) ?_
      refine sk_S.iret (dd DX8_eatsOf 6 rfl) rfl rfl ?_
      refine ⟨rfl, ?_⟩
      (try simp only [Nat.add_zero] at *)
      simp [eatsV, *]
    · show sk_S _ _ _ _ 61 _ _ _ _
      replace e6 : _ = (2 : Int32) := e6
      refine sk_S.iconst (v := 1) (dd DX8_eatsOf 20 rfl) (by decide) ?_
      refine sk_S.iret (dd DX8_eatsOf 21 rfl) rfl rfl ?_
      refine ⟨rfl, ?_⟩
      (try simp only [Nat.add_zero] at *)
      simp [eatsV, *]
    · show sk_S _ _ _ _ 46 _ _ _ _
      replace e6 : _ = (3 : Int32) := e6
      refine sk_S.iconst (v := 1) (dd DX8_eatsOf 7 rfl) (by decide) ?_
      refine sk_S.aload_n (i := 0) (dd DX8_eatsOf 8 rfl) rfl rfl ?_
      refine sk_S.getr (dd DX8_eatsOf 9 rfl) rfl fX8_9 se_54 (by decide) rfl ?_
      refine sk_S.iconst (v := 0) (dd DX8_eatsOf 10 rfl) (by decide) ?_
      refine sk_S.iald (dd DX8_eatsOf 11 rfl) se_55 (j := 0) ⟨by decide, by decide, by decide⟩ ?_
      refine sk_S.iconst (v := 2) (dd DX8_eatsOf 12 rfl) (by decide) ?_
      refine sk_S.irem (dd DX8_eatsOf 13 rfl) (by decide) ?_
      refine sk_S.iadd (dd DX8_eatsOf 14 rfl) ?_
      refine sk_S.iret (dd DX8_eatsOf 15 rfl) rfl rfl ?_
      refine ⟨rfl, ?_⟩
      (try simp only [Nat.add_zero] at *)
      simp [eatsV, *]
    · show sk_S _ _ _ _ 57 _ _ _ _
      replace e6 : _ = (4 : Int32) := e6
      refine sk_S.iconst (v := 4) (dd DX8_eatsOf 16 rfl) (by decide) ?_
      refine sk_S.iret (dd DX8_eatsOf 17 rfl) rfl rfl ?_
      refine ⟨rfl, ?_⟩
      (try simp only [Nat.add_zero] at *)
      simp [eatsV, *]
    · show sk_S _ _ _ _ 59 _ _ _ _
      replace e6 : _ = (5 : Int32) := e6
      refine sk_S.iconst (v := 0) (dd DX8_eatsOf 18 rfl) (by decide) ?_
      refine sk_S.iret (dd DX8_eatsOf 19 rfl) rfl rfl ?_
      refine ⟨rfl, ?_⟩
      (try simp only [Nat.add_zero] at *)
      simp [eatsV, *]
    · show sk_S _ _ _ _ 57 _ _ _ _
      replace e6 : _ = (6 : Int32) := e6
      refine sk_S.iconst (v := 4) (dd DX8_eatsOf 16 rfl) (by decide) ?_
      refine sk_S.iret (dd DX8_eatsOf 17 rfl) rfl rfl ?_
      refine ⟨rfl, ?_⟩
      (try simp only [Nat.add_zero] at *)
      simp [eatsV, *]
    · exact absurd hj6 (by simp)
  · show sk_S _ _ _ _ 61 _ _ _ _
    have e6_ := (⟨e6 0 (by decide), e6 1 (by decide), e6 2 (by decide), e6 3 (by decide), e6 4 (by decide), e6 5 (by decide)⟩ : ¬ _ = (1 : Int32) ∧ ¬ _ = (2 : Int32) ∧ ¬ _ = (3 : Int32) ∧ ¬ _ = (4 : Int32) ∧ ¬ _ = (5 : Int32) ∧ ¬ _ = (6 : Int32))
    refine sk_S.iconst (v := 1) (dd DX8_eatsOf 20 rfl) (by decide) ?_
    refine sk_S.iret (dd DX8_eatsOf 21 rfl) rfl rfl ?_
    refine ⟨rfl, ?_⟩
    (try simp only [Nat.add_zero] at *)
    simp [eatsV, *]
end M1
