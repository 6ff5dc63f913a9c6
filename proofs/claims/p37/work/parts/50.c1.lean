section C1
set_option maxRecDepth 100000 in
set_option maxHeartbeats 4000000 in
theorem cC_held {l : Launch} {E : sk_V} {d : Nat} {h : sk_M} {v a b : Int32} (hab : a ≤ b) : sk_K l E (d + 1) MX7_held [.int v, .int a, .int b] h (fun r h1 => h = h1 ∧ some (.int (heldV v a b)) = r) := by
  refine sk_K.of (by decide +kernel) (Nat.le_of_ble_eq_true rfl) ?_
  show sk_S l E (d + 1) _ 0 [some (.int v), some (.int a), some (.int b)] [] h _
  refine sk_S.iload_n (i := 1) (dd DX7_held 0 rfl) rfl rfl ?_
  refine sk_S.iload_n (i := 2) (dd DX7_held 1 rfl) rfl rfl ?_
  refine sk_S.iload_n (i := 0) (dd DX7_held 2 rfl) rfl rfl ?_
  refine sk_S.mmin (dd DX7_held 3 rfl) rfl blX7_259 mm_min_s mm_i mm_min_c rfl (Nat.le_of_ble_eq_true rfl) ?_
  refine sk_S.mmax (dd DX7_held 4 rfl) rfl blX7_287 mm_max_s mm_i mm_max_c rfl (Nat.le_of_ble_eq_true rfl) ?_
  refine sk_S.iret (dd DX7_held 5 rfl) rfl rfl ?_
  refine ⟨rfl, ?_⟩
  rw [heldC hab]
set_option maxRecDepth 100000 in
set_option maxHeartbeats 4000000 in
theorem cC_isWithin {l : Launch} {E : sk_V} {d : Nat} {h : sk_M} {v a : Int32}  : sk_K l E (d + 0) MX7_isWithin [.int v, .int a] h (fun r h1 => h = h1 ∧ some (.int (bi (0 ≤ v ∧ v ≤ a))) = r) := by
  refine sk_K.of (by decide +kernel) (Nat.le_of_ble_eq_true rfl) ?_
  show sk_S l E (d + 0) _ 0 [some (.int v), some (.int a)] [] h _
  refine sk_S.iload_n (i := 0) (dd DX7_isWithin 0 rfl) rfl rfl ?_
  refine sk_S.if_lt (tgt := 13) (dd DX7_isWithin 1 rfl) (by decide) (fun c1 => ?_) (fun c1 => ?_)
  · refine sk_S.iconst (v := 0) (dd DX7_isWithin 7 rfl) (by decide) ?_
    refine sk_S.iret (dd DX7_isWithin 8 rfl) rfl rfl ?_
    refine ⟨rfl, ?_⟩
    unfold bi
    simp only [Int32.lt_iff_toInt_lt, Int32.le_iff_toInt_le] at *
    split <;> first | rfl | (exfalso; omega)
  · refine sk_S.iload_n (i := 0) (dd DX7_isWithin 2 rfl) rfl rfl ?_
    refine sk_S.iload_n (i := 1) (dd DX7_isWithin 3 rfl) rfl rfl ?_
    refine sk_S.icmp_gt (tgt := 13) (dd DX7_isWithin 4 rfl) (by decide) (fun c6 => ?_) (fun c6 => ?_)
    · refine sk_S.iconst (v := 0) (dd DX7_isWithin 7 rfl) (by decide) ?_
      refine sk_S.iret (dd DX7_isWithin 8 rfl) rfl rfl ?_
      refine ⟨rfl, ?_⟩
      unfold bi
      simp only [Int32.lt_iff_toInt_lt, Int32.le_iff_toInt_le] at *
      split <;> first | rfl | (exfalso; omega)
    · refine sk_S.iconst (v := 1) (dd DX7_isWithin 5 rfl) (by decide) ?_
      refine sk_S.goto (tgt := 14) (dd DX7_isWithin 6 rfl) (by decide) ?_
      refine sk_S.iret (dd DX7_isWithin 8 rfl) rfl rfl ?_
      refine ⟨rfl, ?_⟩
      unfold bi
      simp only [Int32.lt_iff_toInt_lt, Int32.le_iff_toInt_le] at *
      split <;> first | rfl | (exfalso; omega)
set_option maxRecDepth 100000 in
set_option maxHeartbeats 4000000 in
theorem cC_isFish {l : Launch} {E : sk_V} {d : Nat} {h : sk_M} {v : Int32}  : sk_K l E (d + 0) MX7_isFish [.int v] h (fun r h1 => h = h1 ∧ some (.int (bi (0 ≤ v ∧ v < 4))) = r) := by
  refine sk_K.of (by decide +kernel) (Nat.le_of_ble_eq_true rfl) ?_
  show sk_S l E (d + 0) _ 0 [some (.int v)] [] h _
  refine sk_S.iload_n (i := 0) (dd DX7_isFish 0 rfl) rfl rfl ?_
  refine sk_S.if_lt (tgt := 13) (dd DX7_isFish 1 rfl) (by decide) (fun c1 => ?_) (fun c1 => ?_)
  · refine sk_S.iconst (v := 0) (dd DX7_isFish 7 rfl) (by decide) ?_
    refine sk_S.iret (dd DX7_isFish 8 rfl) rfl rfl ?_
    refine ⟨rfl, ?_⟩
    unfold bi
    simp only [Int32.lt_iff_toInt_lt, Int32.le_iff_toInt_le] at *
    split <;> first | rfl | (exfalso; omega)
  · refine sk_S.iload_n (i := 0) (dd DX7_isFish 2 rfl) rfl rfl ?_
    refine sk_S.iconst (v := 4) (dd DX7_isFish 3 rfl) (by decide) ?_
    refine sk_S.icmp_ge (tgt := 13) (dd DX7_isFish 4 rfl) (by decide) (fun c6 => ?_) (fun c6 => ?_)
    · refine sk_S.iconst (v := 0) (dd DX7_isFish 7 rfl) (by decide) ?_
      refine sk_S.iret (dd DX7_isFish 8 rfl) rfl rfl ?_
      refine ⟨rfl, ?_⟩
      unfold bi
      simp only [Int32.lt_iff_toInt_lt, Int32.le_iff_toInt_le] at *
      split <;> first | rfl | (exfalso; omega)
    · refine sk_S.iconst (v := 1) (dd DX7_isFish 5 rfl) (by decide) ?_
      refine sk_S.goto (tgt := 14) (dd DX7_isFish 6 rfl) (by decide) ?_
      refine sk_S.iret (dd DX7_isFish 8 rfl) rfl rfl ?_
      refine ⟨rfl, ?_⟩
      unfold bi
      simp only [Int32.lt_iff_toInt_lt, Int32.le_iff_toInt_le] at *
      split <;> first | rfl | (exfalso; omega)
set_option maxRecDepth 100000 in
set_option maxHeartbeats 4000000 in
theorem cC_isUse {l : Launch} {E : sk_V} {d : Nat} {h : sk_M} {v : Int32}  : sk_K l E (d + 0) MX7_isUse [.int v] h (fun r h1 => h = h1 ∧ some (.int (bi (0 ≤ v ∧ v < 2))) = r) := by
  refine sk_K.of (by decide +kernel) (Nat.le_of_ble_eq_true rfl) ?_
  show sk_S l E (d + 0) _ 0 [some (.int v)] [] h _
  refine sk_S.iload_n (i := 0) (dd DX7_isUse 0 rfl) rfl rfl ?_
  refine sk_S.if_lt (tgt := 13) (dd DX7_isUse 1 rfl) (by decide) (fun c1 => ?_) (fun c1 => ?_)
  · refine sk_S.iconst (v := 0) (dd DX7_isUse 7 rfl) (by decide) ?_
    refine sk_S.iret (dd DX7_isUse 8 rfl) rfl rfl ?_
    refine ⟨rfl, ?_⟩
    unfold bi
    simp only [Int32.lt_iff_toInt_lt, Int32.le_iff_toInt_le] at *
    split <;> first | rfl | (exfalso; omega)
  · refine sk_S.iload_n (i := 0) (dd DX7_isUse 2 rfl) rfl rfl ?_
    refine sk_S.iconst (v := 2) (dd DX7_isUse 3 rfl) (by decide) ?_
    refine sk_S.icmp_ge (tgt := 13) (dd DX7_isUse 4 rfl) (by decide) (fun c6 => ?_) (fun c6 => ?_)
    · refine sk_S.iconst (v := 0) (dd DX7_isUse 7 rfl) (by decide) ?_
      refine sk_S.iret (dd DX7_isUse 8 rfl) rfl rfl ?_
      refine ⟨rfl, ?_⟩
      unfold bi
      simp only [Int32.lt_iff_toInt_lt, Int32.le_iff_toInt_le] at *
      split <;> first | rfl | (exfalso; omega)
    · refine sk_S.iconst (v := 1) (dd DX7_isUse 5 rfl) (by decide) ?_
      refine sk_S.goto (tgt := 14) (dd DX7_isUse 6 rfl) (by decide) ?_
      refine sk_S.iret (dd DX7_isUse 8 rfl) rfl rfl ?_
      refine ⟨rfl, ?_⟩
      unfold bi
      simp only [Int32.lt_iff_toInt_lt, Int32.le_iff_toInt_le] at *
      split <;> first | rfl | (exfalso; omega)
set_option maxRecDepth 100000 in
set_option maxHeartbeats 4000000 in
theorem cC_isSheet {l : Launch} {E : sk_V} {d : Nat} {h : sk_M} {v : Int32}  : sk_K l E (d + 0) MX7_isSheet [.int v] h (fun r h1 => h = h1 ∧ some (.int (bi (0 ≤ v ∧ v < 4))) = r) := by
  refine sk_K.of (by decide +kernel) (Nat.le_of_ble_eq_true rfl) ?_
  show sk_S l E (d + 0) _ 0 [some (.int v)] [] h _
  refine sk_S.iload_n (i := 0) (dd DX7_isSheet 0 rfl) rfl rfl ?_
  refine sk_S.if_lt (tgt := 13) (dd DX7_isSheet 1 rfl) (by decide) (fun c1 => ?_) (fun c1 => ?_)
  · refine sk_S.iconst (v := 0) (dd DX7_isSheet 7 rfl) (by decide) ?_
    refine sk_S.iret (dd DX7_isSheet 8 rfl) rfl rfl ?_
    refine ⟨rfl, ?_⟩
    unfold bi
    simp only [Int32.lt_iff_toInt_lt, Int32.le_iff_toInt_le] at *
    split <;> first | rfl | (exfalso; omega)
  · refine sk_S.iload_n (i := 0) (dd DX7_isSheet 2 rfl) rfl rfl ?_
    refine sk_S.iconst (v := 4) (dd DX7_isSheet 3 rfl) (by decide) ?_
    refine sk_S.icmp_ge (tgt := 13) (dd DX7_isSheet 4 rfl) (by decide) (fun c6 => ?_) (fun c6 => ?_)
    · refine sk_S.iconst (v := 0) (dd DX7_isSheet 7 rfl) (by decide) ?_
      refine sk_S.iret (dd DX7_isSheet 8 rfl) rfl rfl ?_
      refine ⟨rfl, ?_⟩
      unfold bi
      simp only [Int32.lt_iff_toInt_lt, Int32.le_iff_toInt_le] at *
      split <;> first | rfl | (exfalso; omega)
    · refine sk_S.iconst (v := 1) (dd DX7_isSheet 5 rfl) (by decide) ?_
      refine sk_S.goto (tgt := 14) (dd DX7_isSheet 6 rfl) (by decide) ?_
      refine sk_S.iret (dd DX7_isSheet 8 rfl) rfl rfl ?_
      refine ⟨rfl, ?_⟩
      unfold bi
      simp only [Int32.lt_iff_toInt_lt, Int32.le_iff_toInt_le] at *
      split <;> first | rfl | (exfalso; omega)
set_option maxRecDepth 100000 in
set_option maxHeartbeats 4000000 in
theorem cC_isKindWithNumber {l : Launch} {E : sk_V} {d : Nat} {h : sk_M} {v : Int32}  : sk_K l E (d + 0) MX7_isKindWithNumber [.int v] h (fun r h1 => h = h1 ∧ some (.int (bi (0 ≤ v ∧ v < 70))) = r) := by
  refine sk_K.of (by decide +kernel) (Nat.le_of_ble_eq_true rfl) ?_
  show sk_S l E (d + 0) _ 0 [some (.int v)] [] h _
  refine sk_S.iload_n (i := 0) (dd DX7_isKindWithNumber 0 rfl) rfl rfl ?_
  refine sk_S.if_lt (tgt := 14) (dd DX7_isKindWithNumber 1 rfl) (by decide) (fun c1 => ?_) (fun c1 => ?_)
  · refine sk_S.iconst (v := 0) (dd DX7_isKindWithNumber 7 rfl) (by decide) ?_
    refine sk_S.iret (dd DX7_isKindWithNumber 8 rfl) rfl rfl ?_
    refine ⟨rfl, ?_⟩
    unfold bi
    simp only [Int32.lt_iff_toInt_lt, Int32.le_iff_toInt_le] at *
    split <;> first | rfl | (exfalso; omega)
  · refine sk_S.iload_n (i := 0) (dd DX7_isKindWithNumber 2 rfl) rfl rfl ?_
    refine sk_S.bipush (v := 70) (dd DX7_isKindWithNumber 3 rfl) (by decide) ?_
    refine sk_S.icmp_ge (tgt := 14) (dd DX7_isKindWithNumber 4 rfl) (by decide) (fun c7 => ?_) (fun c7 => ?_)
    · refine sk_S.iconst (v := 0) (dd DX7_isKindWithNumber 7 rfl) (by decide) ?_
      refine sk_S.iret (dd DX7_isKindWithNumber 8 rfl) rfl rfl ?_
      refine ⟨rfl, ?_⟩
      unfold bi
      simp only [Int32.lt_iff_toInt_lt, Int32.le_iff_toInt_le] at *
      split <;> first | rfl | (exfalso; omega)
    · refine sk_S.iconst (v := 1) (dd DX7_isKindWithNumber 5 rfl) (by decide) ?_
      refine sk_S.goto (tgt := 15) (dd DX7_isKindWithNumber 6 rfl) (by decide) ?_
      refine sk_S.iret (dd DX7_isKindWithNumber 8 rfl) rfl rfl ?_
      refine ⟨rfl, ?_⟩
      unfold bi
      simp only [Int32.lt_iff_toInt_lt, Int32.le_iff_toInt_le] at *
      split <;> first | rfl | (exfalso; omega)
set_option maxRecDepth 100000 in
set_option maxHeartbeats 4000000 in
theorem cC_isBoat {l : Launch} {E : sk_V} {d : Nat} {h : sk_M} {b : Int32}  : sk_K l E (d + 0) MX7_isBoat [.ref 0, .int b] h (fun r h1 => h = h1 ∧ some (.int (bi (0 ≤ b ∧ b < h 1 6))) = r) := by
  refine sk_K.of (by decide +kernel) (Nat.le_of_ble_eq_true rfl) ?_
  show sk_S l E (d + 0) _ 0 [some (.ref 0), some (.int b)] [] h _
  refine sk_S.iload_n (i := 1) (dd DX7_isBoat 0 rfl) rfl rfl ?_
  refine sk_S.if_lt (tgt := 19) (dd DX7_isBoat 1 rfl) (by decide) (fun c1 => ?_) (fun c1 => ?_)
  · refine sk_S.iconst (v := 0) (dd DX7_isBoat 9 rfl) (by decide) ?_
    refine sk_S.iret (dd DX7_isBoat 10 rfl) rfl rfl ?_
    refine ⟨rfl, ?_⟩
    unfold bi
    simp only [Int32.lt_iff_toInt_lt, Int32.le_iff_toInt_le] at *
    split <;> first | rfl | (exfalso; omega)
  · refine sk_S.iload_n (i := 1) (dd DX7_isBoat 2 rfl) rfl rfl ?_
    refine sk_S.aload_n (i := 0) (dd DX7_isBoat 3 rfl) rfl rfl ?_
    refine sk_S.getr (dd DX7_isBoat 4 rfl) rfl fX7_12 se_0 (by decide) rfl ?_
    refine sk_S.geti (dd DX7_isBoat 5 rfl) rfl fX7_53 se_1 (by decide) rfl ?_
    refine sk_S.icmp_ge (tgt := 19) (dd DX7_isBoat 6 rfl) (by decide) (fun c12 => ?_) (fun c12 => ?_)
    · refine sk_S.iconst (v := 0) (dd DX7_isBoat 9 rfl) (by decide) ?_
      refine sk_S.iret (dd DX7_isBoat 10 rfl) rfl rfl ?_
      refine ⟨rfl, ?_⟩
      unfold bi
      simp only [Int32.lt_iff_toInt_lt, Int32.le_iff_toInt_le] at *
      split <;> first | rfl | (exfalso; omega)
    · refine sk_S.iconst (v := 1) (dd DX7_isBoat 7 rfl) (by decide) ?_
      refine sk_S.goto (tgt := 20) (dd DX7_isBoat 8 rfl) (by decide) ?_
      refine sk_S.iret (dd DX7_isBoat 10 rfl) rfl rfl ?_
      refine ⟨rfl, ?_⟩
      unfold bi
      simp only [Int32.lt_iff_toInt_lt, Int32.le_iff_toInt_le] at *
      split <;> first | rfl | (exfalso; omega)
set_option maxRecDepth 100000 in
set_option maxHeartbeats 4000000 in
theorem cC_refuse {l : Launch} {E : sk_V} {d : Nat} {h : sk_M} {x : Int32} {k : Nat} (hx : -1000000000 - x = nI k) (hk1 : 1 ≤ k) (hk6 : k ≤ 6) : sk_K l E (d + 0) MX7_refuse [.ref 0, .int x] h (fun r h1 => sk_u h 6 k (h 6 k + 1) = h1 ∧ some (.int x) = r) := by
  refine sk_K.of (by decide +kernel) (Nat.le_of_ble_eq_true rfl) ?_
  show sk_S l E (d + 0) _ 0 [some (.ref 0), some (.int x), none] [] h _
  refine sk_S.ldc_w (dd DX7_refuse 0 rfl) rfl cnX7_286 ?_
  refine sk_S.iload_n (i := 1) (dd DX7_refuse 1 rfl) rfl rfl ?_
  refine sk_S.isub (dd DX7_refuse 2 rfl) ?_
  refine sk_S.istore_n (i := 2) (dd DX7_refuse 3 rfl) rfl (Nat.le_of_ble_eq_true rfl) rfl ?_
  refine sk_S.iload_n (i := 2) (dd DX7_refuse 4 rfl) rfl rfl ?_
  refine sk_S.iconst (v := 1) (dd DX7_refuse 5 rfl) (by decide) ?_
  refine sk_S.icmp_lt (tgt := 27) (dd DX7_refuse 6 rfl) (by decide) (fun c8 => absurd c8 (by rw [hx]; exact nI_nlt (b := 1) hk1 (by omega))) (fun c8 => ?_)
  refine sk_S.iload_n (i := 2) (dd DX7_refuse 7 rfl) rfl rfl ?_
  refine sk_S.bipush (v := 6) (dd DX7_refuse 8 rfl) (by decide) ?_
  refine sk_S.icmp_gt (tgt := 27) (dd DX7_refuse 9 rfl) (by decide) (fun c14 => absurd c14 (by rw [hx]; exact nI_nlt (a := 6) hk6 (by decide))) (fun c14 => ?_)
  refine sk_S.aload_n (i := 0) (dd DX7_refuse 10 rfl) rfl rfl ?_
  refine sk_S.getr (dd DX7_refuse 11 rfl) rfl fX7_39 se_0 (by decide) rfl ?_
  refine sk_S.iload_n (i := 2) (dd DX7_refuse 12 rfl) rfl rfl ?_
  refine sk_S.dup2 (dd DX7_refuse 13 rfl) rfl rfl ?_
  refine sk_S.iald (dd DX7_refuse 14 rfl) se_6 (sk_ix_nI (k := k) hx (by omega) (by decide)) ?_
  refine sk_S.iconst (v := 1) (dd DX7_refuse 15 rfl) (by decide) ?_
  refine sk_S.iadd (dd DX7_refuse 16 rfl) ?_
  refine sk_S.iast (dd DX7_refuse 17 rfl) se_6 (sk_ix_nI (k := k) hx (by omega) (by decide)) ?_
  refine sk_S.iload_n (i := 1) (dd DX7_refuse 18 rfl) rfl rfl ?_
  refine sk_S.iret (dd DX7_refuse 19 rfl) rfl rfl ?_
  exact ⟨rfl, rfl⟩
set_option maxRecDepth 100000 in
set_option maxHeartbeats 4000000 in
theorem cC_turnInto {l : Launch} {E : sk_V} {d : Nat} {h : sk_M} {b : Nat} (hb : sk_e b = (1, 0, 3, [])) {x : Int32}  : sk_K l E (d + 0) MX0_turnInto [.ref b, .int x] h (fun r h1 => sk_u (sk_u h b 0 (x / 10)) b 1 (x - x / 10 * 10) = h1 ∧ none = r) := by
  refine sk_K.of (by decide +kernel) (Nat.le_of_ble_eq_true rfl) ?_
  show sk_S l E (d + 0) _ 0 [some (.ref b), some (.int x)] [] h _
  refine sk_S.aload_n (i := 0) (dd DX0_turnInto 0 rfl) rfl rfl ?_
  refine sk_S.iload_n (i := 1) (dd DX0_turnInto 1 rfl) rfl rfl ?_
  refine sk_S.bipush (v := 10) (dd DX0_turnInto 2 rfl) (by decide) ?_
  refine sk_S.idiv (dd DX0_turnInto 3 rfl) (by decide) ?_
  refine sk_S.putf (dd DX0_turnInto 4 rfl) rfl pX0_9 hb (by decide) rfl rfl rfl ?_
  refine sk_S.aload_n (i := 0) (dd DX0_turnInto 5 rfl) rfl rfl ?_
  refine sk_S.iload_n (i := 1) (dd DX0_turnInto 6 rfl) rfl rfl ?_
  refine sk_S.bipush (v := 10) (dd DX0_turnInto 7 rfl) (by decide) ?_
  refine sk_S.irem (dd DX0_turnInto 8 rfl) (by decide) ?_
  refine sk_S.putf (dd DX0_turnInto 9 rfl) rfl pX0_15 hb (by decide) rfl rfl rfl ?_
  refine sk_S.vret (dd DX0_turnInto 10 rfl) rfl ?_
  exact ⟨rfl, rfl⟩
set_option maxRecDepth 100000 in
set_option maxHeartbeats 4000000 in
theorem cC_boatFrom {l : Launch} {E : sk_V} {d : Nat} {h : sk_M} {b : Nat} (hb : sk_e b = (1, 0, 3, [])) {c : Nat} (hc : sk_e c = (1, 0, 3, [])) (hbc : c ≠ b)  : sk_K l E (d + 0) MX0_takeFrom [.ref b, .ref c] h (fun r h1 => sk_u (sk_u (sk_u h b 0 (h c 0)) b 1 (h c 1)) b 2 (h c 2) = h1 ∧ none = r) := by
  refine sk_K.of (by decide +kernel) (Nat.le_of_ble_eq_true rfl) ?_
  show sk_S l E (d + 0) _ 0 [some (.ref b), some (.ref c)] [] h _
  refine sk_S.aload_n (i := 0) (dd DX0_takeFrom 0 rfl) rfl rfl ?_
  refine sk_S.aload_n (i := 1) (dd DX0_takeFrom 1 rfl) rfl rfl ?_
  refine sk_S.geti (dd DX0_takeFrom 2 rfl) rfl fX0_9 hc (by decide) rfl ?_
  refine sk_S.putf (dd DX0_takeFrom 3 rfl) rfl pX0_9 hb (by decide) rfl rfl rfl ?_
  refine sk_S.aload_n (i := 0) (dd DX0_takeFrom 4 rfl) rfl rfl ?_
  refine sk_S.aload_n (i := 1) (dd DX0_takeFrom 5 rfl) rfl rfl ?_
  refine sk_S.geti (dd DX0_takeFrom 6 rfl) rfl fX0_15 hc (by decide) rfl ?_
  refine sk_S.putf (dd DX0_takeFrom 7 rfl) rfl pX0_15 hb (by decide) rfl rfl rfl ?_
  refine sk_S.aload_n (i := 0) (dd DX0_takeFrom 8 rfl) rfl rfl ?_
  refine sk_S.aload_n (i := 1) (dd DX0_takeFrom 9 rfl) rfl rfl ?_
  refine sk_S.geti (dd DX0_takeFrom 10 rfl) rfl fX0_18 hc (by decide) rfl ?_
  refine sk_S.putf (dd DX0_takeFrom 11 rfl) rfl pX0_18 hb (by decide) rfl rfl rfl ?_
  refine sk_S.vret (dd DX0_takeFrom 12 rfl) rfl ?_
  have e : ∀ (g : sk_M) i x, sk_u g b i x c = g c := fun g i x => sk_r_ne g _ hbc
  refine ⟨?_, rfl⟩
  simp only [e]
set_option maxRecDepth 100000 in
set_option maxHeartbeats 4000000 in
theorem cC_hauls {l : Launch} {E : sk_V} {d : Nat} {h : sk_M} {b : Nat} (hb : sk_e b = (1, 0, 3, [])) {f s d0 : Int32}  : sk_K l E (d + 0) MX0_hauls [.ref b, .int f, .int s, .int d0] h (fun r h1 => h = h1 ∧ some (.int (haulsV (h b 0) (h b 1) s d0 f)) = r) := by
  refine sk_K.of (by decide +kernel) (Nat.le_of_ble_eq_true rfl) ?_
  show sk_S l E (d + 0) _ 0 [some (.ref b), some (.int f), some (.int s), some (.int d0), none] [] h _
  refine sk_S.iconst (v := 5) (dd DX0_hauls 0 rfl) (by decide) ?_
  refine sk_S.aload_n (i := 0) (dd DX0_hauls 1 rfl) rfl rfl ?_
  refine sk_S.geti (dd DX0_hauls 2 rfl) rfl fX0_15 hb (by decide) rfl ?_
  refine sk_S.iadd (dd DX0_hauls 3 rfl) ?_
  refine sk_S.iload_n (i := 2) (dd DX0_hauls 4 rfl) rfl rfl ?_
  refine sk_S.isub (dd DX0_hauls 5 rfl) ?_
  refine sk_S.istore (i := 4) (dd DX0_hauls 6 rfl) (Nat.le_of_ble_eq_true rfl) rfl ?_
  refine sk_S.aload_n (i := 0) (dd DX0_hauls 7 rfl) rfl rfl ?_
  refine sk_S.geti (dd DX0_hauls 8 rfl) rfl fX0_9 hb (by decide) rfl ?_
  refine sk_S.tabL (dd DX0_hauls 9 rfl) rfl (by decide) (by decide) (by decide) (fun j14 hj14 e14 => ?_) (fun e14 => ?_)
  · rcases j14 with _ | _ | _ | _ | _ | _ | j14
    · show sk_S _ _ _ _ 52 _ _ _ _
      replace e14 : _ = (1 : Int32) := e14
      refine sk_S.iload (i := 4) (dd DX0_hauls 10 rfl) rfl ?_
      refine sk_S.iconst (v := 5) (dd DX0_hauls 11 rfl) (by decide) ?_
      refine sk_S.iadd (dd DX0_hauls 12 rfl) ?_
      refine sk_S.iret (dd DX0_hauls 13 rfl) rfl rfl ?_
      refine ⟨rfl, ?_⟩
      simp [haulsV, Int32.mul_comm _ 2, *]
    · show sk_S _ _ _ _ 57 _ _ _ _
      replace e14 : _ = (2 : Int32) := e14
      refine sk_S.iload (i := 4) (dd DX0_hauls 14 rfl) rfl ?_
      refine sk_S.iconst (v := 2) (dd DX0_hauls 15 rfl) (by decide) ?_
      refine sk_S.idiv (dd DX0_hauls 16 rfl) (by decide) ?_
      refine sk_S.iret (dd DX0_hauls 17 rfl) rfl rfl ?_
      refine ⟨rfl, ?_⟩
      simp [haulsV, Int32.mul_comm _ 2, *]
    · show sk_S _ _ _ _ 62 _ _ _ _
      replace e14 : _ = (3 : Int32) := e14
      refine sk_S.iload_n (i := 1) (dd DX0_hauls 18 rfl) rfl rfl ?_
      refine sk_S.aload_n (i := 0) (dd DX0_hauls 19 rfl) rfl rfl ?_
      refine sk_S.geti (dd DX0_hauls 20 rfl) rfl fX0_15 hb (by decide) rfl ?_
      refine sk_S.iconst (v := 4) (dd DX0_hauls 21 rfl) (by decide) ?_
      refine sk_S.irem (dd DX0_hauls 22 rfl) (by decide) ?_
      refine sk_S.icmp_ne (tgt := 79) (dd DX0_hauls 23 rfl) (by decide) (fun c69 => ?_) (fun c69 => ?_)
      · refine sk_S.iload (i := 4) (dd DX0_hauls 28 rfl) rfl ?_
        refine sk_S.iconst (v := 2) (dd DX0_hauls 29 rfl) (by decide) ?_
        refine sk_S.idiv (dd DX0_hauls 30 rfl) (by decide) ?_
        refine sk_S.iret (dd DX0_hauls 31 rfl) rfl rfl ?_
        refine ⟨rfl, ?_⟩
        simp [haulsV, Int32.mul_comm _ 2, *]
      · refine sk_S.iload (i := 4) (dd DX0_hauls 24 rfl) rfl ?_
        refine sk_S.iconst (v := 2) (dd DX0_hauls 25 rfl) (by decide) ?_
        refine sk_S.imul (dd DX0_hauls 26 rfl) ?_
        refine sk_S.goto (tgt := 83) (dd DX0_hauls 27 rfl) (by decide) ?_
        refine sk_S.iret (dd DX0_hauls 31 rfl) rfl rfl ?_
        refine ⟨rfl, ?_⟩
        simp [haulsV, Int32.mul_comm _ 2, *]
    · show sk_S _ _ _ _ 84 _ _ _ _
      replace e14 : _ = (4 : Int32) := e14
      refine sk_S.iload (i := 4) (dd DX0_hauls 32 rfl) rfl ?_
      refine sk_S.iconst (v := 5) (dd DX0_hauls 33 rfl) (by decide) ?_
      refine sk_S.iadd (dd DX0_hauls 34 rfl) ?_
      refine sk_S.iload_n (i := 3) (dd DX0_hauls 35 rfl) rfl rfl ?_
      refine sk_S.iconst (v := 5) (dd DX0_hauls 36 rfl) (by decide) ?_
      refine sk_S.irem (dd DX0_hauls 37 rfl) (by decide) ?_
      refine sk_S.iadd (dd DX0_hauls 38 rfl) ?_
      refine sk_S.iret (dd DX0_hauls 39 rfl) rfl rfl ?_
      refine ⟨rfl, ?_⟩
      simp [haulsV, Int32.mul_comm _ 2, *]
    · show sk_S _ _ _ _ 93 _ _ _ _
      replace e14 : _ = (5 : Int32) := e14
      refine sk_S.iload_n (i := 2) (dd DX0_hauls 40 rfl) rfl rfl ?_
      refine sk_S.bipush (v := 6) (dd DX0_hauls 41 rfl) (by decide) ?_
      refine sk_S.icmp_le (tgt := 103) (dd DX0_hauls 42 rfl) (by decide) (fun c96 => ?_) (fun c96 => ?_)
      · refine sk_S.iload (i := 4) (dd DX0_hauls 45 rfl) rfl ?_
        refine sk_S.iconst (v := 2) (dd DX0_hauls 46 rfl) (by decide) ?_
        refine sk_S.idiv (dd DX0_hauls 47 rfl) (by decide) ?_
        refine sk_S.iload_n (i := 1) (dd DX0_hauls 48 rfl) rfl rfl ?_
        refine sk_S.iadd (dd DX0_hauls 49 rfl) ?_
        refine sk_S.iret (dd DX0_hauls 50 rfl) rfl rfl ?_
        refine ⟨rfl, ?_⟩
        simp [haulsV, Int32.mul_comm _ 2, *]
      · refine sk_S.iconst (v := 0) (dd DX0_hauls 43 rfl) (by decide) ?_
        refine sk_S.goto (tgt := 109) (dd DX0_hauls 44 rfl) (by decide) ?_
        refine sk_S.iret (dd DX0_hauls 50 rfl) rfl rfl ?_
        refine ⟨rfl, ?_⟩
        simp [haulsV, Int32.mul_comm _ 2, *]
    · show sk_S _ _ _ _ 110 _ _ _ _
      replace e14 : _ = (6 : Int32) := e14
      refine sk_S.bipush (v := 20) (dd DX0_hauls 51 rfl) (by decide) ?_
      refine sk_S.aload_n (i := 0) (dd DX0_hauls 52 rfl) rfl rfl ?_
      refine sk_S.geti (dd DX0_hauls 53 rfl) rfl fX0_15 hb (by decide) rfl ?_
      refine sk_S.isub (dd DX0_hauls 54 rfl) ?_
      refine sk_S.iload_n (i := 2) (dd DX0_hauls 55 rfl) rfl rfl ?_
      refine sk_S.iconst (v := 2) (dd DX0_hauls 56 rfl) (by decide) ?_
      refine sk_S.imul (dd DX0_hauls 57 rfl) ?_
      refine sk_S.isub (dd DX0_hauls 58 rfl) ?_
      refine sk_S.iload_n (i := 1) (dd DX0_hauls 59 rfl) rfl rfl ?_
      refine sk_S.isub (dd DX0_hauls 60 rfl) ?_
      refine sk_S.iret (dd DX0_hauls 61 rfl) rfl rfl ?_
      refine ⟨rfl, ?_⟩
      simp [haulsV, Int32.mul_comm _ 2, *]
    · exact absurd hj14 (by simp)
  · show sk_S _ _ _ _ 124 _ _ _ _
    have e14_ := (⟨e14 0 (by decide), e14 1 (by decide), e14 2 (by decide), e14 3 (by decide), e14 4 (by decide), e14 5 (by decide)⟩ : ¬ _ = (1 : Int32) ∧ ¬ _ = (2 : Int32) ∧ ¬ _ = (3 : Int32) ∧ ¬ _ = (4 : Int32) ∧ ¬ _ = (5 : Int32) ∧ ¬ _ = (6 : Int32))
    refine sk_S.iload (i := 4) (dd DX0_hauls 62 rfl) rfl ?_
    refine sk_S.iret (dd DX0_hauls 63 rfl) rfl rfl ?_
    refine ⟨rfl, ?_⟩
    simp [haulsV, Int32.mul_comm _ 2, *]
set_option maxRecDepth 100000 in
set_option maxHeartbeats 4000000 in
theorem cC_eats {l : Launch} {E : sk_V} {d : Nat} {h : sk_M} {b : Nat} (hb : sk_e b = (1, 0, 3, [])) {d0 : Int32}  : sk_K l E (d + 0) MX0_eats [.ref b, .int d0] h (fun r h1 => h = h1 ∧ some (.int (eatsV (h b 0) d0)) = r) := by
  refine sk_K.of (by decide +kernel) (Nat.le_of_ble_eq_true rfl) ?_
  show sk_S l E (d + 0) _ 0 [some (.ref b), some (.int d0)] [] h _
  refine sk_S.aload_n (i := 0) (dd DX0_eats 0 rfl) rfl rfl ?_
  refine sk_S.geti (dd DX0_eats 1 rfl) rfl fX0_9 hb (by decide) rfl ?_
  refine sk_S.tabL (dd DX0_eats 2 rfl) rfl (by decide) (by decide) (by decide) (fun j4 hj4 e4 => ?_) (fun e4 => ?_)
  · rcases j4 with _ | _ | _ | _ | _ | _ | j4
    · show sk_S _ _ _ _ 44 _ _ _ _
      replace e4 : _ = (1 : Int32) := e4
      refine sk_S.iconst (v := 2) (dd DX0_eats 3 rfl) (by decide) ?_
      refine sk_S.iret (dd DX0_eats 4 rfl) rfl rfl ?_
      refine ⟨rfl, ?_⟩
      simp [eatsV, *]
    · show sk_S _ _ _ _ 56 _ _ _ _
      replace e4 : _ = (2 : Int32) := e4
      refine sk_S.iconst (v := 1) (dd DX0_eats 15 rfl) (by decide) ?_
      refine sk_S.iret (dd DX0_eats 16 rfl) rfl rfl ?_
      refine ⟨rfl, ?_⟩
      simp [eatsV, *]
    · show sk_S _ _ _ _ 46 _ _ _ _
      replace e4 : _ = (3 : Int32) := e4
      refine sk_S.iconst (v := 1) (dd DX0_eats 5 rfl) (by decide) ?_
      refine sk_S.iload_n (i := 1) (dd DX0_eats 6 rfl) rfl rfl ?_
      refine sk_S.iconst (v := 2) (dd DX0_eats 7 rfl) (by decide) ?_
      refine sk_S.irem (dd DX0_eats 8 rfl) (by decide) ?_
      refine sk_S.iadd (dd DX0_eats 9 rfl) ?_
      refine sk_S.iret (dd DX0_eats 10 rfl) rfl rfl ?_
      refine ⟨rfl, ?_⟩
      simp [eatsV, *]
    · show sk_S _ _ _ _ 52 _ _ _ _
      replace e4 : _ = (4 : Int32) := e4
      refine sk_S.iconst (v := 4) (dd DX0_eats 11 rfl) (by decide) ?_
      refine sk_S.iret (dd DX0_eats 12 rfl) rfl rfl ?_
      refine ⟨rfl, ?_⟩
      simp [eatsV, *]
    · show sk_S _ _ _ _ 54 _ _ _ _
      replace e4 : _ = (5 : Int32) := e4
      refine sk_S.iconst (v := 0) (dd DX0_eats 13 rfl) (by decide) ?_
      refine sk_S.iret (dd DX0_eats 14 rfl) rfl rfl ?_
      refine ⟨rfl, ?_⟩
      simp [eatsV, *]
    · show sk_S _ _ _ _ 52 _ _ _ _
      replace e4 : _ = (6 : Int32) := e4
      refine sk_S.iconst (v := 4) (dd DX0_eats 11 rfl) (by decide) ?_
      refine sk_S.iret (dd DX0_eats 12 rfl) rfl rfl ?_
      refine ⟨rfl, ?_⟩
      simp [eatsV, *]
    · exact absurd hj4 (by simp)
  · show sk_S _ _ _ _ 56 _ _ _ _
    have e4_ := (⟨e4 0 (by decide), e4 1 (by decide), e4 2 (by decide), e4 3 (by decide), e4 4 (by decide), e4 5 (by decide)⟩ : ¬ _ = (1 : Int32) ∧ ¬ _ = (2 : Int32) ∧ ¬ _ = (3 : Int32) ∧ ¬ _ = (4 : Int32) ∧ ¬ _ = (5 : Int32) ∧ ¬ _ = (6 : Int32))
    refine sk_S.iconst (v := 1) (dd DX0_eats 15 rfl) (by decide) ?_
    refine sk_S.iret (dd DX0_eats 16 rfl) rfl rfl ?_
    refine ⟨rfl, ?_⟩
    simp [eatsV, *]
set_option maxRecDepth 100000 in
set_option maxHeartbeats 4000000 in
theorem cC_joined {l : Launch} {E : sk_V} {d : Nat} {h : sk_M} {w x y : Int32} (hw : w ∈ sgL) : sk_K l E (d + 0) MX1_joined [.int w, .int x, .int y] h (fun r h1 => h = h1 ∧ some (.int (twoV w x y)) = r) := by
  refine sk_K.of (by decide +kernel) (Nat.le_of_ble_eq_true rfl) ?_
  show sk_S l E (d + 0) _ 0 [some (.int w), some (.int x), some (.int y)] [] h _
  refine sk_S.iload_n (i := 0) (dd DX1_joined 0 rfl) rfl rfl ?_
  refine sk_S.lookN (dd DX1_joined 1 rfl) (by decide) (by decide) (by decide) (fun i1 q1 w1 e1 => ?_) (fun e1 => ?_)
  · rcases i1 with _ | _ | _ | _ | _ | _ | _ | _ | _ | i1
    · obtain rfl : (38, 97) = q1 := Option.some.inj w1
      show sk_S _ _ _ _ 98 _ _ _ _
      replace e1 : _ = (38 : Int32) := e1
      refine sk_S.iload_n (i := 1) (dd DX1_joined 10 rfl) rfl rfl ?_
      refine sk_S.if_eq (tgt := 110) (dd DX1_joined 11 rfl) (by decide) (fun c99 => ?_) (fun c99 => ?_)
      · refine sk_S.iconst (v := 0) (dd DX1_joined 16 rfl) (by decide) ?_
        refine sk_S.iret (dd DX1_joined 17 rfl) rfl rfl ?_
        refine ⟨rfl, ?_⟩
        first | simp [twoV, bi, *] | (simp only [← Int32.not_le] at *; simp [twoV, bi, *])
      · refine sk_S.iload_n (i := 2) (dd DX1_joined 12 rfl) rfl rfl ?_
        refine sk_S.if_eq (tgt := 110) (dd DX1_joined 13 rfl) (by decide) (fun c103 => ?_) (fun c103 => ?_)
        · refine sk_S.iconst (v := 0) (dd DX1_joined 16 rfl) (by decide) ?_
          refine sk_S.iret (dd DX1_joined 17 rfl) rfl rfl ?_
          refine ⟨rfl, ?_⟩
          first | simp [twoV, bi, *] | (simp only [← Int32.not_le] at *; simp [twoV, bi, *])
        · refine sk_S.iconst (v := 1) (dd DX1_joined 14 rfl) (by decide) ?_
          refine sk_S.goto (tgt := 111) (dd DX1_joined 15 rfl) (by decide) ?_
          refine sk_S.iret (dd DX1_joined 17 rfl) rfl rfl ?_
          refine ⟨rfl, ?_⟩
          first | simp [twoV, bi, *] | (simp only [← Int32.not_le] at *; simp [twoV, bi, *])
    · obtain rfl : (42, 152) = q1 := Option.some.inj w1
      show sk_S _ _ _ _ 153 _ _ _ _
      replace e1 : _ = (42 : Int32) := e1
      refine sk_S.iload_n (i := 1) (dd DX1_joined 47 rfl) rfl rfl ?_
      refine sk_S.iload_n (i := 2) (dd DX1_joined 48 rfl) rfl rfl ?_
      refine sk_S.imul (dd DX1_joined 49 rfl) ?_
      refine sk_S.iret (dd DX1_joined 50 rfl) rfl rfl ?_
      refine ⟨rfl, ?_⟩
      first | simp [twoV, bi, *] | (simp only [← Int32.not_le] at *; simp [twoV, bi, *])
    · obtain rfl : (43, 144) = q1 := Option.some.inj w1
      show sk_S _ _ _ _ 145 _ _ _ _
      replace e1 : _ = (43 : Int32) := e1
      refine sk_S.iload_n (i := 1) (dd DX1_joined 39 rfl) rfl rfl ?_
      refine sk_S.iload_n (i := 2) (dd DX1_joined 40 rfl) rfl rfl ?_
      refine sk_S.iadd (dd DX1_joined 41 rfl) ?_
      refine sk_S.iret (dd DX1_joined 42 rfl) rfl rfl ?_
      refine ⟨rfl, ?_⟩
      first | simp [twoV, bi, *] | (simp only [← Int32.not_le] at *; simp [twoV, bi, *])
    · obtain rfl : (45, 148) = q1 := Option.some.inj w1
      show sk_S _ _ _ _ 149 _ _ _ _
      replace e1 : _ = (45 : Int32) := e1
      refine sk_S.iload_n (i := 1) (dd DX1_joined 43 rfl) rfl rfl ?_
      refine sk_S.iload_n (i := 2) (dd DX1_joined 44 rfl) rfl rfl ?_
      refine sk_S.isub (dd DX1_joined 45 rfl) ?_
      refine sk_S.iret (dd DX1_joined 46 rfl) rfl rfl ?_
      refine ⟨rfl, ?_⟩
      first | simp [twoV, bi, *] | (simp only [← Int32.not_le] at *; simp [twoV, bi, *])
    · obtain rfl : (47, 156) = q1 := Option.some.inj w1
      show sk_S _ _ _ _ 157 _ _ _ _
      replace e1 : _ = (47 : Int32) := e1
      refine sk_S.iload_n (i := 2) (dd DX1_joined 51 rfl) rfl rfl ?_
      refine sk_S.if_ne (tgt := 165) (dd DX1_joined 52 rfl) (by decide) (fun c158 => ?_) (fun c158 => ?_)
      · refine sk_S.iload_n (i := 1) (dd DX1_joined 55 rfl) rfl rfl ?_
        refine sk_S.iload_n (i := 2) (dd DX1_joined 56 rfl) rfl rfl ?_
        refine sk_S.idiv (dd DX1_joined 57 rfl) (by assumption) ?_
        refine sk_S.iret (dd DX1_joined 58 rfl) rfl rfl ?_
        refine ⟨rfl, ?_⟩
        first | simp [twoV, bi, *] | (simp only [← Int32.not_le] at *; simp [twoV, bi, *])
      · refine sk_S.iconst (v := 0) (dd DX1_joined 53 rfl) (by decide) ?_
        refine sk_S.goto (tgt := 168) (dd DX1_joined 54 rfl) (by decide) ?_
        refine sk_S.iret (dd DX1_joined 58 rfl) rfl rfl ?_
        refine ⟨rfl, ?_⟩
        first | simp [twoV, bi, *] | (simp only [← Int32.not_le] at *; simp [twoV, bi, *])
    · obtain rfl : (60, 111) = q1 := Option.some.inj w1
      show sk_S _ _ _ _ 112 _ _ _ _
      replace e1 : _ = (60 : Int32) := e1
      refine sk_S.iload_n (i := 1) (dd DX1_joined 18 rfl) rfl rfl ?_
      refine sk_S.iload_n (i := 2) (dd DX1_joined 19 rfl) rfl rfl ?_
      refine sk_S.icmp_ge (tgt := 121) (dd DX1_joined 20 rfl) (by decide) (fun c114 => ?_) (fun c114 => ?_)
      · refine sk_S.iconst (v := 0) (dd DX1_joined 23 rfl) (by decide) ?_
        refine sk_S.iret (dd DX1_joined 24 rfl) rfl rfl ?_
        refine ⟨rfl, ?_⟩
        first | simp [twoV, bi, *] | (simp only [← Int32.not_le] at *; simp [twoV, bi, *])
      · refine sk_S.iconst (v := 1) (dd DX1_joined 21 rfl) (by decide) ?_
        refine sk_S.goto (tgt := 122) (dd DX1_joined 22 rfl) (by decide) ?_
        refine sk_S.iret (dd DX1_joined 24 rfl) rfl rfl ?_
        refine ⟨rfl, ?_⟩
        first | simp [twoV, bi, *] | (simp only [← Int32.not_le] at *; simp [twoV, bi, *])
    · obtain rfl : (61, 122) = q1 := Option.some.inj w1
      show sk_S _ _ _ _ 123 _ _ _ _
      replace e1 : _ = (61 : Int32) := e1
      refine sk_S.iload_n (i := 1) (dd DX1_joined 25 rfl) rfl rfl ?_
      refine sk_S.iload_n (i := 2) (dd DX1_joined 26 rfl) rfl rfl ?_
      refine sk_S.icmp_ne (tgt := 132) (dd DX1_joined 27 rfl) (by decide) (fun c125 => ?_) (fun c125 => ?_)
      · refine sk_S.iconst (v := 0) (dd DX1_joined 30 rfl) (by decide) ?_
        refine sk_S.iret (dd DX1_joined 31 rfl) rfl rfl ?_
        refine ⟨rfl, ?_⟩
        first | simp [twoV, bi, *] | (simp only [← Int32.not_le] at *; simp [twoV, bi, *])
      · refine sk_S.iconst (v := 1) (dd DX1_joined 28 rfl) (by decide) ?_
        refine sk_S.goto (tgt := 133) (dd DX1_joined 29 rfl) (by decide) ?_
        refine sk_S.iret (dd DX1_joined 31 rfl) rfl rfl ?_
        refine ⟨rfl, ?_⟩
        first | simp [twoV, bi, *] | (simp only [← Int32.not_le] at *; simp [twoV, bi, *])
    · obtain rfl : (62, 133) = q1 := Option.some.inj w1
      show sk_S _ _ _ _ 134 _ _ _ _
      replace e1 : _ = (62 : Int32) := e1
      refine sk_S.iload_n (i := 1) (dd DX1_joined 32 rfl) rfl rfl ?_
      refine sk_S.iload_n (i := 2) (dd DX1_joined 33 rfl) rfl rfl ?_
      refine sk_S.icmp_le (tgt := 143) (dd DX1_joined 34 rfl) (by decide) (fun c136 => ?_) (fun c136 => ?_)
      · refine sk_S.iconst (v := 0) (dd DX1_joined 37 rfl) (by decide) ?_
        refine sk_S.iret (dd DX1_joined 38 rfl) rfl rfl ?_
        refine ⟨rfl, ?_⟩
        first | simp [twoV, bi, *] | (simp only [← Int32.not_le] at *; simp [twoV, bi, *])
      · refine sk_S.iconst (v := 1) (dd DX1_joined 35 rfl) (by decide) ?_
        refine sk_S.goto (tgt := 144) (dd DX1_joined 36 rfl) (by decide) ?_
        refine sk_S.iret (dd DX1_joined 38 rfl) rfl rfl ?_
        refine ⟨rfl, ?_⟩
        first | simp [twoV, bi, *] | (simp only [← Int32.not_le] at *; simp [twoV, bi, *])
    · obtain rfl : (124, 83) = q1 := Option.some.inj w1
      show sk_S _ _ _ _ 84 _ _ _ _
      replace e1 : _ = (124 : Int32) := e1
      refine sk_S.iload_n (i := 1) (dd DX1_joined 2 rfl) rfl rfl ?_
      refine sk_S.if_ne (tgt := 92) (dd DX1_joined 3 rfl) (by decide) (fun c85 => ?_) (fun c85 => ?_)
      · refine sk_S.iconst (v := 1) (dd DX1_joined 6 rfl) (by decide) ?_
        refine sk_S.goto (tgt := 97) (dd DX1_joined 7 rfl) (by decide) ?_
        refine sk_S.iret (dd DX1_joined 9 rfl) rfl rfl ?_
        refine ⟨rfl, ?_⟩
        first | simp [twoV, bi, *] | (simp only [← Int32.not_le] at *; simp [twoV, bi, *])
      · refine sk_S.iload_n (i := 2) (dd DX1_joined 4 rfl) rfl rfl ?_
        refine sk_S.if_eq (tgt := 96) (dd DX1_joined 5 rfl) (by decide) (fun c89 => ?_) (fun c89 => ?_)
        · refine sk_S.iconst (v := 0) (dd DX1_joined 8 rfl) (by decide) ?_
          refine sk_S.iret (dd DX1_joined 9 rfl) rfl rfl ?_
          refine ⟨rfl, ?_⟩
          first | simp [twoV, bi, *] | (simp only [← Int32.not_le] at *; simp [twoV, bi, *])
        · refine sk_S.iconst (v := 1) (dd DX1_joined 6 rfl) (by decide) ?_
          refine sk_S.goto (tgt := 97) (dd DX1_joined 7 rfl) (by decide) ?_
          refine sk_S.iret (dd DX1_joined 9 rfl) rfl rfl ?_
          refine ⟨rfl, ?_⟩
          first | simp [twoV, bi, *] | (simp only [← Int32.not_le] at *; simp [twoV, bi, *])
    · exact absurd w1 (by simp)
  · show sk_S _ _ _ _ 169 _ _ _ _
    have e1_ := (⟨e1 (38, 97) (by simp), e1 (42, 152) (by simp), e1 (43, 144) (by simp), e1 (45, 148) (by simp), e1 (47, 156) (by simp), e1 (60, 111) (by simp), e1 (61, 122) (by simp), e1 (62, 133) (by simp), e1 (124, 83) (by simp)⟩ : ¬ _ = (38 : Int32) ∧ ¬ _ = (42 : Int32) ∧ ¬ _ = (43 : Int32) ∧ ¬ _ = (45 : Int32) ∧ ¬ _ = (47 : Int32) ∧ ¬ _ = (60 : Int32) ∧ ¬ _ = (61 : Int32) ∧ ¬ _ = (62 : Int32) ∧ ¬ _ = (124 : Int32))
    refine sk_S.iload_n (i := 2) (dd DX1_joined 59 rfl) rfl rfl ?_
    refine sk_S.if_ne (tgt := 177) (dd DX1_joined 60 rfl) (by decide) (fun c170 => ?_) (fun c170 => ?_)
    · refine sk_S.iload_n (i := 1) (dd DX1_joined 63 rfl) rfl rfl ?_
      refine sk_S.iload_n (i := 2) (dd DX1_joined 64 rfl) rfl rfl ?_
      refine sk_S.irem (dd DX1_joined 65 rfl) (by assumption) ?_
      refine sk_S.iret (dd DX1_joined 66 rfl) rfl rfl ?_
      have hw37 : w = 37 := by
        simp only [sgL, List.mem_cons, List.not_mem_nil, or_false] at hw
        obtain ⟨a1, a2, a3, a4, a5, a6, a7, a8, a9⟩ := e1_
        rcases hw with q | q | q | q | q | q | q | q | q | q
        · exact absurd q a9
        · exact absurd q a1
        · exact absurd q a6
        · exact absurd q a7
        · exact absurd q a8
        · exact absurd q a3
        · exact absurd q a4
        · exact absurd q a2
        · exact absurd q a5
        · exact q
      refine ⟨rfl, ?_⟩
      first | simp [twoV, bi, *] | (simp only [← Int32.not_le] at *; simp [twoV, bi, *])
    · refine sk_S.iconst (v := 0) (dd DX1_joined 61 rfl) (by decide) ?_
      refine sk_S.goto (tgt := 180) (dd DX1_joined 62 rfl) (by decide) ?_
      refine sk_S.iret (dd DX1_joined 66 rfl) rfl rfl ?_
      have hw37 : w = 37 := by
        simp only [sgL, List.mem_cons, List.not_mem_nil, or_false] at hw
        obtain ⟨a1, a2, a3, a4, a5, a6, a7, a8, a9⟩ := e1_
        rcases hw with q | q | q | q | q | q | q | q | q | q
        · exact absurd q a9
        · exact absurd q a1
        · exact absurd q a6
        · exact absurd q a7
        · exact absurd q a8
        · exact absurd q a3
        · exact absurd q a4
        · exact absurd q a2
        · exact absurd q a5
        · exact q
      refine ⟨rfl, ?_⟩
      first | simp [twoV, bi, *] | (simp only [← Int32.not_le] at *; simp [twoV, bi, *])
set_option maxRecDepth 100000 in
set_option maxHeartbeats 4000000 in
theorem cC_draw {l : Launch} {E : sk_V} {d : Nat} {h : sk_M} {z : Int32} (hz : h 1 14 = z) : sk_K l E (d + 0) MX2_draw [.ref 1] h (fun r h1 => sk_u h 1 14 (zN z) = h1 ∧ some (.int (nI (dv (zN z)))) = r) := by
  refine sk_K.of (by decide +kernel) (Nat.le_of_ble_eq_true rfl) ?_
  show sk_S l E (d + 0) _ 0 [some (.ref 1)] [] h _
  refine sk_S.aload_n (i := 0) (dd DX2_draw 0 rfl) rfl rfl ?_
  refine sk_S.aload_n (i := 0) (dd DX2_draw 1 rfl) rfl rfl ?_
  refine sk_S.geti (dd DX2_draw 2 rfl) rfl fX2_40 se_1 (by decide) rfl ?_
  refine sk_S.ldc (dd DX2_draw 3 rfl) rfl cnX2_134 ?_
  refine sk_S.imul (dd DX2_draw 4 rfl) ?_
  refine sk_S.sipush (v := 12345) (dd DX2_draw 5 rfl) (by decide) ?_
  refine sk_S.iadd (dd DX2_draw 6 rfl) ?_
  refine sk_S.putf (dd DX2_draw 7 rfl) rfl pX2_40 se_1 (by decide) rfl rfl rfl ?_
  refine sk_S.aload_n (i := 0) (dd DX2_draw 8 rfl) rfl rfl ?_
  refine sk_S.geti (dd DX2_draw 9 rfl) rfl fX2_40 se_1 (by decide) rfl ?_
  refine sk_S.bipush (v := 8) (dd DX2_draw 10 rfl) (by decide) ?_
  refine sk_S.iushr (dd DX2_draw 11 rfl) ?_
  refine sk_S.iret (dd DX2_draw 12 rfl) rfl rfl ?_
  subst hz
  refine ⟨rfl, ?_⟩
  rw [← (ushr8_dv _).1]
  rfl
set_option maxRecDepth 100000 in
set_option maxHeartbeats 4000000 in
theorem cC_isMissing {l : Launch} {E : sk_V} {d : Nat} {h : sk_M} {s n : Nat} (hs : sk_e s = (1, 4, 3, [some n]))  : sk_K l E (d + 0) MX4_isMissing [.ref s] h (fun r h1 => h = h1 ∧ some (.int (bi (h s 1 = 0))) = r) := by
  refine sk_K.of (by decide +kernel) (Nat.le_of_ble_eq_true rfl) ?_
  show sk_S l E (d + 0) _ 0 [some (.ref s)] [] h _
  refine sk_S.aload_n (i := 0) (dd DX4_isMissing 0 rfl) rfl rfl ?_
  refine sk_S.geti (dd DX4_isMissing 1 rfl) rfl fX4_15 hs (by decide) rfl ?_
  refine sk_S.if_ne (tgt := 11) (dd DX4_isMissing 2 rfl) (by decide) (fun c4 => ?_) (fun c4 => ?_)
  · refine sk_S.iconst (v := 0) (dd DX4_isMissing 5 rfl) (by decide) ?_
    refine sk_S.iret (dd DX4_isMissing 6 rfl) rfl rfl ?_
    refine ⟨rfl, ?_⟩
    unfold bi
    simp [*]
  · refine sk_S.iconst (v := 1) (dd DX4_isMissing 3 rfl) (by decide) ?_
    refine sk_S.goto (tgt := 12) (dd DX4_isMissing 4 rfl) (by decide) ?_
    refine sk_S.iret (dd DX4_isMissing 6 rfl) rfl rfl ?_
    refine ⟨rfl, ?_⟩
    unfold bi
    simp [*]
set_option maxRecDepth 100000 in
set_option maxHeartbeats 4000000 in
theorem cC_lowestBits {l : Launch} {E : sk_V} {d : Nat} {h : sk_M} {s n : Nat} (hs : sk_e s = (1, 4, 3, [some n])) {v : Int32}  : sk_K l E (d + 0) MX4_lowestBits [.ref s, .int v] h (fun r h1 => h = h1 ∧ some (.int (if h s 1 = 32 then v else if h s 1 = 16 then v &&& 65535 else v &&& 255)) = r) := by
  refine sk_K.of (by decide +kernel) (Nat.le_of_ble_eq_true rfl) ?_
  show sk_S l E (d + 0) _ 0 [some (.ref s), some (.int v)] [] h _
  refine sk_S.aload_n (i := 0) (dd DX4_lowestBits 0 rfl) rfl rfl ?_
  refine sk_S.geti (dd DX4_lowestBits 1 rfl) rfl fX4_15 hs (by decide) rfl ?_
  refine sk_S.bipush (v := 32) (dd DX4_lowestBits 2 rfl) (by decide) ?_
  refine sk_S.icmp_ne (tgt := 13) (dd DX4_lowestBits 3 rfl) (by decide) (fun c6 => ?_) (fun c6 => ?_)
  · refine sk_S.aload_n (i := 0) (dd DX4_lowestBits 6 rfl) rfl rfl ?_
    refine sk_S.geti (dd DX4_lowestBits 7 rfl) rfl fX4_15 hs (by decide) rfl ?_
    refine sk_S.bipush (v := 16) (dd DX4_lowestBits 8 rfl) (by decide) ?_
    refine sk_S.icmp_ne (tgt := 29) (dd DX4_lowestBits 9 rfl) (by decide) (fun c19 => ?_) (fun c19 => ?_)
    · refine sk_S.iload_n (i := 1) (dd DX4_lowestBits 14 rfl) rfl rfl ?_
      refine sk_S.sipush (v := 255) (dd DX4_lowestBits 15 rfl) (by decide) ?_
      refine sk_S.iand (dd DX4_lowestBits 16 rfl) ?_
      refine sk_S.iret (dd DX4_lowestBits 17 rfl) rfl rfl ?_
      refine ⟨rfl, ?_⟩
      simp [*]
    · refine sk_S.iload_n (i := 1) (dd DX4_lowestBits 10 rfl) rfl rfl ?_
      refine sk_S.ldc (dd DX4_lowestBits 11 rfl) rfl cnX4_28 ?_
      refine sk_S.iand (dd DX4_lowestBits 12 rfl) ?_
      refine sk_S.goto (tgt := 34) (dd DX4_lowestBits 13 rfl) (by decide) ?_
      refine sk_S.iret (dd DX4_lowestBits 17 rfl) rfl rfl ?_
      refine ⟨rfl, ?_⟩
      simp [*]
  · refine sk_S.iload_n (i := 1) (dd DX4_lowestBits 4 rfl) rfl rfl ?_
    refine sk_S.goto (tgt := 34) (dd DX4_lowestBits 5 rfl) (by decide) ?_
    refine sk_S.iret (dd DX4_lowestBits 17 rfl) rfl rfl ?_
    refine ⟨rfl, ?_⟩
    simp [*]
end C1
