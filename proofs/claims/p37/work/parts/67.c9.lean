section C9
set_option maxRecDepth 100000 in
set_option maxHeartbeats 1000000 in
theorem cJ_coder {l : Launch} {E : sk_V} {d : Nat} {h : sk_M}   : sk_K l E (d + 0) MJ0_coder_7d493 [.ref 70] h (fun r h1 => h = h1 ∧ some (.int 0) = r) := by
  refine sk_K.of (by decide +kernel) (Nat.le_of_ble_eq_true rfl) ?_
  show sk_S l E (d + 0) _ 0 [some (.ref 70)] [] h _
  refine sk_S.gcs (dd DJ0_coder_7d493 0 rfl) rfl ?_
  refine sk_S.if_eq (tgt := 13) (dd DJ0_coder_7d493 1 rfl) (by decide) (fun c3 => absurd c3 (by decide)) (fun c3 => ?_)
  refine sk_S.aload_n (i := 0) (dd DJ0_coder_7d493 2 rfl) rfl rfl ?_
  refine sk_S.strc (dd DJ0_coder_7d493 3 rfl) rfl ?_
  refine sk_S.goto (tgt := 14) (dd DJ0_coder_7d493 4 rfl) (by decide) ?_
  refine sk_S.iret (dd DJ0_coder_7d493 6 rfl) rfl rfl ?_
  exact ⟨rfl, rfl⟩
set_option maxRecDepth 100000 in
set_option maxHeartbeats 1000000 in
theorem cJ_isLatin1 {l : Launch} {E : sk_V} {d : Nat} {h : sk_M}   : sk_K l E (d + 0) MJ0_isLatin1_aae02 [.ref 70] h (fun r h1 => h = h1 ∧ some (.int 1) = r) := by
  refine sk_K.of (by decide +kernel) (Nat.le_of_ble_eq_true rfl) ?_
  show sk_S l E (d + 0) _ 0 [some (.ref 70)] [] h _
  refine sk_S.gcs (dd DJ0_isLatin1_aae02 0 rfl) rfl ?_
  refine sk_S.if_eq (tgt := 17) (dd DJ0_isLatin1_aae02 1 rfl) (by decide) (fun c3 => absurd c3 (by decide)) (fun c3 => ?_)
  refine sk_S.aload_n (i := 0) (dd DJ0_isLatin1_aae02 2 rfl) rfl rfl ?_
  refine sk_S.strc (dd DJ0_isLatin1_aae02 3 rfl) rfl ?_
  refine sk_S.if_ne (tgt := 17) (dd DJ0_isLatin1_aae02 4 rfl) (by decide) (fun c10 => absurd rfl c10) (fun c10 => ?_)
  refine sk_S.iconst (v := 1) (dd DJ0_isLatin1_aae02 5 rfl) (by decide) ?_
  refine sk_S.goto (tgt := 18) (dd DJ0_isLatin1_aae02 6 rfl) (by decide) ?_
  refine sk_S.iret (dd DJ0_isLatin1_aae02 8 rfl) rfl rfl ?_
  exact ⟨rfl, rfl⟩
set_option maxRecDepth 100000 in
set_option maxHeartbeats 1000000 in
theorem cJ_length {l : Launch} {E : sk_V} {d : Nat} {h : sk_M}   : sk_K l E (d + 1) MJ0_length_8abf5 [.ref 70] h (fun r h1 => h = h1 ∧ some (.int 6) = r) := by
  refine sk_K.of (by decide +kernel) (Nat.le_of_ble_eq_true rfl) ?_
  show sk_S l E (d + 1) _ 0 [some (.ref 70)] [] h _
  refine sk_S.aload_n (i := 0) (dd DJ0_length_8abf5 0 rfl) rfl rfl ?_
  refine sk_S.strv (dd DJ0_length_8abf5 1 rfl) rfl ?_
  refine sk_S.stl (dd DJ0_length_8abf5 2 rfl) ?_
  refine sk_S.aload_n (i := 0) (dd DJ0_length_8abf5 3 rfl) rfl rfl ?_
  refine sk_S.callT (dd DJ0_length_8abf5 4 rfl) rfl kJ0_335 cJ_coder rfl rfl rfl rfl (Nat.le_of_ble_eq_true rfl) (fun r6 h6 q6 => ?_)
  obtain ⟨rfl, rfl⟩ := q6
  show sk_S _ _ _ _ _ _ (.int _ :: _) _ _
  refine sk_S.ishr (dd DJ0_length_8abf5 5 rfl) ?_
  refine sk_S.iret (dd DJ0_length_8abf5 6 rfl) rfl rfl ?_
  exact ⟨rfl, by decide⟩
set_option maxRecDepth 100000 in
set_option maxHeartbeats 1000000 in
theorem cJ_ck3n {l : Launch} {E : sk_V} {d : Nat} {h : sk_M} {j n : Nat} (hj : j < n) (hn : n < 2147483648) : sk_K l E (d + 0) MJ3_checkIndex_8e157 [.int (nI j), .int (nI n), .null] h (fun r h1 => h = h1 ∧ some (.int (nI j)) = r) := by
  refine sk_K.of (by decide +kernel) (Nat.le_of_ble_eq_true rfl) ?_
  show sk_S l E (d + 0) _ 0 [some (.int (nI j)), some (.int (nI n)), some (.null)] [] h _
  refine sk_S.iload_n (i := 0) (dd DJ3_checkIndex_8e157 0 rfl) rfl rfl ?_
  refine sk_S.if_lt (tgt := 9) (dd DJ3_checkIndex_8e157 1 rfl) (by decide) (fun c1 => absurd c1 (nI_pos (by omega))) (fun c1 => ?_)
  refine sk_S.iload_n (i := 0) (dd DJ3_checkIndex_8e157 2 rfl) rfl rfl ?_
  refine sk_S.iload_n (i := 1) (dd DJ3_checkIndex_8e157 3 rfl) rfl rfl ?_
  refine sk_S.icmp_lt (tgt := 16) (dd DJ3_checkIndex_8e157 4 rfl) (by decide) (fun c6 => ?_) (fun c6 => absurd (nI_lt hj hn) c6)
  refine sk_S.iload_n (i := 0) (dd DJ3_checkIndex_8e157 10 rfl) rfl rfl ?_
  refine sk_S.iret (dd DJ3_checkIndex_8e157 11 rfl) rfl rfl ?_
  exact ⟨rfl, rfl⟩
set_option maxRecDepth 100000 in
set_option maxHeartbeats 1000000 in
theorem cJ_ck3r {l : Launch} {E : sk_V} {d : Nat} {h : sk_M} {j n : Nat} (hj : j < n) (hn : n < 2147483648) : sk_K l E (d + 0) MJ3_checkIndex_8e157 [.int (nI j), .int (nI n), .ref 72] h (fun r h1 => h = h1 ∧ some (.int (nI j)) = r) := by
  refine sk_K.of (by decide +kernel) (Nat.le_of_ble_eq_true rfl) ?_
  show sk_S l E (d + 0) _ 0 [some (.int (nI j)), some (.int (nI n)), some (.ref 72)] [] h _
  refine sk_S.iload_n (i := 0) (dd DJ3_checkIndex_8e157 0 rfl) rfl rfl ?_
  refine sk_S.if_lt (tgt := 9) (dd DJ3_checkIndex_8e157 1 rfl) (by decide) (fun c1 => absurd c1 (nI_pos (by omega))) (fun c1 => ?_)
  refine sk_S.iload_n (i := 0) (dd DJ3_checkIndex_8e157 2 rfl) rfl rfl ?_
  refine sk_S.iload_n (i := 1) (dd DJ3_checkIndex_8e157 3 rfl) rfl rfl ?_
  refine sk_S.icmp_lt (tgt := 16) (dd DJ3_checkIndex_8e157 4 rfl) (by decide) (fun c6 => ?_) (fun c6 => absurd (nI_lt hj hn) c6)
  refine sk_S.iload_n (i := 0) (dd DJ3_checkIndex_8e157 10 rfl) rfl rfl ?_
  refine sk_S.iret (dd DJ3_checkIndex_8e157 11 rfl) rfl rfl ?_
  exact ⟨rfl, rfl⟩
set_option maxRecDepth 100000 in
set_option maxHeartbeats 1000000 in
theorem cJ_ck0 {l : Launch} {E : sk_V} {d : Nat} {h : sk_M} {j n : Nat} (hj : j < n) (hn : n < 2147483648) : sk_K l E (d + 1) MJ0_checkIndex_df160 [.int (nI j), .int (nI n)] h (fun r h1 => h = h1 ∧ none = r) := by
  refine sk_K.of (by decide +kernel) (Nat.le_of_ble_eq_true rfl) ?_
  show sk_S l E (d + 1) _ 0 [some (.int (nI j)), some (.int (nI n))] [] h _
  refine sk_S.iload_n (i := 0) (dd DJ0_checkIndex_df160 0 rfl) rfl rfl ?_
  refine sk_S.iload_n (i := 1) (dd DJ0_checkIndex_df160 1 rfl) rfl rfl ?_
  refine sk_S.gsq (dd DJ0_checkIndex_df160 2 rfl) rfl (by intro v hv; simp at hv; rcases hv with rfl | rfl <;> intro e <;> cases e) (by intro v hv; simp at hv; rcases hv with rfl | rfl <;> intro e <;> cases e) ?_ (fun t => ?_)
  · refine sk_S.callS (dd DJ0_checkIndex_df160 3 rfl) rfl kJ0_1059 (cJ_ck3n hj hn) rfl rfl rfl (Nat.le_of_ble_eq_true rfl) (fun r5 h5 q5 => ?_)
    obtain ⟨rfl, rfl⟩ := q5
    show sk_S _ _ _ _ _ _ (.int _ :: _) _ _
    refine sk_S.pop (dd DJ0_checkIndex_df160 4 rfl) rfl ?_
    refine sk_S.vret (dd DJ0_checkIndex_df160 5 rfl) rfl ?_
    exact ⟨rfl, rfl⟩
  · refine sk_S.callS (dd DJ0_checkIndex_df160 3 rfl) rfl kJ0_1059 (cJ_ck3r hj hn) rfl rfl rfl (Nat.le_of_ble_eq_true rfl) (fun r5 h5 q5 => ?_)
    obtain ⟨rfl, rfl⟩ := q5
    show sk_S _ _ _ _ _ _ (.int _ :: _) _ _
    refine sk_S.pop (dd DJ0_checkIndex_df160 4 rfl) rfl ?_
    refine sk_S.vret (dd DJ0_checkIndex_df160 5 rfl) rfl ?_
    exact ⟨rfl, rfl⟩
set_option maxRecDepth 100000 in
set_option maxHeartbeats 1000000 in
theorem cJ_charAt1 {l : Launch} {E : sk_V} {d : Nat} {h : sk_M} {j : Nat} (hj : j < 6) : sk_K l E (d + 2) MJ1_charAt_3b067 [.ref 71, .int (nI j)] h (fun r h1 => h = h1 ∧ some (.int (([99, 115, 110, 112, 116, 110] : List Int32).getD j 0)) = r) := by
  refine sk_K.of (by decide +kernel) (Nat.le_of_ble_eq_true rfl) ?_
  show sk_S l E (d + 2) _ 0 [some (.ref 71), some (.int (nI j))] [] h _
  refine sk_S.iload_n (i := 1) (dd DJ1_charAt_3b067 0 rfl) rfl rfl ?_
  refine sk_S.aload_n (i := 0) (dd DJ1_charAt_3b067 1 rfl) rfl rfl ?_
  refine sk_S.stl (dd DJ1_charAt_3b067 2 rfl) ?_
  refine sk_S.callS (dd DJ1_charAt_3b067 3 rfl) rfl kJ1_9 (cJ_ck0 (n := 6) hj (by decide)) rfl rfl rfl (Nat.le_of_ble_eq_true rfl) (fun r3 h3 q3 => ?_)
  obtain ⟨rfl, rfl⟩ := q3
  show sk_S _ _ _ _ 6 _ _ _ _
  refine sk_S.aload_n (i := 0) (dd DJ1_charAt_3b067 4 rfl) rfl rfl ?_
  refine sk_S.iload_n (i := 1) (dd DJ1_charAt_3b067 5 rfl) rfl rfl ?_
  refine sk_S.stb (dd DJ1_charAt_3b067 6 rfl) (sk_ix_nI (k := j) rfl hj (by decide)) rfl ?_
  refine sk_S.sipush (v := 255) (dd DJ1_charAt_3b067 7 rfl) (by decide) ?_
  refine sk_S.iand (dd DJ1_charAt_3b067 8 rfl) ?_
  refine sk_S.i2c (dd DJ1_charAt_3b067 9 rfl) ?_
  refine sk_S.V (([99, 115, 110, 112, 116, 110] : List Int32).getD j 0) (by rcases (by omega : j = 0 ∨ j = 1 ∨ j = 2 ∨ j = 3 ∨ j = 4 ∨ j = 5) with rfl | rfl | rfl | rfl | rfl | rfl <;> decide) ?_
  refine sk_S.iret (dd DJ1_charAt_3b067 10 rfl) rfl (by rcases (by omega : j = 0 ∨ j = 1 ∨ j = 2 ∨ j = 3 ∨ j = 4 ∨ j = 5) with rfl | rfl | rfl | rfl | rfl | rfl <;> rfl) ?_
  exact ⟨rfl, rfl⟩
set_option maxRecDepth 100000 in
set_option maxHeartbeats 1000000 in
theorem cJ_charAt {l : Launch} {E : sk_V} {d : Nat} {h : sk_M} {j : Nat} (hj : j < 6) : sk_K l E (d + 3) MJ0_charAt_5068e [.ref 70, .int (nI j)] h (fun r h1 => h = h1 ∧ some (.int (([99, 115, 110, 112, 116, 110] : List Int32).getD j 0)) = r) := by
  refine sk_K.of (by decide +kernel) (Nat.le_of_ble_eq_true rfl) ?_
  show sk_S l E (d + 3) _ 0 [some (.ref 70), some (.int (nI j))] [] h _
  refine sk_S.aload_n (i := 0) (dd DJ0_charAt_5068e 0 rfl) rfl rfl ?_
  refine sk_S.callT (dd DJ0_charAt_5068e 1 rfl) rfl kJ0_492 cJ_isLatin1 rfl rfl rfl rfl (Nat.le_of_ble_eq_true rfl) (fun r1 h1 q1 => ?_)
  obtain ⟨rfl, rfl⟩ := q1
  show sk_S _ _ _ _ _ _ (.int _ :: _) _ _
  refine sk_S.if_eq (tgt := 16) (dd DJ0_charAt_5068e 2 rfl) (by decide) (fun c4 => absurd c4 (by decide)) (fun c4 => ?_)
  refine sk_S.aload_n (i := 0) (dd DJ0_charAt_5068e 3 rfl) rfl rfl ?_
  refine sk_S.strv (dd DJ0_charAt_5068e 4 rfl) rfl ?_
  refine sk_S.iload_n (i := 1) (dd DJ0_charAt_5068e 5 rfl) rfl rfl ?_
  refine sk_S.callS (dd DJ0_charAt_5068e 6 rfl) rfl kJ0_495 (cJ_charAt1 hj) rfl rfl rfl (Nat.le_of_ble_eq_true rfl) (fun r12 h12 q12 => ?_)
  obtain ⟨rfl, rfl⟩ := q12
  show sk_S _ _ _ _ _ _ (.int _ :: _) _ _
  refine sk_S.iret (dd DJ0_charAt_5068e 7 rfl) rfl (by rcases (by omega : j = 0 ∨ j = 1 ∨ j = 2 ∨ j = 3 ∨ j = 4 ∨ j = 5) with rfl | rfl | rfl | rfl | rfl | rfl <;> rfl) ?_
  exact ⟨rfl, rfl⟩
set_option maxRecDepth 100000 in
set_option maxHeartbeats 1000000 in
theorem cR_next {l : Launch} {E : sk_V} {d : Nat} {h : sk_M} {ρ : Nat → Int32} {tp u p : Nat} (C : rdC h ρ tp u) (hp : h 3 4 = nI p) (hp60 : p ≤ 60) : sk_K l E (d + 0) MX3_next [.ref 3] h (fun r h1 => h = h1 ∧ some (.int (tkT ρ tp p)) = r) := by
  refine sk_K.of (by decide +kernel) (Nat.le_of_ble_eq_true rfl) ?_
  show sk_S l E (d + 0) _ 0 [some (.ref 3)] [] h _
  have ht := C.2.2.2.1
  refine sk_S.aload_n (i := 0) (dd DX3_next 0 rfl) rfl rfl ?_
  refine sk_S.geti (dd DX3_next 1 rfl) rfl fX3_41 se_3 (by decide) rfl ?_
  refine sk_S.aload_n (i := 0) (dd DX3_next 2 rfl) rfl rfl ?_
  refine sk_S.geti (dd DX3_next 3 rfl) rfl fX3_28 se_3 (by decide) rfl ?_
  refine sk_S.icmp_ge (tgt := 23) (dd DX3_next 4 rfl) (by decide) (fun c8 => ?_) (fun c8 => ?_)
  · refine sk_S.iconst (v := -1) (dd DX3_next 11 rfl) (by decide) ?_
    refine sk_S.iret (dd DX3_next 12 rfl) rfl rfl ?_
    refine ⟨rfl, ?_⟩
    rw [hp, C.1, nI_leI (a := tp) (b := p) (by omega) (by omega)] at c8
    unfold tkT
    rw [if_neg (by omega)]
  · have hlt : p < tp := by
      rw [hp, C.1, nI_leI (a := tp) (b := p) (by omega) (by omega)] at c8
      omega
    refine sk_S.aload_n (i := 0) (dd DX3_next 5 rfl) rfl rfl ?_
    refine sk_S.getr (dd DX3_next 6 rfl) rfl fX3_15 se_3 (by decide) rfl ?_
    refine sk_S.aload_n (i := 0) (dd DX3_next 7 rfl) rfl rfl ?_
    refine sk_S.geti (dd DX3_next 8 rfl) rfl fX3_41 se_3 (by decide) rfl ?_
    refine sk_S.iald (dd DX3_next 9 rfl) se_16 (sk_ix_nI (k := p) hp (by omega) (by decide)) ?_
    refine sk_S.goto (tgt := 24) (dd DX3_next 10 rfl) (by decide) ?_
    refine sk_S.iret (dd DX3_next 12 rfl) rfl rfl ?_
    refine ⟨rfl, ?_⟩
    rw [hp, C.1, nI_leI (a := tp) (b := p) (by omega) (by omega)] at c8
    unfold tkT
    rw [if_pos (by omega), C.2.2.1 p (by omega)]
set_option maxRecDepth 100000 in
set_option maxHeartbeats 1000000 in
theorem cR_isDigit {l : Launch} {E : sk_V} {d : Nat} {h : sk_M} {b : Int32}  : sk_K l E (d + 0) MX3_isDigit [.int b] h (fun r h1 => h = h1 ∧ some (.int (bi (48 ≤ b ∧ b ≤ 57))) = r) := by
  refine sk_K.of (by decide +kernel) (Nat.le_of_ble_eq_true rfl) ?_
  show sk_S l E (d + 0) _ 0 [some (.int b)] [] h _
  refine sk_S.iload_n (i := 0) (dd DX3_isDigit 0 rfl) rfl rfl ?_
  refine sk_S.bipush (v := 48) (dd DX3_isDigit 1 rfl) (by decide) ?_
  refine sk_S.icmp_lt (tgt := 16) (dd DX3_isDigit 2 rfl) (by decide) (fun c3 => ?_) (fun c3 => ?_)
  · refine sk_S.iconst (v := 0) (dd DX3_isDigit 8 rfl) (by decide) ?_
    refine sk_S.iret (dd DX3_isDigit 9 rfl) rfl rfl ?_
    refine ⟨rfl, ?_⟩
    unfold bi
    simp only [Int32.lt_iff_toInt_lt, Int32.le_iff_toInt_le] at *
    split <;> first | rfl | (exfalso; omega)
  · refine sk_S.iload_n (i := 0) (dd DX3_isDigit 3 rfl) rfl rfl ?_
    refine sk_S.bipush (v := 57) (dd DX3_isDigit 4 rfl) (by decide) ?_
    refine sk_S.icmp_gt (tgt := 16) (dd DX3_isDigit 5 rfl) (by decide) (fun c9 => ?_) (fun c9 => ?_)
    · refine sk_S.iconst (v := 0) (dd DX3_isDigit 8 rfl) (by decide) ?_
      refine sk_S.iret (dd DX3_isDigit 9 rfl) rfl rfl ?_
      refine ⟨rfl, ?_⟩
      unfold bi
      simp only [Int32.lt_iff_toInt_lt, Int32.le_iff_toInt_le] at *
      split <;> first | rfl | (exfalso; omega)
    · refine sk_S.iconst (v := 1) (dd DX3_isDigit 6 rfl) (by decide) ?_
      refine sk_S.goto (tgt := 17) (dd DX3_isDigit 7 rfl) (by decide) ?_
      refine sk_S.iret (dd DX3_isDigit 9 rfl) rfl rfl ?_
      refine ⟨rfl, ?_⟩
      unfold bi
      simp only [Int32.lt_iff_toInt_lt, Int32.le_iff_toInt_le] at *
      split <;> first | rfl | (exfalso; omega)
set_option maxRecDepth 100000 in
set_option maxHeartbeats 1000000 in
theorem cR_levelOf {l : Launch} {E : sk_V} {d : Nat} {h : sk_M} {b : Int32}  : sk_K l E (d + 0) MX3_levelOf [.int b] h (fun r h1 => h = h1 ∧ some (.int (nI (lvP b))) = r) := by
  refine sk_K.of (by decide +kernel) (Nat.le_of_ble_eq_true rfl) ?_
  show sk_S l E (d + 0) _ 0 [some (.int b)] [] h _
  refine sk_S.iload_n (i := 0) (dd DX3_levelOf 0 rfl) rfl rfl ?_
  refine sk_S.lookN (dd DX3_levelOf 1 rfl) (by decide) (by decide) (by decide) (fun i1 q1 w1 e1 => ?_) (fun e1 => ?_)
  · rcases i1 with _ | _ | _ | _ | _ | _ | _ | _ | _ | _ | i1
    · obtain rfl : (37, 99) = q1 := Option.some.inj w1
      show sk_S _ _ _ _ 100 _ _ _ _
      replace e1 : _ = (37 : Int32) := e1
      refine sk_S.iconst (v := 4) (dd DX3_levelOf 10 rfl) (by decide) ?_
      refine sk_S.iret (dd DX3_levelOf 11 rfl) rfl rfl ?_
      refine ⟨rfl, ?_⟩
      subst e1
      rfl
    · obtain rfl : (38, 93) = q1 := Option.some.inj w1
      show sk_S _ _ _ _ 94 _ _ _ _
      replace e1 : _ = (38 : Int32) := e1
      refine sk_S.iconst (v := 1) (dd DX3_levelOf 4 rfl) (by decide) ?_
      refine sk_S.iret (dd DX3_levelOf 5 rfl) rfl rfl ?_
      refine ⟨rfl, ?_⟩
      subst e1
      rfl
    · obtain rfl : (42, 99) = q1 := Option.some.inj w1
      show sk_S _ _ _ _ 100 _ _ _ _
      replace e1 : _ = (42 : Int32) := e1
      refine sk_S.iconst (v := 4) (dd DX3_levelOf 10 rfl) (by decide) ?_
      refine sk_S.iret (dd DX3_levelOf 11 rfl) rfl rfl ?_
      refine ⟨rfl, ?_⟩
      subst e1
      rfl
    · obtain rfl : (43, 97) = q1 := Option.some.inj w1
      show sk_S _ _ _ _ 98 _ _ _ _
      replace e1 : _ = (43 : Int32) := e1
      refine sk_S.iconst (v := 3) (dd DX3_levelOf 8 rfl) (by decide) ?_
      refine sk_S.iret (dd DX3_levelOf 9 rfl) rfl rfl ?_
      refine ⟨rfl, ?_⟩
      subst e1
      rfl
    · obtain rfl : (45, 97) = q1 := Option.some.inj w1
      show sk_S _ _ _ _ 98 _ _ _ _
      replace e1 : _ = (45 : Int32) := e1
      refine sk_S.iconst (v := 3) (dd DX3_levelOf 8 rfl) (by decide) ?_
      refine sk_S.iret (dd DX3_levelOf 9 rfl) rfl rfl ?_
      refine ⟨rfl, ?_⟩
      subst e1
      rfl
    · obtain rfl : (47, 99) = q1 := Option.some.inj w1
      show sk_S _ _ _ _ 100 _ _ _ _
      replace e1 : _ = (47 : Int32) := e1
      refine sk_S.iconst (v := 4) (dd DX3_levelOf 10 rfl) (by decide) ?_
      refine sk_S.iret (dd DX3_levelOf 11 rfl) rfl rfl ?_
      refine ⟨rfl, ?_⟩
      subst e1
      rfl
    · obtain rfl : (60, 95) = q1 := Option.some.inj w1
      show sk_S _ _ _ _ 96 _ _ _ _
      replace e1 : _ = (60 : Int32) := e1
      refine sk_S.iconst (v := 2) (dd DX3_levelOf 6 rfl) (by decide) ?_
      refine sk_S.iret (dd DX3_levelOf 7 rfl) rfl rfl ?_
      refine ⟨rfl, ?_⟩
      subst e1
      rfl
    · obtain rfl : (61, 95) = q1 := Option.some.inj w1
      show sk_S _ _ _ _ 96 _ _ _ _
      replace e1 : _ = (61 : Int32) := e1
      refine sk_S.iconst (v := 2) (dd DX3_levelOf 6 rfl) (by decide) ?_
      refine sk_S.iret (dd DX3_levelOf 7 rfl) rfl rfl ?_
      refine ⟨rfl, ?_⟩
      subst e1
      rfl
    · obtain rfl : (62, 95) = q1 := Option.some.inj w1
      show sk_S _ _ _ _ 96 _ _ _ _
      replace e1 : _ = (62 : Int32) := e1
      refine sk_S.iconst (v := 2) (dd DX3_levelOf 6 rfl) (by decide) ?_
      refine sk_S.iret (dd DX3_levelOf 7 rfl) rfl rfl ?_
      refine ⟨rfl, ?_⟩
      subst e1
      rfl
    · obtain rfl : (124, 91) = q1 := Option.some.inj w1
      show sk_S _ _ _ _ 92 _ _ _ _
      replace e1 : _ = (124 : Int32) := e1
      refine sk_S.iconst (v := 0) (dd DX3_levelOf 2 rfl) (by decide) ?_
      refine sk_S.iret (dd DX3_levelOf 3 rfl) rfl rfl ?_
      refine ⟨rfl, ?_⟩
      subst e1
      rfl
    · exact absurd w1 (by simp)
  · show sk_S _ _ _ _ 102 _ _ _ _
    have e1_ := (⟨e1 (37, 99) (by simp), e1 (38, 93) (by simp), e1 (42, 99) (by simp), e1 (43, 97) (by simp), e1 (45, 97) (by simp), e1 (47, 99) (by simp), e1 (60, 95) (by simp), e1 (61, 95) (by simp), e1 (62, 95) (by simp), e1 (124, 91) (by simp)⟩ : ¬ _ = (37 : Int32) ∧ ¬ _ = (38 : Int32) ∧ ¬ _ = (42 : Int32) ∧ ¬ _ = (43 : Int32) ∧ ¬ _ = (45 : Int32) ∧ ¬ _ = (47 : Int32) ∧ ¬ _ = (60 : Int32) ∧ ¬ _ = (61 : Int32) ∧ ¬ _ = (62 : Int32) ∧ ¬ _ = (124 : Int32))
    refine sk_S.iconst (v := 5) (dd DX3_levelOf 12 rfl) (by decide) ?_
    refine sk_S.iret (dd DX3_levelOf 13 rfl) rfl rfl ?_
    refine ⟨rfl, ?_⟩
    have e : lvP b = 5 := by
      obtain ⟨a1, a2, a3, a4, a5, a6, a7, a8, a9, a10⟩ := e1_
      simp [lvP, *]
    rw [e]
    rfl
set_option maxRecDepth 100000 in
set_option maxHeartbeats 1000000 in
theorem cR_write {l : Launch} {E : sk_V} {d : Nat} {h : sk_M} {x : Int32} {n : Nat} (hn : h 3 1 = nI n) (hn60 : n < 60) : sk_K l E (d + 0) MX3_write [.ref 3, .int x] h (fun r h1 => sk_u (sk_u h 15 n x) 3 1 (nI (n + 1)) = h1 ∧ none = r) := by
  refine sk_K.of (by decide +kernel) (Nat.le_of_ble_eq_true rfl) ?_
  show sk_S l E (d + 0) _ 0 [some (.ref 3), some (.int x)] [] h _
  refine sk_S.aload_n (i := 0) (dd DX3_write 0 rfl) rfl rfl ?_
  refine sk_S.geti (dd DX3_write 1 rfl) rfl fX3_44 se_3 (by decide) rfl ?_
  refine sk_S.bipush (v := 60) (dd DX3_write 2 rfl) (by decide) ?_
  refine sk_S.icmp_ge (tgt := 29) (dd DX3_write 3 rfl) (by decide) (fun c6 => absurd c6 (by rw [hn]; exact nI_ge (b := 60) hn60 (by decide))) (fun c6 => ?_)
  refine sk_S.aload_n (i := 0) (dd DX3_write 4 rfl) rfl rfl ?_
  refine sk_S.getr (dd DX3_write 5 rfl) rfl fX3_9 se_3 (by decide) rfl ?_
  refine sk_S.aload_n (i := 0) (dd DX3_write 6 rfl) rfl rfl ?_
  refine sk_S.geti (dd DX3_write 7 rfl) rfl fX3_44 se_3 (by decide) rfl ?_
  refine sk_S.iload_n (i := 1) (dd DX3_write 8 rfl) rfl rfl ?_
  refine sk_S.iast (dd DX3_write 9 rfl) se_15 (sk_ix_nI (k := n) hn hn60 (by decide)) ?_
  refine sk_S.aload_n (i := 0) (dd DX3_write 10 rfl) rfl rfl ?_
  refine sk_S.dup (dd DX3_write 11 rfl) rfl ?_
  refine sk_S.geti (dd DX3_write 12 rfl) rfl fX3_44 se_3 (by decide) rfl ?_
  refine sk_S.iconst (v := 1) (dd DX3_write 13 rfl) (by decide) ?_
  refine sk_S.iadd (dd DX3_write 14 rfl) ?_
  refine sk_S.V (nI (n + 1)) (by rw [sk_u_at, if_neg (by decide), hn, nI_1]) ?_
  refine sk_S.putf (dd DX3_write 15 rfl) rfl pX3_44 se_3 (by decide) rfl rfl rfl ?_
  refine sk_S.vret (dd DX3_write 16 rfl) rfl ?_
  exact ⟨rfl, rfl⟩
set_option maxRecDepth 100000 in
set_option maxHeartbeats 1000000 in
theorem cR_name0 {l : Launch} {E : sk_V} {d : Nat} {h : sk_M} {b : Int32} (hU : h 3 5 = nI 0) : sk_K l E (d + 4) MX3_nameOf [.ref 3, .int b] h (fun r h1 => h = h1 ∧ some (.int (nmC 0 b)) = r) := by
  refine sk_K.of (by decide +kernel) (Nat.le_of_ble_eq_true rfl) ?_
  show sk_S l E (d + 4) _ 0 [some (.ref 3), some (.int b), none, none] [] h _
  refine sk_S.iconst (v := 0) (dd DX3_nameOf 0 rfl) (by decide) ?_
  refine sk_S.istore_n (i := 2) (dd DX3_nameOf 1 rfl) rfl (Nat.le_of_ble_eq_true rfl) rfl ?_
  refine sk_S.iload_n (i := 2) (dd DX3_nameOf 2 rfl) rfl rfl ?_
  refine sk_S.iconst (v := 3) (dd DX3_nameOf 3 rfl) (by decide) ?_
  refine sk_S.icmp_ge (tgt := 45) (dd DX3_nameOf 4 rfl) (by decide) (fun c4 => absurd c4 (by decide)) (fun c4 => ?_)
  refine sk_S.aload_n (i := 0) (dd DX3_nameOf 5 rfl) rfl rfl ?_
  refine sk_S.geti (dd DX3_nameOf 6 rfl) rfl fX3_38 se_3 (by decide) rfl ?_
  refine sk_S.V 0 hU ?_
  refine sk_S.iconst (v := 3) (dd DX3_nameOf 7 rfl) (by decide) ?_
  refine sk_S.imul (dd DX3_nameOf 8 rfl) ?_
  refine sk_S.iload_n (i := 2) (dd DX3_nameOf 9 rfl) rfl rfl ?_
  refine sk_S.iadd (dd DX3_nameOf 10 rfl) ?_
  refine sk_S.istore_n (i := 3) (dd DX3_nameOf 11 rfl) rfl (Nat.le_of_ble_eq_true rfl) rfl ?_
  refine sk_S.iload_n (i := 3) (dd DX3_nameOf 12 rfl) rfl rfl ?_
  refine sk_S.ldcs (dd DX3_nameOf 13 rfl) rfl ?_
  refine sk_S.callT (dd DX3_nameOf 14 rfl) rfl kX3_84 cJ_length rfl rfl rfl rfl (Nat.le_of_ble_eq_true rfl) (fun r19 h19 q19 => ?_)
  obtain ⟨rfl, rfl⟩ := q19
  show sk_S _ _ _ _ _ _ (.int _ :: _) _ _
  refine sk_S.icmp_ge (tgt := 39) (dd DX3_nameOf 15 rfl) (by decide) (fun c22 => absurd c22 (by decide)) (fun c22 => ?_)
  refine sk_S.ldcs (dd DX3_nameOf 16 rfl) rfl ?_
  refine sk_S.iload_n (i := 3) (dd DX3_nameOf 17 rfl) rfl rfl ?_
  refine sk_S.V (nI 0) (by decide) ?_
  refine sk_S.callT (dd DX3_nameOf 18 rfl) rfl kX3_89 (cJ_charAt (by decide)) rfl rfl rfl rfl (Nat.le_of_ble_eq_true rfl) (fun r28 h28 q28 => ?_)
  obtain ⟨rfl, rfl⟩ := q28
  show sk_S _ _ _ _ _ _ (.int _ :: _) _ _
  refine sk_S.iload_n (i := 1) (dd DX3_nameOf 19 rfl) rfl rfl ?_
  refine sk_S.icmp_ne (tgt := 39) (dd DX3_nameOf 20 rfl) (by decide) (fun c32 => ?_) (fun c32 => ?_)
  · have n0 : ¬ b = 99 := fun q => c32 q.symm
    refine sk_S.iinc (i := 2) (v := _ + 1) (dd DX3_nameOf 25 rfl) rfl rfl rfl ?_
    refine sk_S.goto (tgt := 2) (dd DX3_nameOf 26 rfl) (by decide) ?_
    refine sk_S.iload_n (i := 2) (dd DX3_nameOf 2 rfl) rfl rfl ?_
    refine sk_S.iconst (v := 3) (dd DX3_nameOf 3 rfl) (by decide) ?_
    refine sk_S.icmp_ge (tgt := 45) (dd DX3_nameOf 4 rfl) (by decide) (fun c4 => absurd c4 (by decide)) (fun c4 => ?_)
    refine sk_S.aload_n (i := 0) (dd DX3_nameOf 5 rfl) rfl rfl ?_
    refine sk_S.geti (dd DX3_nameOf 6 rfl) rfl fX3_38 se_3 (by decide) rfl ?_
    refine sk_S.V 0 hU ?_
    refine sk_S.iconst (v := 3) (dd DX3_nameOf 7 rfl) (by decide) ?_
    refine sk_S.imul (dd DX3_nameOf 8 rfl) ?_
    refine sk_S.iload_n (i := 2) (dd DX3_nameOf 9 rfl) rfl rfl ?_
    refine sk_S.iadd (dd DX3_nameOf 10 rfl) ?_
    refine sk_S.istore_n (i := 3) (dd DX3_nameOf 11 rfl) rfl (Nat.le_of_ble_eq_true rfl) rfl ?_
    refine sk_S.iload_n (i := 3) (dd DX3_nameOf 12 rfl) rfl rfl ?_
    refine sk_S.ldcs (dd DX3_nameOf 13 rfl) rfl ?_
    refine sk_S.callT (dd DX3_nameOf 14 rfl) rfl kX3_84 cJ_length rfl rfl rfl rfl (Nat.le_of_ble_eq_true rfl) (fun r19 h19 q19 => ?_)
    obtain ⟨rfl, rfl⟩ := q19
    show sk_S _ _ _ _ _ _ (.int _ :: _) _ _
    refine sk_S.icmp_ge (tgt := 39) (dd DX3_nameOf 15 rfl) (by decide) (fun c22 => absurd c22 (by decide)) (fun c22 => ?_)
    refine sk_S.ldcs (dd DX3_nameOf 16 rfl) rfl ?_
    refine sk_S.iload_n (i := 3) (dd DX3_nameOf 17 rfl) rfl rfl ?_
    refine sk_S.V (nI 1) (by decide) ?_
    refine sk_S.callT (dd DX3_nameOf 18 rfl) rfl kX3_89 (cJ_charAt (by decide)) rfl rfl rfl rfl (Nat.le_of_ble_eq_true rfl) (fun r28 h28 q28 => ?_)
    obtain ⟨rfl, rfl⟩ := q28
    show sk_S _ _ _ _ _ _ (.int _ :: _) _ _
    refine sk_S.iload_n (i := 1) (dd DX3_nameOf 19 rfl) rfl rfl ?_
    refine sk_S.icmp_ne (tgt := 39) (dd DX3_nameOf 20 rfl) (by decide) (fun c32 => ?_) (fun c32 => ?_)
    · have n1 : ¬ b = 115 := fun q => c32 q.symm
      refine sk_S.iinc (i := 2) (v := _ + 1) (dd DX3_nameOf 25 rfl) rfl rfl rfl ?_
      refine sk_S.goto (tgt := 2) (dd DX3_nameOf 26 rfl) (by decide) ?_
      refine sk_S.iload_n (i := 2) (dd DX3_nameOf 2 rfl) rfl rfl ?_
      refine sk_S.iconst (v := 3) (dd DX3_nameOf 3 rfl) (by decide) ?_
      refine sk_S.icmp_ge (tgt := 45) (dd DX3_nameOf 4 rfl) (by decide) (fun c4 => absurd c4 (by decide)) (fun c4 => ?_)
      refine sk_S.aload_n (i := 0) (dd DX3_nameOf 5 rfl) rfl rfl ?_
      refine sk_S.geti (dd DX3_nameOf 6 rfl) rfl fX3_38 se_3 (by decide) rfl ?_
      refine sk_S.V 0 hU ?_
      refine sk_S.iconst (v := 3) (dd DX3_nameOf 7 rfl) (by decide) ?_
      refine sk_S.imul (dd DX3_nameOf 8 rfl) ?_
      refine sk_S.iload_n (i := 2) (dd DX3_nameOf 9 rfl) rfl rfl ?_
      refine sk_S.iadd (dd DX3_nameOf 10 rfl) ?_
      refine sk_S.istore_n (i := 3) (dd DX3_nameOf 11 rfl) rfl (Nat.le_of_ble_eq_true rfl) rfl ?_
      refine sk_S.iload_n (i := 3) (dd DX3_nameOf 12 rfl) rfl rfl ?_
      refine sk_S.ldcs (dd DX3_nameOf 13 rfl) rfl ?_
      refine sk_S.callT (dd DX3_nameOf 14 rfl) rfl kX3_84 cJ_length rfl rfl rfl rfl (Nat.le_of_ble_eq_true rfl) (fun r19 h19 q19 => ?_)
      obtain ⟨rfl, rfl⟩ := q19
      show sk_S _ _ _ _ _ _ (.int _ :: _) _ _
      refine sk_S.icmp_ge (tgt := 39) (dd DX3_nameOf 15 rfl) (by decide) (fun c22 => absurd c22 (by decide)) (fun c22 => ?_)
      refine sk_S.ldcs (dd DX3_nameOf 16 rfl) rfl ?_
      refine sk_S.iload_n (i := 3) (dd DX3_nameOf 17 rfl) rfl rfl ?_
      refine sk_S.V (nI 2) (by decide) ?_
      refine sk_S.callT (dd DX3_nameOf 18 rfl) rfl kX3_89 (cJ_charAt (by decide)) rfl rfl rfl rfl (Nat.le_of_ble_eq_true rfl) (fun r28 h28 q28 => ?_)
      obtain ⟨rfl, rfl⟩ := q28
      show sk_S _ _ _ _ _ _ (.int _ :: _) _ _
      refine sk_S.iload_n (i := 1) (dd DX3_nameOf 19 rfl) rfl rfl ?_
      refine sk_S.icmp_ne (tgt := 39) (dd DX3_nameOf 20 rfl) (by decide) (fun c32 => ?_) (fun c32 => ?_)
      · have n2 : ¬ b = 110 := fun q => c32 q.symm
        refine sk_S.iinc (i := 2) (v := _ + 1) (dd DX3_nameOf 25 rfl) rfl rfl rfl ?_
        refine sk_S.goto (tgt := 2) (dd DX3_nameOf 26 rfl) (by decide) ?_
        refine sk_S.iload_n (i := 2) (dd DX3_nameOf 2 rfl) rfl rfl ?_
        refine sk_S.iconst (v := 3) (dd DX3_nameOf 3 rfl) (by decide) ?_
        refine sk_S.icmp_ge (tgt := 45) (dd DX3_nameOf 4 rfl) (by decide) (fun c4 => ?_) (fun c4 => absurd (by decide) c4)
        refine sk_S.iconst (v := 0) (dd DX3_nameOf 27 rfl) (by decide) ?_
        refine sk_S.iret (dd DX3_nameOf 28 rfl) rfl rfl ?_
        refine ⟨rfl, ?_⟩
        unfold nmC nmI
        rw [if_neg n2]
        have z : (if b = 99 then (if 0 = 0 then 0 else -1 : Int32) else if b = 115 then (if 0 = 0 then 1 else -1) else if b = 112 then (if 0 = 1 then 0 else -1) else if b = 116 then (if 0 = 1 then 1 else -1) else -1) = -1 := by simp [n0, n1]
        rw [z]
        rfl
      · refine sk_S.iconst (v := -1) (dd DX3_nameOf 21 rfl) (by decide) ?_
        refine sk_S.iload_n (i := 2) (dd DX3_nameOf 22 rfl) rfl rfl ?_
        refine sk_S.isub (dd DX3_nameOf 23 rfl) ?_
        refine sk_S.iret (dd DX3_nameOf 24 rfl) rfl rfl ?_
        refine ⟨rfl, ?_⟩
        have e : b = 110 := c32.symm
        subst e
        rfl
    · refine sk_S.iconst (v := -1) (dd DX3_nameOf 21 rfl) (by decide) ?_
      refine sk_S.iload_n (i := 2) (dd DX3_nameOf 22 rfl) rfl rfl ?_
      refine sk_S.isub (dd DX3_nameOf 23 rfl) ?_
      refine sk_S.iret (dd DX3_nameOf 24 rfl) rfl rfl ?_
      refine ⟨rfl, ?_⟩
      have e : b = 115 := c32.symm
      subst e
      rfl
  · refine sk_S.iconst (v := -1) (dd DX3_nameOf 21 rfl) (by decide) ?_
    refine sk_S.iload_n (i := 2) (dd DX3_nameOf 22 rfl) rfl rfl ?_
    refine sk_S.isub (dd DX3_nameOf 23 rfl) ?_
    refine sk_S.iret (dd DX3_nameOf 24 rfl) rfl rfl ?_
    refine ⟨rfl, ?_⟩
    have e : b = 99 := c32.symm
    subst e
    rfl
set_option maxRecDepth 100000 in
set_option maxHeartbeats 1000000 in
theorem cR_name1 {l : Launch} {E : sk_V} {d : Nat} {h : sk_M} {b : Int32} (hU : h 3 5 = nI 1) : sk_K l E (d + 4) MX3_nameOf [.ref 3, .int b] h (fun r h1 => h = h1 ∧ some (.int (nmC 1 b)) = r) := by
  refine sk_K.of (by decide +kernel) (Nat.le_of_ble_eq_true rfl) ?_
  show sk_S l E (d + 4) _ 0 [some (.ref 3), some (.int b), none, none] [] h _
  refine sk_S.iconst (v := 0) (dd DX3_nameOf 0 rfl) (by decide) ?_
  refine sk_S.istore_n (i := 2) (dd DX3_nameOf 1 rfl) rfl (Nat.le_of_ble_eq_true rfl) rfl ?_
  refine sk_S.iload_n (i := 2) (dd DX3_nameOf 2 rfl) rfl rfl ?_
  refine sk_S.iconst (v := 3) (dd DX3_nameOf 3 rfl) (by decide) ?_
  refine sk_S.icmp_ge (tgt := 45) (dd DX3_nameOf 4 rfl) (by decide) (fun c4 => absurd c4 (by decide)) (fun c4 => ?_)
  refine sk_S.aload_n (i := 0) (dd DX3_nameOf 5 rfl) rfl rfl ?_
  refine sk_S.geti (dd DX3_nameOf 6 rfl) rfl fX3_38 se_3 (by decide) rfl ?_
  refine sk_S.V 1 hU ?_
  refine sk_S.iconst (v := 3) (dd DX3_nameOf 7 rfl) (by decide) ?_
  refine sk_S.imul (dd DX3_nameOf 8 rfl) ?_
  refine sk_S.iload_n (i := 2) (dd DX3_nameOf 9 rfl) rfl rfl ?_
  refine sk_S.iadd (dd DX3_nameOf 10 rfl) ?_
  refine sk_S.istore_n (i := 3) (dd DX3_nameOf 11 rfl) rfl (Nat.le_of_ble_eq_true rfl) rfl ?_
  refine sk_S.iload_n (i := 3) (dd DX3_nameOf 12 rfl) rfl rfl ?_
  refine sk_S.ldcs (dd DX3_nameOf 13 rfl) rfl ?_
  refine sk_S.callT (dd DX3_nameOf 14 rfl) rfl kX3_84 cJ_length rfl rfl rfl rfl (Nat.le_of_ble_eq_true rfl) (fun r19 h19 q19 => ?_)
  obtain ⟨rfl, rfl⟩ := q19
  show sk_S _ _ _ _ _ _ (.int _ :: _) _ _
  refine sk_S.icmp_ge (tgt := 39) (dd DX3_nameOf 15 rfl) (by decide) (fun c22 => absurd c22 (by decide)) (fun c22 => ?_)
  refine sk_S.ldcs (dd DX3_nameOf 16 rfl) rfl ?_
  refine sk_S.iload_n (i := 3) (dd DX3_nameOf 17 rfl) rfl rfl ?_
  refine sk_S.V (nI 3) (by decide) ?_
  refine sk_S.callT (dd DX3_nameOf 18 rfl) rfl kX3_89 (cJ_charAt (by decide)) rfl rfl rfl rfl (Nat.le_of_ble_eq_true rfl) (fun r28 h28 q28 => ?_)
  obtain ⟨rfl, rfl⟩ := q28
  show sk_S _ _ _ _ _ _ (.int _ :: _) _ _
  refine sk_S.iload_n (i := 1) (dd DX3_nameOf 19 rfl) rfl rfl ?_
  refine sk_S.icmp_ne (tgt := 39) (dd DX3_nameOf 20 rfl) (by decide) (fun c32 => ?_) (fun c32 => ?_)
  · have n0 : ¬ b = 112 := fun q => c32 q.symm
    refine sk_S.iinc (i := 2) (v := _ + 1) (dd DX3_nameOf 25 rfl) rfl rfl rfl ?_
    refine sk_S.goto (tgt := 2) (dd DX3_nameOf 26 rfl) (by decide) ?_
    refine sk_S.iload_n (i := 2) (dd DX3_nameOf 2 rfl) rfl rfl ?_
    refine sk_S.iconst (v := 3) (dd DX3_nameOf 3 rfl) (by decide) ?_
    refine sk_S.icmp_ge (tgt := 45) (dd DX3_nameOf 4 rfl) (by decide) (fun c4 => absurd c4 (by decide)) (fun c4 => ?_)
    refine sk_S.aload_n (i := 0) (dd DX3_nameOf 5 rfl) rfl rfl ?_
    refine sk_S.geti (dd DX3_nameOf 6 rfl) rfl fX3_38 se_3 (by decide) rfl ?_
    refine sk_S.V 1 hU ?_
    refine sk_S.iconst (v := 3) (dd DX3_nameOf 7 rfl) (by decide) ?_
    refine sk_S.imul (dd DX3_nameOf 8 rfl) ?_
    refine sk_S.iload_n (i := 2) (dd DX3_nameOf 9 rfl) rfl rfl ?_
    refine sk_S.iadd (dd DX3_nameOf 10 rfl) ?_
    refine sk_S.istore_n (i := 3) (dd DX3_nameOf 11 rfl) rfl (Nat.le_of_ble_eq_true rfl) rfl ?_
    refine sk_S.iload_n (i := 3) (dd DX3_nameOf 12 rfl) rfl rfl ?_
    refine sk_S.ldcs (dd DX3_nameOf 13 rfl) rfl ?_
    refine sk_S.callT (dd DX3_nameOf 14 rfl) rfl kX3_84 cJ_length rfl rfl rfl rfl (Nat.le_of_ble_eq_true rfl) (fun r19 h19 q19 => ?_)
    obtain ⟨rfl, rfl⟩ := q19
    show sk_S _ _ _ _ _ _ (.int _ :: _) _ _
    refine sk_S.icmp_ge (tgt := 39) (dd DX3_nameOf 15 rfl) (by decide) (fun c22 => absurd c22 (by decide)) (fun c22 => ?_)
    refine sk_S.ldcs (dd DX3_nameOf 16 rfl) rfl ?_
    refine sk_S.iload_n (i := 3) (dd DX3_nameOf 17 rfl) rfl rfl ?_
    refine sk_S.V (nI 4) (by decide) ?_
    refine sk_S.callT (dd DX3_nameOf 18 rfl) rfl kX3_89 (cJ_charAt (by decide)) rfl rfl rfl rfl (Nat.le_of_ble_eq_true rfl) (fun r28 h28 q28 => ?_)
    obtain ⟨rfl, rfl⟩ := q28
    show sk_S _ _ _ _ _ _ (.int _ :: _) _ _
    refine sk_S.iload_n (i := 1) (dd DX3_nameOf 19 rfl) rfl rfl ?_
    refine sk_S.icmp_ne (tgt := 39) (dd DX3_nameOf 20 rfl) (by decide) (fun c32 => ?_) (fun c32 => ?_)
    · have n1 : ¬ b = 116 := fun q => c32 q.symm
      refine sk_S.iinc (i := 2) (v := _ + 1) (dd DX3_nameOf 25 rfl) rfl rfl rfl ?_
      refine sk_S.goto (tgt := 2) (dd DX3_nameOf 26 rfl) (by decide) ?_
      refine sk_S.iload_n (i := 2) (dd DX3_nameOf 2 rfl) rfl rfl ?_
      refine sk_S.iconst (v := 3) (dd DX3_nameOf 3 rfl) (by decide) ?_
      refine sk_S.icmp_ge (tgt := 45) (dd DX3_nameOf 4 rfl) (by decide) (fun c4 => absurd c4 (by decide)) (fun c4 => ?_)
      refine sk_S.aload_n (i := 0) (dd DX3_nameOf 5 rfl) rfl rfl ?_
      refine sk_S.geti (dd DX3_nameOf 6 rfl) rfl fX3_38 se_3 (by decide) rfl ?_
      refine sk_S.V 1 hU ?_
      refine sk_S.iconst (v := 3) (dd DX3_nameOf 7 rfl) (by decide) ?_
      refine sk_S.imul (dd DX3_nameOf 8 rfl) ?_
      refine sk_S.iload_n (i := 2) (dd DX3_nameOf 9 rfl) rfl rfl ?_
      refine sk_S.iadd (dd DX3_nameOf 10 rfl) ?_
      refine sk_S.istore_n (i := 3) (dd DX3_nameOf 11 rfl) rfl (Nat.le_of_ble_eq_true rfl) rfl ?_
      refine sk_S.iload_n (i := 3) (dd DX3_nameOf 12 rfl) rfl rfl ?_
      refine sk_S.ldcs (dd DX3_nameOf 13 rfl) rfl ?_
      refine sk_S.callT (dd DX3_nameOf 14 rfl) rfl kX3_84 cJ_length rfl rfl rfl rfl (Nat.le_of_ble_eq_true rfl) (fun r19 h19 q19 => ?_)
      obtain ⟨rfl, rfl⟩ := q19
      show sk_S _ _ _ _ _ _ (.int _ :: _) _ _
      refine sk_S.icmp_ge (tgt := 39) (dd DX3_nameOf 15 rfl) (by decide) (fun c22 => absurd c22 (by decide)) (fun c22 => ?_)
      refine sk_S.ldcs (dd DX3_nameOf 16 rfl) rfl ?_
      refine sk_S.iload_n (i := 3) (dd DX3_nameOf 17 rfl) rfl rfl ?_
      refine sk_S.V (nI 5) (by decide) ?_
      refine sk_S.callT (dd DX3_nameOf 18 rfl) rfl kX3_89 (cJ_charAt (by decide)) rfl rfl rfl rfl (Nat.le_of_ble_eq_true rfl) (fun r28 h28 q28 => ?_)
      obtain ⟨rfl, rfl⟩ := q28
      show sk_S _ _ _ _ _ _ (.int _ :: _) _ _
      refine sk_S.iload_n (i := 1) (dd DX3_nameOf 19 rfl) rfl rfl ?_
      refine sk_S.icmp_ne (tgt := 39) (dd DX3_nameOf 20 rfl) (by decide) (fun c32 => ?_) (fun c32 => ?_)
      · have n2 : ¬ b = 110 := fun q => c32 q.symm
        refine sk_S.iinc (i := 2) (v := _ + 1) (dd DX3_nameOf 25 rfl) rfl rfl rfl ?_
        refine sk_S.goto (tgt := 2) (dd DX3_nameOf 26 rfl) (by decide) ?_
        refine sk_S.iload_n (i := 2) (dd DX3_nameOf 2 rfl) rfl rfl ?_
        refine sk_S.iconst (v := 3) (dd DX3_nameOf 3 rfl) (by decide) ?_
        refine sk_S.icmp_ge (tgt := 45) (dd DX3_nameOf 4 rfl) (by decide) (fun c4 => ?_) (fun c4 => absurd (by decide) c4)
        refine sk_S.iconst (v := 0) (dd DX3_nameOf 27 rfl) (by decide) ?_
        refine sk_S.iret (dd DX3_nameOf 28 rfl) rfl rfl ?_
        refine ⟨rfl, ?_⟩
        unfold nmC nmI
        rw [if_neg n2]
        have z : (if b = 99 then (if 1 = 0 then 0 else -1 : Int32) else if b = 115 then (if 1 = 0 then 1 else -1) else if b = 112 then (if 1 = 1 then 0 else -1) else if b = 116 then (if 1 = 1 then 1 else -1) else -1) = -1 := by simp [n0, n1]
        rw [z]
        rfl
      · refine sk_S.iconst (v := -1) (dd DX3_nameOf 21 rfl) (by decide) ?_
        refine sk_S.iload_n (i := 2) (dd DX3_nameOf 22 rfl) rfl rfl ?_
        refine sk_S.isub (dd DX3_nameOf 23 rfl) ?_
        refine sk_S.iret (dd DX3_nameOf 24 rfl) rfl rfl ?_
        refine ⟨rfl, ?_⟩
        have e : b = 110 := c32.symm
        subst e
        rfl
    · refine sk_S.iconst (v := -1) (dd DX3_nameOf 21 rfl) (by decide) ?_
      refine sk_S.iload_n (i := 2) (dd DX3_nameOf 22 rfl) rfl rfl ?_
      refine sk_S.isub (dd DX3_nameOf 23 rfl) ?_
      refine sk_S.iret (dd DX3_nameOf 24 rfl) rfl rfl ?_
      refine ⟨rfl, ?_⟩
      have e : b = 116 := c32.symm
      subst e
      rfl
  · refine sk_S.iconst (v := -1) (dd DX3_nameOf 21 rfl) (by decide) ?_
    refine sk_S.iload_n (i := 2) (dd DX3_nameOf 22 rfl) rfl rfl ?_
    refine sk_S.isub (dd DX3_nameOf 23 rfl) ?_
    refine sk_S.iret (dd DX3_nameOf 24 rfl) rfl rfl ?_
    refine ⟨rfl, ?_⟩
    have e : b = 112 := c32.symm
    subst e
    rfl
theorem cR_nameOf {l : Launch} {E : sk_V} {d : Nat} {h : sk_M} {b : Int32} {u : Nat} (hU : h 3 5 = nI u) (hu : u < 2) : sk_K l E (d + 4) MX3_nameOf [.ref 3, .int b] h (fun r h1 => h = h1 ∧ some (.int (nmC u b)) = r) := by
  rcases (by omega : u = 0 ∨ u = 1) with rfl | rfl
  · exact cR_name0 hU
  · exact cR_name1 hU
set_option maxRecDepth 100000 in
set_option maxHeartbeats 1000000 in
theorem lq_num {l : Launch} {E : sk_V} {d : Nat} {ρ : Nat → Int32} {tp u : Nat} : ∀ (c dg p : Nat) (v : Int32) (g : sk_M), dg + c = 4 → rdC g ρ tp u → g 3 4 = nI p → p ≤ tp → sk_S l E (d + 1) MX3_readNumber 4 [some (.ref 3), some (.int v), some (.int (nI dg))] [] g (fun r h1 => sk_o [3] g h1 ∧ (∀ k, ¬ k = 4 → h1 3 k = g 3 k) ∧ h1 3 4 = nI (nuL (tkT ρ tp) c p v).1 ∧ some (.int (nuL (tkT ρ tp) c p v).2) = r)
  | 0, dg, p, v, g, hd, Cg, hp, hpt => by
    have e : dg = 4 := by omega
    subst e
    refine sk_S.iload_n (i := 2) (dd DX3_readNumber 4 rfl) rfl rfl ?_
    refine sk_S.iconst (v := 4) (dd DX3_readNumber 5 rfl) (by decide) ?_
    refine sk_S.icmp_ge (tgt := 48) (dd DX3_readNumber 6 rfl) (by decide) (fun c6 => ?_) (fun c6 => absurd (by decide) c6)
    refine sk_S.iload_n (i := 1) (dd DX3_readNumber 28 rfl) rfl rfl ?_
    refine sk_S.iret (dd DX3_readNumber 29 rfl) rfl rfl ?_
    exact ⟨sk_o.rf, fun _ _ => rfl, hp, rfl⟩
  | c + 1, dg, p, v, g, hd, Cg, hp, hpt => by
    have ht := Cg.2.2.2.1
    refine sk_S.iload_n (i := 2) (dd DX3_readNumber 4 rfl) rfl rfl ?_
    refine sk_S.iconst (v := 4) (dd DX3_readNumber 5 rfl) (by decide) ?_
    refine sk_S.icmp_ge (tgt := 48) (dd DX3_readNumber 6 rfl) (by decide) (fun c6 => absurd c6 (by exact nI_ge (b := 4) (by omega) (by decide))) (fun c6 => ?_)
    refine sk_S.aload_n (i := 0) (dd DX3_readNumber 7 rfl) rfl rfl ?_
    refine sk_S.callV (dd DX3_readNumber 8 rfl) rfl kX3_55 (cR_next Cg hp (by omega)) se_3 (by decide) rfl rfl rfl rfl (Nat.le_of_ble_eq_true rfl) (fun r10 h10 q10 => ?_)
    obtain ⟨rfl, rfl⟩ := q10
    show sk_S _ _ _ _ _ _ (.int _ :: _) _ _
    refine sk_S.callS (dd DX3_readNumber 9 rfl) rfl kX3_67 cR_isDigit rfl rfl rfl (Nat.le_of_ble_eq_true rfl) (fun r13 h13 q13 => ?_)
    obtain ⟨rfl, rfl⟩ := q13
    show sk_S _ _ _ _ _ _ (.int _ :: _) _ _
    refine sk_S.bif_eq (tgt := 48) (dd DX3_readNumber 10 rfl) (by decide) (fun c16 => ?_) (fun c16 => ?_)
    · refine sk_S.iload_n (i := 1) (dd DX3_readNumber 28 rfl) rfl rfl ?_
      refine sk_S.iret (dd DX3_readNumber 29 rfl) rfl rfl ?_
      rw [nuL_0 c16]
      exact ⟨sk_o.rf, fun _ _ => rfl, hp, rfl⟩
    · refine sk_S.iload_n (i := 1) (dd DX3_readNumber 11 rfl) rfl rfl ?_
      refine sk_S.bipush (v := 10) (dd DX3_readNumber 12 rfl) (by decide) ?_
      refine sk_S.imul (dd DX3_readNumber 13 rfl) ?_
      refine sk_S.aload_n (i := 0) (dd DX3_readNumber 14 rfl) rfl rfl ?_
      refine sk_S.callV (dd DX3_readNumber 15 rfl) rfl kX3_55 (cR_next Cg hp (by omega)) se_3 (by decide) rfl rfl rfl rfl (Nat.le_of_ble_eq_true rfl) (fun r24 h24 q24 => ?_)
      obtain ⟨rfl, rfl⟩ := q24
      show sk_S _ _ _ _ _ _ (.int _ :: _) _ _
      refine sk_S.iadd (dd DX3_readNumber 16 rfl) ?_
      refine sk_S.bipush (v := 48) (dd DX3_readNumber 17 rfl) (by decide) ?_
      refine sk_S.isub (dd DX3_readNumber 18 rfl) ?_
      refine sk_S.istore_n (i := 1) (dd DX3_readNumber 19 rfl) rfl (Nat.le_of_ble_eq_true rfl) rfl ?_
      refine sk_S.aload_n (i := 0) (dd DX3_readNumber 20 rfl) rfl rfl ?_
      refine sk_S.dup (dd DX3_readNumber 21 rfl) rfl ?_
      refine sk_S.geti (dd DX3_readNumber 22 rfl) rfl fX3_41 se_3 (by decide) rfl ?_
      refine sk_S.iconst (v := 1) (dd DX3_readNumber 23 rfl) (by decide) ?_
      refine sk_S.iadd (dd DX3_readNumber 24 rfl) ?_
      refine sk_S.putf (dd DX3_readNumber 25 rfl) rfl pX3_41 se_3 (by decide) rfl rfl rfl ?_
      refine sk_S.iinc (i := 2) (v := _ + 1) (dd DX3_readNumber 26 rfl) rfl rfl rfl ?_
      refine sk_S.goto (tgt := 4) (dd DX3_readNumber 27 rfl) (by decide) ?_
      have e2 : nuL (tkT ρ tp) (c + 1) p v = nuL (tkT ρ tp) c (p + 1) (v * 10 + tkT ρ tp p - 48) := by rw [nuL_1 c16, Int32.mul_comm 10 v]
      rw [e2]
      have Cs : rdC (sk_u g 3 4 (g 3 4 + 1)) ρ tp u := ⟨by rw [sk_u_at, if_pos rfl, if_neg (by decide)]; exact Cg.1, by rw [sk_u_at, if_pos rfl, if_neg (by decide)]; exact Cg.2.1, fun k hk => by rw [sk_u_at, if_neg (by decide)]; exact Cg.2.2.1 k hk, Cg.2.2.2⟩
      refine sk_S.L (sk_S.mono (lq_num c (dg + 1) (p + 1) (v * 10 + tkT ρ tp p - 48) (sk_u g 3 4 (g 3 4 + 1)) (by omega) Cs (by rw [sk_u_at, if_pos rfl, if_pos rfl, hp, nI_succ]) (tk_dg c16)) (fun r h1 z => ?_)) (by rw [nI_succ]; rfl)
      obtain ⟨z1, z2, z3, z4⟩ := z
      exact ⟨(sk_o.rf.u (by decide)).tr z1, fun k hk => (z2 k hk).trans (by rw [sk_u_at, if_pos rfl, if_neg hk]), z3, z4⟩
set_option maxRecDepth 100000 in
set_option maxHeartbeats 1000000 in
theorem cR_number {l : Launch} {E : sk_V} {d : Nat} {h : sk_M} {ρ : Nat → Int32} {tp u p : Nat} (Cg : rdC h ρ tp u) (hp : h 3 4 = nI p) (hpt : p ≤ tp) : sk_K l E (d + 1) MX3_readNumber [.ref 3] h (fun r h1 => sk_o [3] h h1 ∧ (∀ k, ¬ k = 4 → h1 3 k = h 3 k) ∧ h1 3 4 = nI (nuL (tkT ρ tp) 4 p 0).1 ∧ some (.int (nuL (tkT ρ tp) 4 p 0).2) = r) := by
  refine sk_K.of (by decide +kernel) (Nat.le_of_ble_eq_true rfl) ?_
  show sk_S l E (d + 1) _ 0 [some (.ref 3), none, none] [] h _
  refine sk_S.iconst (v := 0) (dd DX3_readNumber 0 rfl) (by decide) ?_
  refine sk_S.istore_n (i := 1) (dd DX3_readNumber 1 rfl) rfl (Nat.le_of_ble_eq_true rfl) rfl ?_
  refine sk_S.iconst (v := 0) (dd DX3_readNumber 2 rfl) (by decide) ?_
  refine sk_S.istore_n (i := 2) (dd DX3_readNumber 3 rfl) rfl (Nat.le_of_ble_eq_true rfl) rfl ?_
  exact lq_num 4 0 p 0 h rfl Cg hp hpt
end C9
