section C11
theorem RQ.u_b0 {h : sk_M} {g : Nat → Int32} {j : Nat} {x : Int32} (H : RQ 1 18 h g) (hj : j < 6) : RQ 1 18 (sk_u h (24 + j) 0 x) (upd g (17 + 3 * j) x) := H.u_bt (w := 0) hj (by decide)
theorem ccl_bt {j : Nat} (hj : j < 6) : 24 + j ∈ CCl := by
  rcases (by omega : j = 0 ∨ j = 1 ∨ j = 2 ∨ j = 3 ∨ j = 4 ∨ j = 5) with rfl | rfl | rfl | rfl | rfl | rfl <;> decide
set_option maxRecDepth 100000 in
set_option maxHeartbeats 1000000 in
theorem cC_one0 {l : Launch} {E : sk_V} {d : Nat} {h : sk_M} {b : Nat} (hb : sk_e b = (1, 0, 3, [])) {w : Int32} (e0 : h b 0 = 0) : sk_K l E (d + 0) MX0_isOneOf [.ref b, .int w] h (fun r h1 => h = h1 ∧ some (.int (@bi (asV w 0) (Classical.propDecidable _))) = r) := by
  refine sk_K.of (by decide +kernel) (Nat.le_of_ble_eq_true rfl) ?_
  show sk_S l E (d + 0) _ 0 [some (.ref b), some (.int w), none, none] [] h _
  refine sk_S.aload_n (i := 0) (dd DX0_isOneOf 0 rfl) rfl rfl ?_
  refine sk_S.geti (dd DX0_isOneOf 1 rfl) rfl fX0_9 hb (by decide) rfl ?_
  refine sk_S.V 0 e0 ?_
  refine sk_S.istore_n (i := 2) (dd DX0_isOneOf 2 rfl) rfl (Nat.le_of_ble_eq_true rfl) rfl ?_
  refine sk_S.iconst (v := 0) (dd DX0_isOneOf 3 rfl) (by decide) ?_
  refine sk_S.istore_n (i := 3) (dd DX0_isOneOf 4 rfl) rfl (Nat.le_of_ble_eq_true rfl) rfl ?_
  refine sk_S.iload_n (i := 3) (dd DX0_isOneOf 5 rfl) rfl rfl ?_
  refine sk_S.bipush (v := 7) (dd DX0_isOneOf 6 rfl) (by decide) ?_
  refine sk_S.icmp_ge (tgt := 36) (dd DX0_isOneOf 7 rfl) (by decide) (fun c10 => absurd c10 (by decide)) (fun c10 => ?_)
  refine sk_S.iload_n (i := 2) (dd DX0_isOneOf 8 rfl) rfl rfl ?_
  refine sk_S.if_lt (tgt := 36) (dd DX0_isOneOf 9 rfl) (by decide) (fun c14 => absurd c14 (by decide)) (fun c14 => ?_)
  refine sk_S.iload_n (i := 2) (dd DX0_isOneOf 10 rfl) rfl rfl ?_
  refine sk_S.iload_n (i := 1) (dd DX0_isOneOf 11 rfl) rfl rfl ?_
  refine sk_S.icmp_ne (tgt := 24) (dd DX0_isOneOf 12 rfl) (by decide) (fun c19 => ?_) (fun c19 => ?_)
  · have n0 := c19
    refine sk_S.gets (dd DX0_isOneOf 15 rfl) rfl gsX0_21 ?_
    refine sk_S.iload_n (i := 2) (dd DX0_isOneOf 16 rfl) rfl rfl ?_
    refine sk_S.roald (dd DX0_isOneOf 17 rfl) rfl (j := 0) ⟨by decide, by decide, by decide⟩ rfl ?_
    refine sk_S.istore_n (i := 2) (dd DX0_isOneOf 18 rfl) rfl (Nat.le_of_ble_eq_true rfl) rfl ?_
    refine sk_S.iinc (i := 3) (v := _ + 1) (dd DX0_isOneOf 19 rfl) rfl rfl rfl ?_
    refine sk_S.goto (tgt := 7) (dd DX0_isOneOf 20 rfl) (by decide) ?_
    refine sk_S.iload_n (i := 3) (dd DX0_isOneOf 5 rfl) rfl rfl ?_
    refine sk_S.bipush (v := 7) (dd DX0_isOneOf 6 rfl) (by decide) ?_
    refine sk_S.icmp_ge (tgt := 36) (dd DX0_isOneOf 7 rfl) (by decide) (fun c10 => absurd c10 (by decide)) (fun c10 => ?_)
    refine sk_S.iload_n (i := 2) (dd DX0_isOneOf 8 rfl) rfl rfl ?_
    refine sk_S.if_lt (tgt := 36) (dd DX0_isOneOf 9 rfl) (by decide) (fun c14 => ?_) (fun c14 => absurd (by decide) c14)
    refine sk_S.iconst (v := 0) (dd DX0_isOneOf 21 rfl) (by decide) ?_
    refine sk_S.iret (dd DX0_isOneOf 22 rfl) rfl rfl ?_
    refine ⟨rfl, ?_⟩
    rw [@bi_f _ (Classical.propDecidable _) (by
      unfold asV
      rintro (e | e | ⟨e, e2⟩ | ⟨e, e2⟩) <;> first | exact n0 e.symm | exact absurd e2 (by decide))]
  · refine sk_S.iconst (v := 1) (dd DX0_isOneOf 13 rfl) (by decide) ?_
    refine sk_S.iret (dd DX0_isOneOf 14 rfl) rfl rfl ?_
    refine ⟨rfl, ?_⟩
    have e : w = 0 := c19.symm
    subst e
    rw [@bi_t _ (Classical.propDecidable _) (by unfold asV; simp)]
set_option maxRecDepth 100000 in
set_option maxHeartbeats 1000000 in
theorem cC_one1 {l : Launch} {E : sk_V} {d : Nat} {h : sk_M} {b : Nat} (hb : sk_e b = (1, 0, 3, [])) {w : Int32} (e0 : h b 0 = 1) : sk_K l E (d + 0) MX0_isOneOf [.ref b, .int w] h (fun r h1 => h = h1 ∧ some (.int (@bi (asV w 1) (Classical.propDecidable _))) = r) := by
  refine sk_K.of (by decide +kernel) (Nat.le_of_ble_eq_true rfl) ?_
  show sk_S l E (d + 0) _ 0 [some (.ref b), some (.int w), none, none] [] h _
  refine sk_S.aload_n (i := 0) (dd DX0_isOneOf 0 rfl) rfl rfl ?_
  refine sk_S.geti (dd DX0_isOneOf 1 rfl) rfl fX0_9 hb (by decide) rfl ?_
  refine sk_S.V 1 e0 ?_
  refine sk_S.istore_n (i := 2) (dd DX0_isOneOf 2 rfl) rfl (Nat.le_of_ble_eq_true rfl) rfl ?_
  refine sk_S.iconst (v := 0) (dd DX0_isOneOf 3 rfl) (by decide) ?_
  refine sk_S.istore_n (i := 3) (dd DX0_isOneOf 4 rfl) rfl (Nat.le_of_ble_eq_true rfl) rfl ?_
  refine sk_S.iload_n (i := 3) (dd DX0_isOneOf 5 rfl) rfl rfl ?_
  refine sk_S.bipush (v := 7) (dd DX0_isOneOf 6 rfl) (by decide) ?_
  refine sk_S.icmp_ge (tgt := 36) (dd DX0_isOneOf 7 rfl) (by decide) (fun c10 => absurd c10 (by decide)) (fun c10 => ?_)
  refine sk_S.iload_n (i := 2) (dd DX0_isOneOf 8 rfl) rfl rfl ?_
  refine sk_S.if_lt (tgt := 36) (dd DX0_isOneOf 9 rfl) (by decide) (fun c14 => absurd c14 (by decide)) (fun c14 => ?_)
  refine sk_S.iload_n (i := 2) (dd DX0_isOneOf 10 rfl) rfl rfl ?_
  refine sk_S.iload_n (i := 1) (dd DX0_isOneOf 11 rfl) rfl rfl ?_
  refine sk_S.icmp_ne (tgt := 24) (dd DX0_isOneOf 12 rfl) (by decide) (fun c19 => ?_) (fun c19 => ?_)
  · have n0 := c19
    refine sk_S.gets (dd DX0_isOneOf 15 rfl) rfl gsX0_21 ?_
    refine sk_S.iload_n (i := 2) (dd DX0_isOneOf 16 rfl) rfl rfl ?_
    refine sk_S.roald (dd DX0_isOneOf 17 rfl) rfl (j := 1) ⟨by decide, by decide, by decide⟩ rfl ?_
    refine sk_S.istore_n (i := 2) (dd DX0_isOneOf 18 rfl) rfl (Nat.le_of_ble_eq_true rfl) rfl ?_
    refine sk_S.iinc (i := 3) (v := _ + 1) (dd DX0_isOneOf 19 rfl) rfl rfl rfl ?_
    refine sk_S.goto (tgt := 7) (dd DX0_isOneOf 20 rfl) (by decide) ?_
    refine sk_S.iload_n (i := 3) (dd DX0_isOneOf 5 rfl) rfl rfl ?_
    refine sk_S.bipush (v := 7) (dd DX0_isOneOf 6 rfl) (by decide) ?_
    refine sk_S.icmp_ge (tgt := 36) (dd DX0_isOneOf 7 rfl) (by decide) (fun c10 => absurd c10 (by decide)) (fun c10 => ?_)
    refine sk_S.iload_n (i := 2) (dd DX0_isOneOf 8 rfl) rfl rfl ?_
    refine sk_S.if_lt (tgt := 36) (dd DX0_isOneOf 9 rfl) (by decide) (fun c14 => absurd c14 (by decide)) (fun c14 => ?_)
    refine sk_S.iload_n (i := 2) (dd DX0_isOneOf 10 rfl) rfl rfl ?_
    refine sk_S.iload_n (i := 1) (dd DX0_isOneOf 11 rfl) rfl rfl ?_
    refine sk_S.icmp_ne (tgt := 24) (dd DX0_isOneOf 12 rfl) (by decide) (fun c19 => ?_) (fun c19 => ?_)
    · have n1 := c19
      refine sk_S.gets (dd DX0_isOneOf 15 rfl) rfl gsX0_21 ?_
      refine sk_S.iload_n (i := 2) (dd DX0_isOneOf 16 rfl) rfl rfl ?_
      refine sk_S.roald (dd DX0_isOneOf 17 rfl) rfl (j := 0) ⟨by decide, by decide, by decide⟩ rfl ?_
      refine sk_S.istore_n (i := 2) (dd DX0_isOneOf 18 rfl) rfl (Nat.le_of_ble_eq_true rfl) rfl ?_
      refine sk_S.iinc (i := 3) (v := _ + 1) (dd DX0_isOneOf 19 rfl) rfl rfl rfl ?_
      refine sk_S.goto (tgt := 7) (dd DX0_isOneOf 20 rfl) (by decide) ?_
      refine sk_S.iload_n (i := 3) (dd DX0_isOneOf 5 rfl) rfl rfl ?_
      refine sk_S.bipush (v := 7) (dd DX0_isOneOf 6 rfl) (by decide) ?_
      refine sk_S.icmp_ge (tgt := 36) (dd DX0_isOneOf 7 rfl) (by decide) (fun c10 => absurd c10 (by decide)) (fun c10 => ?_)
      refine sk_S.iload_n (i := 2) (dd DX0_isOneOf 8 rfl) rfl rfl ?_
      refine sk_S.if_lt (tgt := 36) (dd DX0_isOneOf 9 rfl) (by decide) (fun c14 => ?_) (fun c14 => absurd (by decide) c14)
      refine sk_S.iconst (v := 0) (dd DX0_isOneOf 21 rfl) (by decide) ?_
      refine sk_S.iret (dd DX0_isOneOf 22 rfl) rfl rfl ?_
      refine ⟨rfl, ?_⟩
      rw [@bi_f _ (Classical.propDecidable _) (by
        unfold asV
        rintro (e | e | ⟨e, e2⟩ | ⟨e, e2⟩) <;> first | exact n0 e.symm | exact n1 e.symm | exact absurd e2 (by decide))]
    · refine sk_S.iconst (v := 1) (dd DX0_isOneOf 13 rfl) (by decide) ?_
      refine sk_S.iret (dd DX0_isOneOf 14 rfl) rfl rfl ?_
      refine ⟨rfl, ?_⟩
      have e : w = 0 := c19.symm
      subst e
      rw [@bi_t _ (Classical.propDecidable _) (by unfold asV; simp)]
  · refine sk_S.iconst (v := 1) (dd DX0_isOneOf 13 rfl) (by decide) ?_
    refine sk_S.iret (dd DX0_isOneOf 14 rfl) rfl rfl ?_
    refine ⟨rfl, ?_⟩
    have e : w = 1 := c19.symm
    subst e
    rw [@bi_t _ (Classical.propDecidable _) (by unfold asV; simp)]
set_option maxRecDepth 100000 in
set_option maxHeartbeats 1000000 in
theorem cC_one2 {l : Launch} {E : sk_V} {d : Nat} {h : sk_M} {b : Nat} (hb : sk_e b = (1, 0, 3, [])) {w : Int32} (e0 : h b 0 = 2) : sk_K l E (d + 0) MX0_isOneOf [.ref b, .int w] h (fun r h1 => h = h1 ∧ some (.int (@bi (asV w 2) (Classical.propDecidable _))) = r) := by
  refine sk_K.of (by decide +kernel) (Nat.le_of_ble_eq_true rfl) ?_
  show sk_S l E (d + 0) _ 0 [some (.ref b), some (.int w), none, none] [] h _
  refine sk_S.aload_n (i := 0) (dd DX0_isOneOf 0 rfl) rfl rfl ?_
  refine sk_S.geti (dd DX0_isOneOf 1 rfl) rfl fX0_9 hb (by decide) rfl ?_
  refine sk_S.V 2 e0 ?_
  refine sk_S.istore_n (i := 2) (dd DX0_isOneOf 2 rfl) rfl (Nat.le_of_ble_eq_true rfl) rfl ?_
  refine sk_S.iconst (v := 0) (dd DX0_isOneOf 3 rfl) (by decide) ?_
  refine sk_S.istore_n (i := 3) (dd DX0_isOneOf 4 rfl) rfl (Nat.le_of_ble_eq_true rfl) rfl ?_
  refine sk_S.iload_n (i := 3) (dd DX0_isOneOf 5 rfl) rfl rfl ?_
  refine sk_S.bipush (v := 7) (dd DX0_isOneOf 6 rfl) (by decide) ?_
  refine sk_S.icmp_ge (tgt := 36) (dd DX0_isOneOf 7 rfl) (by decide) (fun c10 => absurd c10 (by decide)) (fun c10 => ?_)
  refine sk_S.iload_n (i := 2) (dd DX0_isOneOf 8 rfl) rfl rfl ?_
  refine sk_S.if_lt (tgt := 36) (dd DX0_isOneOf 9 rfl) (by decide) (fun c14 => absurd c14 (by decide)) (fun c14 => ?_)
  refine sk_S.iload_n (i := 2) (dd DX0_isOneOf 10 rfl) rfl rfl ?_
  refine sk_S.iload_n (i := 1) (dd DX0_isOneOf 11 rfl) rfl rfl ?_
  refine sk_S.icmp_ne (tgt := 24) (dd DX0_isOneOf 12 rfl) (by decide) (fun c19 => ?_) (fun c19 => ?_)
  · have n0 := c19
    refine sk_S.gets (dd DX0_isOneOf 15 rfl) rfl gsX0_21 ?_
    refine sk_S.iload_n (i := 2) (dd DX0_isOneOf 16 rfl) rfl rfl ?_
    refine sk_S.roald (dd DX0_isOneOf 17 rfl) rfl (j := 2) ⟨by decide, by decide, by decide⟩ rfl ?_
    refine sk_S.istore_n (i := 2) (dd DX0_isOneOf 18 rfl) rfl (Nat.le_of_ble_eq_true rfl) rfl ?_
    refine sk_S.iinc (i := 3) (v := _ + 1) (dd DX0_isOneOf 19 rfl) rfl rfl rfl ?_
    refine sk_S.goto (tgt := 7) (dd DX0_isOneOf 20 rfl) (by decide) ?_
    refine sk_S.iload_n (i := 3) (dd DX0_isOneOf 5 rfl) rfl rfl ?_
    refine sk_S.bipush (v := 7) (dd DX0_isOneOf 6 rfl) (by decide) ?_
    refine sk_S.icmp_ge (tgt := 36) (dd DX0_isOneOf 7 rfl) (by decide) (fun c10 => absurd c10 (by decide)) (fun c10 => ?_)
    refine sk_S.iload_n (i := 2) (dd DX0_isOneOf 8 rfl) rfl rfl ?_
    refine sk_S.if_lt (tgt := 36) (dd DX0_isOneOf 9 rfl) (by decide) (fun c14 => absurd c14 (by decide)) (fun c14 => ?_)
    refine sk_S.iload_n (i := 2) (dd DX0_isOneOf 10 rfl) rfl rfl ?_
    refine sk_S.iload_n (i := 1) (dd DX0_isOneOf 11 rfl) rfl rfl ?_
    refine sk_S.icmp_ne (tgt := 24) (dd DX0_isOneOf 12 rfl) (by decide) (fun c19 => ?_) (fun c19 => ?_)
    · have n1 := c19
      refine sk_S.gets (dd DX0_isOneOf 15 rfl) rfl gsX0_21 ?_
      refine sk_S.iload_n (i := 2) (dd DX0_isOneOf 16 rfl) rfl rfl ?_
      refine sk_S.roald (dd DX0_isOneOf 17 rfl) rfl (j := 0) ⟨by decide, by decide, by decide⟩ rfl ?_
      refine sk_S.istore_n (i := 2) (dd DX0_isOneOf 18 rfl) rfl (Nat.le_of_ble_eq_true rfl) rfl ?_
      refine sk_S.iinc (i := 3) (v := _ + 1) (dd DX0_isOneOf 19 rfl) rfl rfl rfl ?_
      refine sk_S.goto (tgt := 7) (dd DX0_isOneOf 20 rfl) (by decide) ?_
      refine sk_S.iload_n (i := 3) (dd DX0_isOneOf 5 rfl) rfl rfl ?_
      refine sk_S.bipush (v := 7) (dd DX0_isOneOf 6 rfl) (by decide) ?_
      refine sk_S.icmp_ge (tgt := 36) (dd DX0_isOneOf 7 rfl) (by decide) (fun c10 => absurd c10 (by decide)) (fun c10 => ?_)
      refine sk_S.iload_n (i := 2) (dd DX0_isOneOf 8 rfl) rfl rfl ?_
      refine sk_S.if_lt (tgt := 36) (dd DX0_isOneOf 9 rfl) (by decide) (fun c14 => ?_) (fun c14 => absurd (by decide) c14)
      refine sk_S.iconst (v := 0) (dd DX0_isOneOf 21 rfl) (by decide) ?_
      refine sk_S.iret (dd DX0_isOneOf 22 rfl) rfl rfl ?_
      refine ⟨rfl, ?_⟩
      rw [@bi_f _ (Classical.propDecidable _) (by
        unfold asV
        rintro (e | e | ⟨e, e2⟩ | ⟨e, e2⟩) <;> first | exact n0 e.symm | exact n1 e.symm | exact absurd e2 (by decide))]
    · refine sk_S.iconst (v := 1) (dd DX0_isOneOf 13 rfl) (by decide) ?_
      refine sk_S.iret (dd DX0_isOneOf 14 rfl) rfl rfl ?_
      refine ⟨rfl, ?_⟩
      have e : w = 0 := c19.symm
      subst e
      rw [@bi_t _ (Classical.propDecidable _) (by unfold asV; simp)]
  · refine sk_S.iconst (v := 1) (dd DX0_isOneOf 13 rfl) (by decide) ?_
    refine sk_S.iret (dd DX0_isOneOf 14 rfl) rfl rfl ?_
    refine ⟨rfl, ?_⟩
    have e : w = 2 := c19.symm
    subst e
    rw [@bi_t _ (Classical.propDecidable _) (by unfold asV; simp)]
set_option maxRecDepth 100000 in
set_option maxHeartbeats 1000000 in
theorem cC_one3 {l : Launch} {E : sk_V} {d : Nat} {h : sk_M} {b : Nat} (hb : sk_e b = (1, 0, 3, [])) {w : Int32} (e0 : h b 0 = 3) : sk_K l E (d + 0) MX0_isOneOf [.ref b, .int w] h (fun r h1 => h = h1 ∧ some (.int (@bi (asV w 3) (Classical.propDecidable _))) = r) := by
  refine sk_K.of (by decide +kernel) (Nat.le_of_ble_eq_true rfl) ?_
  show sk_S l E (d + 0) _ 0 [some (.ref b), some (.int w), none, none] [] h _
  refine sk_S.aload_n (i := 0) (dd DX0_isOneOf 0 rfl) rfl rfl ?_
  refine sk_S.geti (dd DX0_isOneOf 1 rfl) rfl fX0_9 hb (by decide) rfl ?_
  refine sk_S.V 3 e0 ?_
  refine sk_S.istore_n (i := 2) (dd DX0_isOneOf 2 rfl) rfl (Nat.le_of_ble_eq_true rfl) rfl ?_
  refine sk_S.iconst (v := 0) (dd DX0_isOneOf 3 rfl) (by decide) ?_
  refine sk_S.istore_n (i := 3) (dd DX0_isOneOf 4 rfl) rfl (Nat.le_of_ble_eq_true rfl) rfl ?_
  refine sk_S.iload_n (i := 3) (dd DX0_isOneOf 5 rfl) rfl rfl ?_
  refine sk_S.bipush (v := 7) (dd DX0_isOneOf 6 rfl) (by decide) ?_
  refine sk_S.icmp_ge (tgt := 36) (dd DX0_isOneOf 7 rfl) (by decide) (fun c10 => absurd c10 (by decide)) (fun c10 => ?_)
  refine sk_S.iload_n (i := 2) (dd DX0_isOneOf 8 rfl) rfl rfl ?_
  refine sk_S.if_lt (tgt := 36) (dd DX0_isOneOf 9 rfl) (by decide) (fun c14 => absurd c14 (by decide)) (fun c14 => ?_)
  refine sk_S.iload_n (i := 2) (dd DX0_isOneOf 10 rfl) rfl rfl ?_
  refine sk_S.iload_n (i := 1) (dd DX0_isOneOf 11 rfl) rfl rfl ?_
  refine sk_S.icmp_ne (tgt := 24) (dd DX0_isOneOf 12 rfl) (by decide) (fun c19 => ?_) (fun c19 => ?_)
  · have n0 := c19
    refine sk_S.gets (dd DX0_isOneOf 15 rfl) rfl gsX0_21 ?_
    refine sk_S.iload_n (i := 2) (dd DX0_isOneOf 16 rfl) rfl rfl ?_
    refine sk_S.roald (dd DX0_isOneOf 17 rfl) rfl (j := 3) ⟨by decide, by decide, by decide⟩ rfl ?_
    refine sk_S.istore_n (i := 2) (dd DX0_isOneOf 18 rfl) rfl (Nat.le_of_ble_eq_true rfl) rfl ?_
    refine sk_S.iinc (i := 3) (v := _ + 1) (dd DX0_isOneOf 19 rfl) rfl rfl rfl ?_
    refine sk_S.goto (tgt := 7) (dd DX0_isOneOf 20 rfl) (by decide) ?_
    refine sk_S.iload_n (i := 3) (dd DX0_isOneOf 5 rfl) rfl rfl ?_
    refine sk_S.bipush (v := 7) (dd DX0_isOneOf 6 rfl) (by decide) ?_
    refine sk_S.icmp_ge (tgt := 36) (dd DX0_isOneOf 7 rfl) (by decide) (fun c10 => absurd c10 (by decide)) (fun c10 => ?_)
    refine sk_S.iload_n (i := 2) (dd DX0_isOneOf 8 rfl) rfl rfl ?_
    refine sk_S.if_lt (tgt := 36) (dd DX0_isOneOf 9 rfl) (by decide) (fun c14 => absurd c14 (by decide)) (fun c14 => ?_)
    refine sk_S.iload_n (i := 2) (dd DX0_isOneOf 10 rfl) rfl rfl ?_
    refine sk_S.iload_n (i := 1) (dd DX0_isOneOf 11 rfl) rfl rfl ?_
    refine sk_S.icmp_ne (tgt := 24) (dd DX0_isOneOf 12 rfl) (by decide) (fun c19 => ?_) (fun c19 => ?_)
    · have n1 := c19
      refine sk_S.gets (dd DX0_isOneOf 15 rfl) rfl gsX0_21 ?_
      refine sk_S.iload_n (i := 2) (dd DX0_isOneOf 16 rfl) rfl rfl ?_
      refine sk_S.roald (dd DX0_isOneOf 17 rfl) rfl (j := 0) ⟨by decide, by decide, by decide⟩ rfl ?_
      refine sk_S.istore_n (i := 2) (dd DX0_isOneOf 18 rfl) rfl (Nat.le_of_ble_eq_true rfl) rfl ?_
      refine sk_S.iinc (i := 3) (v := _ + 1) (dd DX0_isOneOf 19 rfl) rfl rfl rfl ?_
      refine sk_S.goto (tgt := 7) (dd DX0_isOneOf 20 rfl) (by decide) ?_
      refine sk_S.iload_n (i := 3) (dd DX0_isOneOf 5 rfl) rfl rfl ?_
      refine sk_S.bipush (v := 7) (dd DX0_isOneOf 6 rfl) (by decide) ?_
      refine sk_S.icmp_ge (tgt := 36) (dd DX0_isOneOf 7 rfl) (by decide) (fun c10 => absurd c10 (by decide)) (fun c10 => ?_)
      refine sk_S.iload_n (i := 2) (dd DX0_isOneOf 8 rfl) rfl rfl ?_
      refine sk_S.if_lt (tgt := 36) (dd DX0_isOneOf 9 rfl) (by decide) (fun c14 => ?_) (fun c14 => absurd (by decide) c14)
      refine sk_S.iconst (v := 0) (dd DX0_isOneOf 21 rfl) (by decide) ?_
      refine sk_S.iret (dd DX0_isOneOf 22 rfl) rfl rfl ?_
      refine ⟨rfl, ?_⟩
      rw [@bi_f _ (Classical.propDecidable _) (by
        unfold asV
        rintro (e | e | ⟨e, e2⟩ | ⟨e, e2⟩) <;> first | exact n0 e.symm | exact n1 e.symm | exact absurd e2 (by decide))]
    · refine sk_S.iconst (v := 1) (dd DX0_isOneOf 13 rfl) (by decide) ?_
      refine sk_S.iret (dd DX0_isOneOf 14 rfl) rfl rfl ?_
      refine ⟨rfl, ?_⟩
      have e : w = 0 := c19.symm
      subst e
      rw [@bi_t _ (Classical.propDecidable _) (by unfold asV; simp)]
  · refine sk_S.iconst (v := 1) (dd DX0_isOneOf 13 rfl) (by decide) ?_
    refine sk_S.iret (dd DX0_isOneOf 14 rfl) rfl rfl ?_
    refine ⟨rfl, ?_⟩
    have e : w = 3 := c19.symm
    subst e
    rw [@bi_t _ (Classical.propDecidable _) (by unfold asV; simp)]
set_option maxRecDepth 100000 in
set_option maxHeartbeats 1000000 in
theorem cC_one4 {l : Launch} {E : sk_V} {d : Nat} {h : sk_M} {b : Nat} (hb : sk_e b = (1, 0, 3, [])) {w : Int32} (e0 : h b 0 = 4) : sk_K l E (d + 0) MX0_isOneOf [.ref b, .int w] h (fun r h1 => h = h1 ∧ some (.int (@bi (asV w 4) (Classical.propDecidable _))) = r) := by
  refine sk_K.of (by decide +kernel) (Nat.le_of_ble_eq_true rfl) ?_
  show sk_S l E (d + 0) _ 0 [some (.ref b), some (.int w), none, none] [] h _
  refine sk_S.aload_n (i := 0) (dd DX0_isOneOf 0 rfl) rfl rfl ?_
  refine sk_S.geti (dd DX0_isOneOf 1 rfl) rfl fX0_9 hb (by decide) rfl ?_
  refine sk_S.V 4 e0 ?_
  refine sk_S.istore_n (i := 2) (dd DX0_isOneOf 2 rfl) rfl (Nat.le_of_ble_eq_true rfl) rfl ?_
  refine sk_S.iconst (v := 0) (dd DX0_isOneOf 3 rfl) (by decide) ?_
  refine sk_S.istore_n (i := 3) (dd DX0_isOneOf 4 rfl) rfl (Nat.le_of_ble_eq_true rfl) rfl ?_
  refine sk_S.iload_n (i := 3) (dd DX0_isOneOf 5 rfl) rfl rfl ?_
  refine sk_S.bipush (v := 7) (dd DX0_isOneOf 6 rfl) (by decide) ?_
  refine sk_S.icmp_ge (tgt := 36) (dd DX0_isOneOf 7 rfl) (by decide) (fun c10 => absurd c10 (by decide)) (fun c10 => ?_)
  refine sk_S.iload_n (i := 2) (dd DX0_isOneOf 8 rfl) rfl rfl ?_
  refine sk_S.if_lt (tgt := 36) (dd DX0_isOneOf 9 rfl) (by decide) (fun c14 => absurd c14 (by decide)) (fun c14 => ?_)
  refine sk_S.iload_n (i := 2) (dd DX0_isOneOf 10 rfl) rfl rfl ?_
  refine sk_S.iload_n (i := 1) (dd DX0_isOneOf 11 rfl) rfl rfl ?_
  refine sk_S.icmp_ne (tgt := 24) (dd DX0_isOneOf 12 rfl) (by decide) (fun c19 => ?_) (fun c19 => ?_)
  · have n0 := c19
    refine sk_S.gets (dd DX0_isOneOf 15 rfl) rfl gsX0_21 ?_
    refine sk_S.iload_n (i := 2) (dd DX0_isOneOf 16 rfl) rfl rfl ?_
    refine sk_S.roald (dd DX0_isOneOf 17 rfl) rfl (j := 4) ⟨by decide, by decide, by decide⟩ rfl ?_
    refine sk_S.istore_n (i := 2) (dd DX0_isOneOf 18 rfl) rfl (Nat.le_of_ble_eq_true rfl) rfl ?_
    refine sk_S.iinc (i := 3) (v := _ + 1) (dd DX0_isOneOf 19 rfl) rfl rfl rfl ?_
    refine sk_S.goto (tgt := 7) (dd DX0_isOneOf 20 rfl) (by decide) ?_
    refine sk_S.iload_n (i := 3) (dd DX0_isOneOf 5 rfl) rfl rfl ?_
    refine sk_S.bipush (v := 7) (dd DX0_isOneOf 6 rfl) (by decide) ?_
    refine sk_S.icmp_ge (tgt := 36) (dd DX0_isOneOf 7 rfl) (by decide) (fun c10 => absurd c10 (by decide)) (fun c10 => ?_)
    refine sk_S.iload_n (i := 2) (dd DX0_isOneOf 8 rfl) rfl rfl ?_
    refine sk_S.if_lt (tgt := 36) (dd DX0_isOneOf 9 rfl) (by decide) (fun c14 => absurd c14 (by decide)) (fun c14 => ?_)
    refine sk_S.iload_n (i := 2) (dd DX0_isOneOf 10 rfl) rfl rfl ?_
    refine sk_S.iload_n (i := 1) (dd DX0_isOneOf 11 rfl) rfl rfl ?_
    refine sk_S.icmp_ne (tgt := 24) (dd DX0_isOneOf 12 rfl) (by decide) (fun c19 => ?_) (fun c19 => ?_)
    · have n1 := c19
      refine sk_S.gets (dd DX0_isOneOf 15 rfl) rfl gsX0_21 ?_
      refine sk_S.iload_n (i := 2) (dd DX0_isOneOf 16 rfl) rfl rfl ?_
      refine sk_S.roald (dd DX0_isOneOf 17 rfl) rfl (j := 1) ⟨by decide, by decide, by decide⟩ rfl ?_
      refine sk_S.istore_n (i := 2) (dd DX0_isOneOf 18 rfl) rfl (Nat.le_of_ble_eq_true rfl) rfl ?_
      refine sk_S.iinc (i := 3) (v := _ + 1) (dd DX0_isOneOf 19 rfl) rfl rfl rfl ?_
      refine sk_S.goto (tgt := 7) (dd DX0_isOneOf 20 rfl) (by decide) ?_
      refine sk_S.iload_n (i := 3) (dd DX0_isOneOf 5 rfl) rfl rfl ?_
      refine sk_S.bipush (v := 7) (dd DX0_isOneOf 6 rfl) (by decide) ?_
      refine sk_S.icmp_ge (tgt := 36) (dd DX0_isOneOf 7 rfl) (by decide) (fun c10 => absurd c10 (by decide)) (fun c10 => ?_)
      refine sk_S.iload_n (i := 2) (dd DX0_isOneOf 8 rfl) rfl rfl ?_
      refine sk_S.if_lt (tgt := 36) (dd DX0_isOneOf 9 rfl) (by decide) (fun c14 => absurd c14 (by decide)) (fun c14 => ?_)
      refine sk_S.iload_n (i := 2) (dd DX0_isOneOf 10 rfl) rfl rfl ?_
      refine sk_S.iload_n (i := 1) (dd DX0_isOneOf 11 rfl) rfl rfl ?_
      refine sk_S.icmp_ne (tgt := 24) (dd DX0_isOneOf 12 rfl) (by decide) (fun c19 => ?_) (fun c19 => ?_)
      · have n2 := c19
        refine sk_S.gets (dd DX0_isOneOf 15 rfl) rfl gsX0_21 ?_
        refine sk_S.iload_n (i := 2) (dd DX0_isOneOf 16 rfl) rfl rfl ?_
        refine sk_S.roald (dd DX0_isOneOf 17 rfl) rfl (j := 0) ⟨by decide, by decide, by decide⟩ rfl ?_
        refine sk_S.istore_n (i := 2) (dd DX0_isOneOf 18 rfl) rfl (Nat.le_of_ble_eq_true rfl) rfl ?_
        refine sk_S.iinc (i := 3) (v := _ + 1) (dd DX0_isOneOf 19 rfl) rfl rfl rfl ?_
        refine sk_S.goto (tgt := 7) (dd DX0_isOneOf 20 rfl) (by decide) ?_
        refine sk_S.iload_n (i := 3) (dd DX0_isOneOf 5 rfl) rfl rfl ?_
        refine sk_S.bipush (v := 7) (dd DX0_isOneOf 6 rfl) (by decide) ?_
        refine sk_S.icmp_ge (tgt := 36) (dd DX0_isOneOf 7 rfl) (by decide) (fun c10 => absurd c10 (by decide)) (fun c10 => ?_)
        refine sk_S.iload_n (i := 2) (dd DX0_isOneOf 8 rfl) rfl rfl ?_
        refine sk_S.if_lt (tgt := 36) (dd DX0_isOneOf 9 rfl) (by decide) (fun c14 => ?_) (fun c14 => absurd (by decide) c14)
        refine sk_S.iconst (v := 0) (dd DX0_isOneOf 21 rfl) (by decide) ?_
        refine sk_S.iret (dd DX0_isOneOf 22 rfl) rfl rfl ?_
        refine ⟨rfl, ?_⟩
        rw [@bi_f _ (Classical.propDecidable _) (by
          unfold asV
          rintro (e | e | ⟨e, e2⟩ | ⟨e, e2⟩) <;> first | exact n0 e.symm | exact n1 e.symm | exact n2 e.symm | exact absurd e2 (by decide))]
      · refine sk_S.iconst (v := 1) (dd DX0_isOneOf 13 rfl) (by decide) ?_
        refine sk_S.iret (dd DX0_isOneOf 14 rfl) rfl rfl ?_
        refine ⟨rfl, ?_⟩
        have e : w = 0 := c19.symm
        subst e
        rw [@bi_t _ (Classical.propDecidable _) (by unfold asV; simp)]
    · refine sk_S.iconst (v := 1) (dd DX0_isOneOf 13 rfl) (by decide) ?_
      refine sk_S.iret (dd DX0_isOneOf 14 rfl) rfl rfl ?_
      refine ⟨rfl, ?_⟩
      have e : w = 1 := c19.symm
      subst e
      rw [@bi_t _ (Classical.propDecidable _) (by unfold asV; simp)]
  · refine sk_S.iconst (v := 1) (dd DX0_isOneOf 13 rfl) (by decide) ?_
    refine sk_S.iret (dd DX0_isOneOf 14 rfl) rfl rfl ?_
    refine ⟨rfl, ?_⟩
    have e : w = 4 := c19.symm
    subst e
    rw [@bi_t _ (Classical.propDecidable _) (by unfold asV; simp)]
set_option maxRecDepth 100000 in
set_option maxHeartbeats 1000000 in
theorem cC_one5 {l : Launch} {E : sk_V} {d : Nat} {h : sk_M} {b : Nat} (hb : sk_e b = (1, 0, 3, [])) {w : Int32} (e0 : h b 0 = 5) : sk_K l E (d + 0) MX0_isOneOf [.ref b, .int w] h (fun r h1 => h = h1 ∧ some (.int (@bi (asV w 5) (Classical.propDecidable _))) = r) := by
  refine sk_K.of (by decide +kernel) (Nat.le_of_ble_eq_true rfl) ?_
  show sk_S l E (d + 0) _ 0 [some (.ref b), some (.int w), none, none] [] h _
  refine sk_S.aload_n (i := 0) (dd DX0_isOneOf 0 rfl) rfl rfl ?_
  refine sk_S.geti (dd DX0_isOneOf 1 rfl) rfl fX0_9 hb (by decide) rfl ?_
  refine sk_S.V 5 e0 ?_
  refine sk_S.istore_n (i := 2) (dd DX0_isOneOf 2 rfl) rfl (Nat.le_of_ble_eq_true rfl) rfl ?_
  refine sk_S.iconst (v := 0) (dd DX0_isOneOf 3 rfl) (by decide) ?_
  refine sk_S.istore_n (i := 3) (dd DX0_isOneOf 4 rfl) rfl (Nat.le_of_ble_eq_true rfl) rfl ?_
  refine sk_S.iload_n (i := 3) (dd DX0_isOneOf 5 rfl) rfl rfl ?_
  refine sk_S.bipush (v := 7) (dd DX0_isOneOf 6 rfl) (by decide) ?_
  refine sk_S.icmp_ge (tgt := 36) (dd DX0_isOneOf 7 rfl) (by decide) (fun c10 => absurd c10 (by decide)) (fun c10 => ?_)
  refine sk_S.iload_n (i := 2) (dd DX0_isOneOf 8 rfl) rfl rfl ?_
  refine sk_S.if_lt (tgt := 36) (dd DX0_isOneOf 9 rfl) (by decide) (fun c14 => absurd c14 (by decide)) (fun c14 => ?_)
  refine sk_S.iload_n (i := 2) (dd DX0_isOneOf 10 rfl) rfl rfl ?_
  refine sk_S.iload_n (i := 1) (dd DX0_isOneOf 11 rfl) rfl rfl ?_
  refine sk_S.icmp_ne (tgt := 24) (dd DX0_isOneOf 12 rfl) (by decide) (fun c19 => ?_) (fun c19 => ?_)
  · have n0 := c19
    refine sk_S.gets (dd DX0_isOneOf 15 rfl) rfl gsX0_21 ?_
    refine sk_S.iload_n (i := 2) (dd DX0_isOneOf 16 rfl) rfl rfl ?_
    refine sk_S.roald (dd DX0_isOneOf 17 rfl) rfl (j := 5) ⟨by decide, by decide, by decide⟩ rfl ?_
    refine sk_S.istore_n (i := 2) (dd DX0_isOneOf 18 rfl) rfl (Nat.le_of_ble_eq_true rfl) rfl ?_
    refine sk_S.iinc (i := 3) (v := _ + 1) (dd DX0_isOneOf 19 rfl) rfl rfl rfl ?_
    refine sk_S.goto (tgt := 7) (dd DX0_isOneOf 20 rfl) (by decide) ?_
    refine sk_S.iload_n (i := 3) (dd DX0_isOneOf 5 rfl) rfl rfl ?_
    refine sk_S.bipush (v := 7) (dd DX0_isOneOf 6 rfl) (by decide) ?_
    refine sk_S.icmp_ge (tgt := 36) (dd DX0_isOneOf 7 rfl) (by decide) (fun c10 => absurd c10 (by decide)) (fun c10 => ?_)
    refine sk_S.iload_n (i := 2) (dd DX0_isOneOf 8 rfl) rfl rfl ?_
    refine sk_S.if_lt (tgt := 36) (dd DX0_isOneOf 9 rfl) (by decide) (fun c14 => absurd c14 (by decide)) (fun c14 => ?_)
    refine sk_S.iload_n (i := 2) (dd DX0_isOneOf 10 rfl) rfl rfl ?_
    refine sk_S.iload_n (i := 1) (dd DX0_isOneOf 11 rfl) rfl rfl ?_
    refine sk_S.icmp_ne (tgt := 24) (dd DX0_isOneOf 12 rfl) (by decide) (fun c19 => ?_) (fun c19 => ?_)
    · have n1 := c19
      refine sk_S.gets (dd DX0_isOneOf 15 rfl) rfl gsX0_21 ?_
      refine sk_S.iload_n (i := 2) (dd DX0_isOneOf 16 rfl) rfl rfl ?_
      refine sk_S.roald (dd DX0_isOneOf 17 rfl) rfl (j := 2) ⟨by decide, by decide, by decide⟩ rfl ?_
      refine sk_S.istore_n (i := 2) (dd DX0_isOneOf 18 rfl) rfl (Nat.le_of_ble_eq_true rfl) rfl ?_
      refine sk_S.iinc (i := 3) (v := _ + 1) (dd DX0_isOneOf 19 rfl) rfl rfl rfl ?_
      refine sk_S.goto (tgt := 7) (dd DX0_isOneOf 20 rfl) (by decide) ?_
      refine sk_S.iload_n (i := 3) (dd DX0_isOneOf 5 rfl) rfl rfl ?_
      refine sk_S.bipush (v := 7) (dd DX0_isOneOf 6 rfl) (by decide) ?_
      refine sk_S.icmp_ge (tgt := 36) (dd DX0_isOneOf 7 rfl) (by decide) (fun c10 => absurd c10 (by decide)) (fun c10 => ?_)
      refine sk_S.iload_n (i := 2) (dd DX0_isOneOf 8 rfl) rfl rfl ?_
      refine sk_S.if_lt (tgt := 36) (dd DX0_isOneOf 9 rfl) (by decide) (fun c14 => absurd c14 (by decide)) (fun c14 => ?_)
      refine sk_S.iload_n (i := 2) (dd DX0_isOneOf 10 rfl) rfl rfl ?_
      refine sk_S.iload_n (i := 1) (dd DX0_isOneOf 11 rfl) rfl rfl ?_
      refine sk_S.icmp_ne (tgt := 24) (dd DX0_isOneOf 12 rfl) (by decide) (fun c19 => ?_) (fun c19 => ?_)
      · have n2 := c19
        refine sk_S.gets (dd DX0_isOneOf 15 rfl) rfl gsX0_21 ?_
        refine sk_S.iload_n (i := 2) (dd DX0_isOneOf 16 rfl) rfl rfl ?_
        refine sk_S.roald (dd DX0_isOneOf 17 rfl) rfl (j := 0) ⟨by decide, by decide, by decide⟩ rfl ?_
        refine sk_S.istore_n (i := 2) (dd DX0_isOneOf 18 rfl) rfl (Nat.le_of_ble_eq_true rfl) rfl ?_
        refine sk_S.iinc (i := 3) (v := _ + 1) (dd DX0_isOneOf 19 rfl) rfl rfl rfl ?_
        refine sk_S.goto (tgt := 7) (dd DX0_isOneOf 20 rfl) (by decide) ?_
        refine sk_S.iload_n (i := 3) (dd DX0_isOneOf 5 rfl) rfl rfl ?_
        refine sk_S.bipush (v := 7) (dd DX0_isOneOf 6 rfl) (by decide) ?_
        refine sk_S.icmp_ge (tgt := 36) (dd DX0_isOneOf 7 rfl) (by decide) (fun c10 => absurd c10 (by decide)) (fun c10 => ?_)
        refine sk_S.iload_n (i := 2) (dd DX0_isOneOf 8 rfl) rfl rfl ?_
        refine sk_S.if_lt (tgt := 36) (dd DX0_isOneOf 9 rfl) (by decide) (fun c14 => ?_) (fun c14 => absurd (by decide) c14)
        refine sk_S.iconst (v := 0) (dd DX0_isOneOf 21 rfl) (by decide) ?_
        refine sk_S.iret (dd DX0_isOneOf 22 rfl) rfl rfl ?_
        refine ⟨rfl, ?_⟩
        rw [@bi_f _ (Classical.propDecidable _) (by
          unfold asV
          rintro (e | e | ⟨e, e2⟩ | ⟨e, e2⟩) <;> first | exact n0 e.symm | exact n1 e.symm | exact n2 e.symm | exact absurd e2 (by decide))]
      · refine sk_S.iconst (v := 1) (dd DX0_isOneOf 13 rfl) (by decide) ?_
        refine sk_S.iret (dd DX0_isOneOf 14 rfl) rfl rfl ?_
        refine ⟨rfl, ?_⟩
        have e : w = 0 := c19.symm
        subst e
        rw [@bi_t _ (Classical.propDecidable _) (by unfold asV; simp)]
    · refine sk_S.iconst (v := 1) (dd DX0_isOneOf 13 rfl) (by decide) ?_
      refine sk_S.iret (dd DX0_isOneOf 14 rfl) rfl rfl ?_
      refine ⟨rfl, ?_⟩
      have e : w = 2 := c19.symm
      subst e
      rw [@bi_t _ (Classical.propDecidable _) (by unfold asV; simp)]
  · refine sk_S.iconst (v := 1) (dd DX0_isOneOf 13 rfl) (by decide) ?_
    refine sk_S.iret (dd DX0_isOneOf 14 rfl) rfl rfl ?_
    refine ⟨rfl, ?_⟩
    have e : w = 5 := c19.symm
    subst e
    rw [@bi_t _ (Classical.propDecidable _) (by unfold asV; simp)]
set_option maxRecDepth 100000 in
set_option maxHeartbeats 1000000 in
theorem cC_one6 {l : Launch} {E : sk_V} {d : Nat} {h : sk_M} {b : Nat} (hb : sk_e b = (1, 0, 3, [])) {w : Int32} (e0 : h b 0 = 6) : sk_K l E (d + 0) MX0_isOneOf [.ref b, .int w] h (fun r h1 => h = h1 ∧ some (.int (@bi (asV w 6) (Classical.propDecidable _))) = r) := by
  refine sk_K.of (by decide +kernel) (Nat.le_of_ble_eq_true rfl) ?_
  show sk_S l E (d + 0) _ 0 [some (.ref b), some (.int w), none, none] [] h _
  refine sk_S.aload_n (i := 0) (dd DX0_isOneOf 0 rfl) rfl rfl ?_
  refine sk_S.geti (dd DX0_isOneOf 1 rfl) rfl fX0_9 hb (by decide) rfl ?_
  refine sk_S.V 6 e0 ?_
  refine sk_S.istore_n (i := 2) (dd DX0_isOneOf 2 rfl) rfl (Nat.le_of_ble_eq_true rfl) rfl ?_
  refine sk_S.iconst (v := 0) (dd DX0_isOneOf 3 rfl) (by decide) ?_
  refine sk_S.istore_n (i := 3) (dd DX0_isOneOf 4 rfl) rfl (Nat.le_of_ble_eq_true rfl) rfl ?_
  refine sk_S.iload_n (i := 3) (dd DX0_isOneOf 5 rfl) rfl rfl ?_
  refine sk_S.bipush (v := 7) (dd DX0_isOneOf 6 rfl) (by decide) ?_
  refine sk_S.icmp_ge (tgt := 36) (dd DX0_isOneOf 7 rfl) (by decide) (fun c10 => absurd c10 (by decide)) (fun c10 => ?_)
  refine sk_S.iload_n (i := 2) (dd DX0_isOneOf 8 rfl) rfl rfl ?_
  refine sk_S.if_lt (tgt := 36) (dd DX0_isOneOf 9 rfl) (by decide) (fun c14 => absurd c14 (by decide)) (fun c14 => ?_)
  refine sk_S.iload_n (i := 2) (dd DX0_isOneOf 10 rfl) rfl rfl ?_
  refine sk_S.iload_n (i := 1) (dd DX0_isOneOf 11 rfl) rfl rfl ?_
  refine sk_S.icmp_ne (tgt := 24) (dd DX0_isOneOf 12 rfl) (by decide) (fun c19 => ?_) (fun c19 => ?_)
  · have n0 := c19
    refine sk_S.gets (dd DX0_isOneOf 15 rfl) rfl gsX0_21 ?_
    refine sk_S.iload_n (i := 2) (dd DX0_isOneOf 16 rfl) rfl rfl ?_
    refine sk_S.roald (dd DX0_isOneOf 17 rfl) rfl (j := 6) ⟨by decide, by decide, by decide⟩ rfl ?_
    refine sk_S.istore_n (i := 2) (dd DX0_isOneOf 18 rfl) rfl (Nat.le_of_ble_eq_true rfl) rfl ?_
    refine sk_S.iinc (i := 3) (v := _ + 1) (dd DX0_isOneOf 19 rfl) rfl rfl rfl ?_
    refine sk_S.goto (tgt := 7) (dd DX0_isOneOf 20 rfl) (by decide) ?_
    refine sk_S.iload_n (i := 3) (dd DX0_isOneOf 5 rfl) rfl rfl ?_
    refine sk_S.bipush (v := 7) (dd DX0_isOneOf 6 rfl) (by decide) ?_
    refine sk_S.icmp_ge (tgt := 36) (dd DX0_isOneOf 7 rfl) (by decide) (fun c10 => absurd c10 (by decide)) (fun c10 => ?_)
    refine sk_S.iload_n (i := 2) (dd DX0_isOneOf 8 rfl) rfl rfl ?_
    refine sk_S.if_lt (tgt := 36) (dd DX0_isOneOf 9 rfl) (by decide) (fun c14 => absurd c14 (by decide)) (fun c14 => ?_)
    refine sk_S.iload_n (i := 2) (dd DX0_isOneOf 10 rfl) rfl rfl ?_
    refine sk_S.iload_n (i := 1) (dd DX0_isOneOf 11 rfl) rfl rfl ?_
    refine sk_S.icmp_ne (tgt := 24) (dd DX0_isOneOf 12 rfl) (by decide) (fun c19 => ?_) (fun c19 => ?_)
    · have n1 := c19
      refine sk_S.gets (dd DX0_isOneOf 15 rfl) rfl gsX0_21 ?_
      refine sk_S.iload_n (i := 2) (dd DX0_isOneOf 16 rfl) rfl rfl ?_
      refine sk_S.roald (dd DX0_isOneOf 17 rfl) rfl (j := 0) ⟨by decide, by decide, by decide⟩ rfl ?_
      refine sk_S.istore_n (i := 2) (dd DX0_isOneOf 18 rfl) rfl (Nat.le_of_ble_eq_true rfl) rfl ?_
      refine sk_S.iinc (i := 3) (v := _ + 1) (dd DX0_isOneOf 19 rfl) rfl rfl rfl ?_
      refine sk_S.goto (tgt := 7) (dd DX0_isOneOf 20 rfl) (by decide) ?_
      refine sk_S.iload_n (i := 3) (dd DX0_isOneOf 5 rfl) rfl rfl ?_
      refine sk_S.bipush (v := 7) (dd DX0_isOneOf 6 rfl) (by decide) ?_
      refine sk_S.icmp_ge (tgt := 36) (dd DX0_isOneOf 7 rfl) (by decide) (fun c10 => absurd c10 (by decide)) (fun c10 => ?_)
      refine sk_S.iload_n (i := 2) (dd DX0_isOneOf 8 rfl) rfl rfl ?_
      refine sk_S.if_lt (tgt := 36) (dd DX0_isOneOf 9 rfl) (by decide) (fun c14 => ?_) (fun c14 => absurd (by decide) c14)
      refine sk_S.iconst (v := 0) (dd DX0_isOneOf 21 rfl) (by decide) ?_
      refine sk_S.iret (dd DX0_isOneOf 22 rfl) rfl rfl ?_
      refine ⟨rfl, ?_⟩
      rw [@bi_f _ (Classical.propDecidable _) (by
        unfold asV
        rintro (e | e | ⟨e, e2⟩ | ⟨e, e2⟩) <;> first | exact n0 e.symm | exact n1 e.symm | exact absurd e2 (by decide))]
    · refine sk_S.iconst (v := 1) (dd DX0_isOneOf 13 rfl) (by decide) ?_
      refine sk_S.iret (dd DX0_isOneOf 14 rfl) rfl rfl ?_
      refine ⟨rfl, ?_⟩
      have e : w = 0 := c19.symm
      subst e
      rw [@bi_t _ (Classical.propDecidable _) (by unfold asV; simp)]
  · refine sk_S.iconst (v := 1) (dd DX0_isOneOf 13 rfl) (by decide) ?_
    refine sk_S.iret (dd DX0_isOneOf 14 rfl) rfl rfl ?_
    refine ⟨rfl, ?_⟩
    have e : w = 6 := c19.symm
    subst e
    rw [@bi_t _ (Classical.propDecidable _) (by unfold asV; simp)]
theorem cC_isOneOf {l : Launch} {E : sk_V} {d : Nat} {h : sk_M} {b : Nat} {w k : Int32} (hb : sk_e b = (1, 0, 3, [])) (e0 : h b 0 = k) (hk : inN k 7) : sk_K l E (d + 0) MX0_isOneOf [.ref b, .int w] h (fun r h1 => h = h1 ∧ some (.int (@bi (asV w k) (Classical.propDecidable _))) = r) := by
  obtain ⟨j, hj, rfl⟩ := hk
  rcases (by omega : j = 0 ∨ j = 1 ∨ j = 2 ∨ j = 3 ∨ j = 4 ∨ j = 5 ∨ j = 6) with rfl | rfl | rfl | rfl | rfl | rfl | rfl
  · exact cC_one0 hb e0
  · exact cC_one1 hb e0
  · exact cC_one2 hb e0
  · exact cC_one3 hb e0
  · exact cC_one4 hb e0
  · exact cC_one5 hb e0
  · exact cC_one6 hb e0
set_option maxRecDepth 100000 in
set_option maxHeartbeats 1000000 in
theorem cP_seed {l : Launch} {E : sk_V} {d : Nat} {h : sk_M} {v : Int32} {g : Nat → Int32} (hR : RQ 1 18 h g) (hG : RG g) : sk_K l E (d + 5) MX7_seed [.ref 0, .int v] h (fun r h1 => oC h h1 (seedF g v).1 (seedF g v).2 r) := by
  refine sk_K.of (by decide +kernel) (Nat.le_of_ble_eq_true rfl) ?_
  show sk_S l E (d + 5) _ 0 [some (.ref 0), some (.int v), none] [] h _
  refine sk_S.aload_n (i := 0) (dd DX7_seed 0 rfl) rfl rfl ?_
  refine sk_S.getr (dd DX7_seed 1 rfl) rfl fX7_12 se_0 (by decide) rfl ?_
  refine sk_S.geti (dd DX7_seed 2 rfl) rfl fX7_159 se_1 (by decide) rfl ?_
  refine sk_S.istore_n (i := 2) (dd DX7_seed 3 rfl) rfl (Nat.le_of_ble_eq_true rfl) rfl ?_
  refine sk_S.aload_n (i := 0) (dd DX7_seed 4 rfl) rfl rfl ?_
  refine sk_S.getr (dd DX7_seed 5 rfl) rfl fX7_12 se_0 (by decide) rfl ?_
  refine sk_S.iload_n (i := 1) (dd DX7_seed 6 rfl) rfl rfl ?_
  refine sk_S.putf (dd DX7_seed 7 rfl) rfl pX7_159 se_1 (by decide) rfl rfl rfl ?_
  refine sk_S.iload_n (i := 2) (dd DX7_seed 8 rfl) rfl rfl ?_
  refine sk_S.iret (dd DX7_seed 9 rfl) rfl rfl ?_
  exact ⟨sk_o.rf.u (by decide), hR.u_q (p := 1) (by decide), by rw [hR.zz]; rfl⟩
set_option maxRecDepth 100000 in
set_option maxHeartbeats 1000000 in
theorem cP_rises {l : Launch} {E : sk_V} {d : Nat} {h : sk_M} {v : Int32} {g : Nat → Int32} (hR : RQ 1 18 h g) (hG : RG g) : sk_K l E (d + 5) MX7_rises [.ref 0, .int v] h (fun r h1 => oC h h1 (risesF g v).1 (risesF g v).2 r) := by
  refine sk_K.of (by decide +kernel) (Nat.le_of_ble_eq_true rfl) ?_
  show sk_S l E (d + 5) _ 0 [some (.ref 0), some (.int v), none] [] h _
  refine sk_S.iload_n (i := 1) (dd DX7_rises 0 rfl) rfl rfl ?_
  refine sk_S.bipush (v := 9) (dd DX7_rises 1 rfl) (by decide) ?_
  refine sk_S.callS (dd DX7_rises 2 rfl) rfl kX7_74 cC_isWithin rfl rfl rfl (Nat.le_of_ble_eq_true rfl) (fun r3 h3 q3 => ?_)
  obtain ⟨rfl, rfl⟩ := q3
  show sk_S _ _ _ _ _ _ (.int _ :: _) _ _
  refine sk_S.bif_ne (tgt := 16) (dd DX7_rises 3 rfl) (by decide) (fun c6 => ?_) (fun c6 => ?_)
  · refine sk_S.aload_n (i := 0) (dd DX7_rises 8 rfl) rfl rfl ?_
    refine sk_S.getr (dd DX7_rises 9 rfl) rfl fX7_12 se_0 (by decide) rfl ?_
    refine sk_S.geti (dd DX7_rises 10 rfl) rfl fX7_93 se_1 (by decide) rfl ?_
    refine sk_S.istore_n (i := 2) (dd DX7_rises 11 rfl) rfl (Nat.le_of_ble_eq_true rfl) rfl ?_
    refine sk_S.aload_n (i := 0) (dd DX7_rises 12 rfl) rfl rfl ?_
    refine sk_S.getr (dd DX7_rises 13 rfl) rfl fX7_12 se_0 (by decide) rfl ?_
    refine sk_S.iload_n (i := 1) (dd DX7_rises 14 rfl) rfl rfl ?_
    refine sk_S.putf (dd DX7_rises 15 rfl) rfl pX7_93 se_1 (by decide) rfl rfl rfl ?_
    refine sk_S.iload_n (i := 2) (dd DX7_rises 16 rfl) rfl rfl ?_
    refine sk_S.iret (dd DX7_rises 17 rfl) rfl rfl ?_
    have e : risesF g v = (upd g 3 v, g 3) := by
      unfold risesF
      rw [cif_t ((inN_le (M := 9) (n := 10) (by decide)).mp c6)]
    rw [e]
    exact ⟨sk_o.rf.u (by decide), hR.u_q (p := 3) (by decide), by rw [hR.wa]⟩
  · refine sk_S.aload_n (i := 0) (dd DX7_rises 4 rfl) rfl rfl ?_
    refine sk_S.ldc (dd DX7_rises 5 rfl) rfl cnX7_48 ?_
    refine sk_S.callV (dd DX7_rises 6 rfl) rfl kX7_49 (cC_refuse (k := 1) (by decide) (by decide) (by decide)) se_0 (by decide) rfl rfl rfl rfl (Nat.le_of_ble_eq_true rfl) (fun r12 h12 q12 => ?_)
    obtain ⟨rfl, rfl⟩ := q12
    show sk_S _ _ _ _ _ _ (.int _ :: _) _ _
    refine sk_S.iret (dd DX7_rises 7 rfl) rfl rfl ?_
    have e : risesF g v = (g, erI 1) := by
      unfold risesF
      rw [cif_f (fun z => (c6 ((inN_le (M := 9) (n := 10) (by decide)).mpr z)))]
    rw [e]
    exact oC.er (j := 1) hR sk_o.rf
set_option maxRecDepth 100000 in
set_option maxHeartbeats 1000000 in
theorem cP_lose {l : Launch} {E : sk_V} {d : Nat} {h : sk_M} {b v : Int32} {g : Nat → Int32} (hR : RQ 1 18 h g) (hG : RG g) : sk_K l E (d + 5) MX7_lose [.ref 0, .int b, .int v] h (fun r h1 => oC h h1 (loseF g b v).1 (loseF g b v).2 r) := by
  refine sk_K.of (by decide +kernel) (Nat.le_of_ble_eq_true rfl) ?_
  show sk_S l E (d + 5) _ 0 [some (.ref 0), some (.int b), some (.int v), none] [] h _
  refine sk_S.aload_n (i := 0) (dd DX7_lose 0 rfl) rfl rfl ?_
  refine sk_S.iload_n (i := 1) (dd DX7_lose 1 rfl) rfl rfl ?_
  refine sk_S.callV (dd DX7_lose 2 rfl) rfl kX7_71 cC_isBoat se_0 (by decide) rfl rfl rfl rfl (Nat.le_of_ble_eq_true rfl) (fun r2 h2 q2 => ?_)
  obtain ⟨rfl, rfl⟩ := q2
  show sk_S _ _ _ _ _ _ (.int _ :: _) _ _
  refine sk_S.bif_eq (tgt := 16) (dd DX7_lose 3 rfl) (by decide) (fun c5 => ?_) (fun c5 => ?_)
  · refine sk_S.aload_n (i := 0) (dd DX7_lose 8 rfl) rfl rfl ?_
    refine sk_S.ldc (dd DX7_lose 9 rfl) rfl cnX7_48 ?_
    refine sk_S.callV (dd DX7_lose 10 rfl) rfl kX7_49 (cC_refuse (k := 1) (by decide) (by decide) (by decide)) se_0 (by decide) rfl rfl rfl rfl (Nat.le_of_ble_eq_true rfl) (fun r19 h19 q19 => ?_)
    obtain ⟨rfl, rfl⟩ := q19
    show sk_S _ _ _ _ _ _ (.int _ :: _) _ _
    refine sk_S.iret (dd DX7_lose 11 rfl) rfl rfl ?_
    have e : loseF g b v = (g, erI 1) := by
      unfold loseF
      rw [cif_f (fun z => (c5 ((isb hR hG).mpr z.1)))]
    rw [e]
    exact oC.er (j := 1) hR sk_o.rf
  · refine sk_S.iload_n (i := 2) (dd DX7_lose 4 rfl) rfl rfl ?_
    refine sk_S.iconst (v := 1) (dd DX7_lose 5 rfl) (by decide) ?_
    refine sk_S.callS (dd DX7_lose 6 rfl) rfl kX7_74 cC_isWithin rfl rfl rfl (Nat.le_of_ble_eq_true rfl) (fun r10 h10 q10 => ?_)
    obtain ⟨rfl, rfl⟩ := q10
    show sk_S _ _ _ _ _ _ (.int _ :: _) _ _
    refine sk_S.bif_ne (tgt := 23) (dd DX7_lose 7 rfl) (by decide) (fun c13 => ?_) (fun c13 => ?_)
    · obtain ⟨j, hjb, rfl⟩ := (isb hR hG).mp c5
      have hj : j < 6 := by have := hG.b.2; omega
      have hcl : cl (nI j) = j := clN (by omega)
      refine sk_S.aload_n (i := 0) (dd DX7_lose 12 rfl) rfl rfl ?_
      refine sk_S.getr (dd DX7_lose 13 rfl) rfl fX7_12 se_0 (by decide) rfl ?_
      refine sk_S.getr (dd DX7_lose 14 rfl) rfl fX7_58 se_1 (by decide) rfl ?_
      refine sk_S.iload_n (i := 1) (dd DX7_lose 15 rfl) rfl rfl ?_
      refine sk_S.aald (dd DX7_lose 16 rfl) se_20 rfl (sk_ix_nI (k := j) rfl hj (by decide)) (rf_fleet hj) ?_
      refine sk_S.geti (dd DX7_lose 17 rfl) rfl fX7_68 (se_bt hj) (by decide) rfl ?_
      refine sk_S.istore_n (i := 3) (dd DX7_lose 18 rfl) rfl (Nat.le_of_ble_eq_true rfl) rfl ?_
      refine sk_S.aload_n (i := 0) (dd DX7_lose 19 rfl) rfl rfl ?_
      refine sk_S.getr (dd DX7_lose 20 rfl) rfl fX7_12 se_0 (by decide) rfl ?_
      refine sk_S.getr (dd DX7_lose 21 rfl) rfl fX7_58 se_1 (by decide) rfl ?_
      refine sk_S.iload_n (i := 1) (dd DX7_lose 22 rfl) rfl rfl ?_
      refine sk_S.aald (dd DX7_lose 23 rfl) se_20 rfl (sk_ix_nI (k := j) rfl hj (by decide)) (rf_fleet hj) ?_
      refine sk_S.iload_n (i := 2) (dd DX7_lose 24 rfl) rfl rfl ?_
      refine sk_S.putf (dd DX7_lose 25 rfl) rfl pX7_68 (se_bt hj) (by decide) rfl rfl rfl ?_
      refine sk_S.iload_n (i := 3) (dd DX7_lose 26 rfl) rfl rfl ?_
      refine sk_S.iret (dd DX7_lose 27 rfl) rfl rfl ?_
      have e : loseF g (nI j) v = (upd g (17 + 3 * j + 2) v, g (17 + 3 * j + 2)) := by
        unfold loseF
        rw [cif_t ⟨⟨j, hjb, rfl⟩, ((inN_le (M := 1) (n := 2) (by decide)).mp c13)⟩, hcl]
      rw [e]
      exact ⟨sk_o.rf.u (ccl_bt hj), hR.u_bt hj (by decide), by rw [hR.b2 hj]⟩
    · refine sk_S.aload_n (i := 0) (dd DX7_lose 8 rfl) rfl rfl ?_
      refine sk_S.ldc (dd DX7_lose 9 rfl) rfl cnX7_48 ?_
      refine sk_S.callV (dd DX7_lose 10 rfl) rfl kX7_49 (cC_refuse (k := 1) (by decide) (by decide) (by decide)) se_0 (by decide) rfl rfl rfl rfl (Nat.le_of_ble_eq_true rfl) (fun r19 h19 q19 => ?_)
      obtain ⟨rfl, rfl⟩ := q19
      show sk_S _ _ _ _ _ _ (.int _ :: _) _ _
      refine sk_S.iret (dd DX7_lose 11 rfl) rfl rfl ?_
      have e : loseF g b v = (g, erI 1) := by
        unfold loseF
        rw [cif_f (fun z => (c13 ((inN_le (M := 1) (n := 2) (by decide)).mpr z.2)))]
      rw [e]
      exact oC.er (j := 1) hR sk_o.rf
set_option maxRecDepth 100000 in
set_option maxHeartbeats 1000000 in
theorem cP_price {l : Launch} {E : sk_V} {d : Nat} {h : sk_M} {f v : Int32} {g : Nat → Int32} (hR : RQ 1 18 h g) (hG : RG g) : sk_K l E (d + 5) MX7_price [.ref 0, .int f, .int v] h (fun r h1 => oC h h1 (priceF g f v).1 (priceF g f v).2 r) := by
  refine sk_K.of (by decide +kernel) (Nat.le_of_ble_eq_true rfl) ?_
  show sk_S l E (d + 5) _ 0 [some (.ref 0), some (.int f), some (.int v), none] [] h _
  refine sk_S.iload_n (i := 1) (dd DX7_price 0 rfl) rfl rfl ?_
  refine sk_S.callS (dd DX7_price 1 rfl) rfl kX7_104 cC_isFish rfl rfl rfl (Nat.le_of_ble_eq_true rfl) (fun r1 h1 q1 => ?_)
  obtain ⟨rfl, rfl⟩ := q1
  show sk_S _ _ _ _ _ _ (.int _ :: _) _ _
  refine sk_S.bif_eq (tgt := 16) (dd DX7_price 2 rfl) (by decide) (fun c4 => ?_) (fun c4 => ?_)
  · refine sk_S.aload_n (i := 0) (dd DX7_price 7 rfl) rfl rfl ?_
    refine sk_S.ldc (dd DX7_price 8 rfl) rfl cnX7_48 ?_
    refine sk_S.callV (dd DX7_price 9 rfl) rfl kX7_49 (cC_refuse (k := 1) (by decide) (by decide) (by decide)) se_0 (by decide) rfl rfl rfl rfl (Nat.le_of_ble_eq_true rfl) (fun r19 h19 q19 => ?_)
    obtain ⟨rfl, rfl⟩ := q19
    show sk_S _ _ _ _ _ _ (.int _ :: _) _ _
    refine sk_S.iret (dd DX7_price 10 rfl) rfl rfl ?_
    have e : priceF g f v = (g, erI 1) := by
      unfold priceF
      rw [cif_f (fun z => (c4 ((inN_lt (M := 4) (n := 4) (by decide)).mpr z.1)))]
    rw [e]
    exact oC.er (j := 1) hR sk_o.rf
  · refine sk_S.iload_n (i := 2) (dd DX7_price 3 rfl) rfl rfl ?_
    refine sk_S.bipush (v := 9) (dd DX7_price 4 rfl) (by decide) ?_
    refine sk_S.callS (dd DX7_price 5 rfl) rfl kX7_74 cC_isWithin rfl rfl rfl (Nat.le_of_ble_eq_true rfl) (fun r10 h10 q10 => ?_)
    obtain ⟨rfl, rfl⟩ := q10
    show sk_S _ _ _ _ _ _ (.int _ :: _) _ _
    refine sk_S.bif_ne (tgt := 23) (dd DX7_price 6 rfl) (by decide) (fun c13 => ?_) (fun c13 => ?_)
    · obtain ⟨j, hj, rfl⟩ := ((inN_lt (M := 4) (n := 4) (by decide)).mp c4)
      have hcl : cl (nI j) = j := clN (by omega)
      refine sk_S.aload_n (i := 0) (dd DX7_price 11 rfl) rfl rfl ?_
      refine sk_S.getr (dd DX7_price 12 rfl) rfl fX7_12 se_0 (by decide) rfl ?_
      refine sk_S.getr (dd DX7_price 13 rfl) rfl fX7_107 se_1 (by decide) rfl ?_
      refine sk_S.iload_n (i := 1) (dd DX7_price 14 rfl) rfl rfl ?_
      refine sk_S.iald (dd DX7_price 15 rfl) se_19 (sk_ix_nI (k := j) rfl hj (by decide)) ?_
      refine sk_S.istore_n (i := 3) (dd DX7_price 16 rfl) rfl (Nat.le_of_ble_eq_true rfl) rfl ?_
      refine sk_S.aload_n (i := 0) (dd DX7_price 17 rfl) rfl rfl ?_
      refine sk_S.getr (dd DX7_price 18 rfl) rfl fX7_12 se_0 (by decide) rfl ?_
      refine sk_S.getr (dd DX7_price 19 rfl) rfl fX7_107 se_1 (by decide) rfl ?_
      refine sk_S.iload_n (i := 1) (dd DX7_price 20 rfl) rfl rfl ?_
      refine sk_S.iload_n (i := 2) (dd DX7_price 21 rfl) rfl rfl ?_
      refine sk_S.iast (dd DX7_price 22 rfl) se_19 (sk_ix_nI (k := j) rfl hj (by decide)) ?_
      refine sk_S.iload_n (i := 3) (dd DX7_price 23 rfl) rfl rfl ?_
      refine sk_S.iret (dd DX7_price 24 rfl) rfl rfl ?_
      have e : priceF g (nI j) v = (upd g (13 + j) v, g (13 + j)) := by
        unfold priceF
        rw [cif_t ⟨⟨j, hj, rfl⟩, ((inN_le (M := 9) (n := 10) (by decide)).mp c13)⟩, hcl]
      rw [e]
      exact ⟨sk_o.rf.u (by decide), hR.u_as hj, by rw [show h 19 j = g (13 + j) from hR.ak hj]⟩
    · refine sk_S.aload_n (i := 0) (dd DX7_price 7 rfl) rfl rfl ?_
      refine sk_S.ldc (dd DX7_price 8 rfl) rfl cnX7_48 ?_
      refine sk_S.callV (dd DX7_price 9 rfl) rfl kX7_49 (cC_refuse (k := 1) (by decide) (by decide) (by decide)) se_0 (by decide) rfl rfl rfl rfl (Nat.le_of_ble_eq_true rfl) (fun r19 h19 q19 => ?_)
      obtain ⟨rfl, rfl⟩ := q19
      show sk_S _ _ _ _ _ _ (.int _ :: _) _ _
      refine sk_S.iret (dd DX7_price 10 rfl) rfl rfl ?_
      have e : priceF g f v = (g, erI 1) := by
        unfold priceF
        rw [cif_f (fun z => (c13 ((inN_le (M := 9) (n := 10) (by decide)).mpr z.2)))]
      rw [e]
      exact oC.er (j := 1) hR sk_o.rf
set_option maxRecDepth 100000 in
set_option maxHeartbeats 1000000 in
theorem cP_become {l : Launch} {E : sk_V} {d : Nat} {h : sk_M} {b v : Int32} {g : Nat → Int32} (hR : RQ 1 18 h g) (hG : RG g) : sk_K l E (d + 5) MX7_become [.ref 0, .int b, .int v] h (fun r h1 => oC h h1 (becomeF g b v).1 (becomeF g b v).2 r) := by
  refine sk_K.of (by decide +kernel) (Nat.le_of_ble_eq_true rfl) ?_
  show sk_S l E (d + 5) _ 0 [some (.ref 0), some (.int b), some (.int v), none] [] h _
  refine sk_S.aload_n (i := 0) (dd DX7_become 0 rfl) rfl rfl ?_
  refine sk_S.iload_n (i := 1) (dd DX7_become 1 rfl) rfl rfl ?_
  refine sk_S.callV (dd DX7_become 2 rfl) rfl kX7_71 cC_isBoat se_0 (by decide) rfl rfl rfl rfl (Nat.le_of_ble_eq_true rfl) (fun r2 h2 q2 => ?_)
  obtain ⟨rfl, rfl⟩ := q2
  show sk_S _ _ _ _ _ _ (.int _ :: _) _ _
  refine sk_S.bif_eq (tgt := 15) (dd DX7_become 3 rfl) (by decide) (fun c5 => ?_) (fun c5 => ?_)
  · refine sk_S.aload_n (i := 0) (dd DX7_become 7 rfl) rfl rfl ?_
    refine sk_S.ldc (dd DX7_become 8 rfl) rfl cnX7_48 ?_
    refine sk_S.callV (dd DX7_become 9 rfl) rfl kX7_49 (cC_refuse (k := 1) (by decide) (by decide) (by decide)) se_0 (by decide) rfl rfl rfl rfl (Nat.le_of_ble_eq_true rfl) (fun r18 h18 q18 => ?_)
    obtain ⟨rfl, rfl⟩ := q18
    show sk_S _ _ _ _ _ _ (.int _ :: _) _ _
    refine sk_S.iret (dd DX7_become 10 rfl) rfl rfl ?_
    have e : becomeF g b v = (g, erI 1) := by
      unfold becomeF
      rw [cif_f (fun z => (c5 ((isb hR hG).mpr z.1)))]
    rw [e]
    exact oC.er (j := 1) hR sk_o.rf
  · refine sk_S.iload_n (i := 2) (dd DX7_become 4 rfl) rfl rfl ?_
    refine sk_S.callS (dd DX7_become 5 rfl) rfl kX7_44 cC_isKindWithNumber rfl rfl rfl (Nat.le_of_ble_eq_true rfl) (fun r9 h9 q9 => ?_)
    obtain ⟨rfl, rfl⟩ := q9
    show sk_S _ _ _ _ _ _ (.int _ :: _) _ _
    refine sk_S.bif_ne (tgt := 22) (dd DX7_become 6 rfl) (by decide) (fun c12 => ?_) (fun c12 => ?_)
    · obtain ⟨j, hjb, rfl⟩ := (isb hR hG).mp c5
      have hj : j < 6 := by have := hG.b.2; omega
      have hcl : cl (nI j) = j := clN (by omega)
      refine sk_S.aload_n (i := 0) (dd DX7_become 11 rfl) rfl rfl ?_
      refine sk_S.getr (dd DX7_become 12 rfl) rfl fX7_12 se_0 (by decide) rfl ?_
      refine sk_S.getr (dd DX7_become 13 rfl) rfl fX7_58 se_1 (by decide) rfl ?_
      refine sk_S.iload_n (i := 1) (dd DX7_become 14 rfl) rfl rfl ?_
      refine sk_S.aald (dd DX7_become 15 rfl) se_20 rfl (sk_ix_nI (k := j) rfl hj (by decide)) (rf_fleet hj) ?_
      refine sk_S.geti (dd DX7_become 16 rfl) rfl fX7_78 (se_bt hj) (by decide) rfl ?_
      refine sk_S.istore_n (i := 3) (dd DX7_become 17 rfl) rfl (Nat.le_of_ble_eq_true rfl) rfl ?_
      refine sk_S.aload_n (i := 0) (dd DX7_become 18 rfl) rfl rfl ?_
      refine sk_S.getr (dd DX7_become 19 rfl) rfl fX7_12 se_0 (by decide) rfl ?_
      refine sk_S.getr (dd DX7_become 20 rfl) rfl fX7_58 se_1 (by decide) rfl ?_
      refine sk_S.iload_n (i := 1) (dd DX7_become 21 rfl) rfl rfl ?_
      refine sk_S.aald (dd DX7_become 22 rfl) se_20 rfl (sk_ix_nI (k := j) rfl hj (by decide)) (rf_fleet hj) ?_
      refine sk_S.iload_n (i := 2) (dd DX7_become 23 rfl) rfl rfl ?_
      refine sk_S.callV (dd DX7_become 24 rfl) rfl kX7_62 (cC_turnInto (se_bt hj)) (se_bt hj) (by decide) rfl rfl rfl rfl (Nat.le_of_ble_eq_true rfl) (fun r45 h45 q45 => ?_)
      obtain ⟨rfl, rfl⟩ := q45
      show sk_S _ _ _ _ 48 _ _ _ _
      refine sk_S.iload_n (i := 3) (dd DX7_become 25 rfl) rfl rfl ?_
      refine sk_S.iret (dd DX7_become 26 rfl) rfl rfl ?_
      have e : becomeF g (nI j) v = (upd (upd g (17 + 3 * j + 1) (v - v / 10 * 10)) (17 + 3 * j) (v / 10), g (17 + 3 * j)) := by
        unfold becomeF
        rw [cif_t ⟨⟨j, hjb, rfl⟩, ((inN_lt (M := 70) (n := 70) (by decide)).mp c12)⟩, hcl]
      rw [e]
      refine ⟨(sk_o.rf.u (ccl_bt hj)).u (ccl_bt hj), ?_, by rw [hR.b0 hj]⟩
      have e2 := (hR.u_b0 (x := v / 10) hj).u_bt (w := 1) (x := v - v / 10 * 10) hj (by decide)
      rw [upd_cm (by omega)] at e2
      exact e2
    · refine sk_S.aload_n (i := 0) (dd DX7_become 7 rfl) rfl rfl ?_
      refine sk_S.ldc (dd DX7_become 8 rfl) rfl cnX7_48 ?_
      refine sk_S.callV (dd DX7_become 9 rfl) rfl kX7_49 (cC_refuse (k := 1) (by decide) (by decide) (by decide)) se_0 (by decide) rfl rfl rfl rfl (Nat.le_of_ble_eq_true rfl) (fun r18 h18 q18 => ?_)
      obtain ⟨rfl, rfl⟩ := q18
      show sk_S _ _ _ _ _ _ (.int _ :: _) _ _
      refine sk_S.iret (dd DX7_become 10 rfl) rfl rfl ?_
      have e : becomeF g b v = (g, erI 1) := by
        unfold becomeF
        rw [cif_f (fun z => (c12 ((inN_lt (M := 70) (n := 70) (by decide)).mpr z.2)))]
      rw [e]
      exact oC.er (j := 1) hR sk_o.rf
set_option maxRecDepth 100000 in
set_option maxHeartbeats 1000000 in
theorem cP_as {l : Launch} {E : sk_V} {d : Nat} {h : sk_M} {b k : Int32} {g : Nat → Int32} (hR : RQ 1 18 h g) (hG : RG g) : sk_K l E (d + 5) MX7_as [.ref 0, .int b, .int k] h (fun r h1 => oC h h1 (asF g b k).1 (asF g b k).2 r) := by
  refine sk_K.of (by decide +kernel) (Nat.le_of_ble_eq_true rfl) ?_
  show sk_S l E (d + 5) _ 0 [some (.ref 0), some (.int b), some (.int k)] [] h _
  refine sk_S.aload_n (i := 0) (dd DX7_as 0 rfl) rfl rfl ?_
  refine sk_S.iload_n (i := 1) (dd DX7_as 1 rfl) rfl rfl ?_
  refine sk_S.callV (dd DX7_as 2 rfl) rfl kX7_71 cC_isBoat se_0 (by decide) rfl rfl rfl rfl (Nat.le_of_ble_eq_true rfl) (fun r2 h2 q2 => ?_)
  obtain ⟨rfl, rfl⟩ := q2
  show sk_S _ _ _ _ _ _ (.int _ :: _) _ _
  refine sk_S.bif_eq (tgt := 17) (dd DX7_as 3 rfl) (by decide) (fun c5 => ?_) (fun c5 => ?_)
  · refine sk_S.aload_n (i := 0) (dd DX7_as 8 rfl) rfl rfl ?_
    refine sk_S.ldc (dd DX7_as 9 rfl) rfl cnX7_48 ?_
    refine sk_S.callV (dd DX7_as 10 rfl) rfl kX7_49 (cC_refuse (k := 1) (by decide) (by decide) (by decide)) se_0 (by decide) rfl rfl rfl rfl (Nat.le_of_ble_eq_true rfl) (fun r20 h20 q20 => ?_)
    obtain ⟨rfl, rfl⟩ := q20
    show sk_S _ _ _ _ _ _ (.int _ :: _) _ _
    refine sk_S.iret (dd DX7_as 11 rfl) rfl rfl ?_
    have e : asF g b k = (g, erI 1) := by
      unfold asF
      rw [cif_f (fun z => (c5 ((isb hR hG).mpr z.1)))]
    rw [e]
    exact oC.er (j := 1) hR sk_o.rf
  · refine sk_S.iload_n (i := 2) (dd DX7_as 4 rfl) rfl rfl ?_
    refine sk_S.bipush (v := 6) (dd DX7_as 5 rfl) (by decide) ?_
    refine sk_S.callS (dd DX7_as 6 rfl) rfl kX7_74 cC_isWithin rfl rfl rfl (Nat.le_of_ble_eq_true rfl) (fun r11 h11 q11 => ?_)
    obtain ⟨rfl, rfl⟩ := q11
    show sk_S _ _ _ _ _ _ (.int _ :: _) _ _
    refine sk_S.bif_ne (tgt := 24) (dd DX7_as 7 rfl) (by decide) (fun c14 => ?_) (fun c14 => ?_)
    · obtain ⟨j, hjb, rfl⟩ := (isb hR hG).mp c5
      have hj : j < 6 := by have := hG.b.2; omega
      have hcl : cl (nI j) = j := clN (by omega)
      refine sk_S.aload_n (i := 0) (dd DX7_as 12 rfl) rfl rfl ?_
      refine sk_S.getr (dd DX7_as 13 rfl) rfl fX7_12 se_0 (by decide) rfl ?_
      refine sk_S.getr (dd DX7_as 14 rfl) rfl fX7_58 se_1 (by decide) rfl ?_
      refine sk_S.iload_n (i := 1) (dd DX7_as 15 rfl) rfl rfl ?_
      refine sk_S.aald (dd DX7_as 16 rfl) se_20 rfl (sk_ix_nI (k := j) rfl hj (by decide)) (rf_fleet hj) ?_
      refine sk_S.iload_n (i := 2) (dd DX7_as 17 rfl) rfl rfl ?_
      refine sk_S.callV (dd DX7_as 18 rfl) rfl kX7_100 (cC_isOneOf (se_bt hj) (hR.b0 hj) (hG.bt hj).1) (se_bt hj) (by decide) rfl rfl rfl rfl (Nat.le_of_ble_eq_true rfl) (fun r34 h34 q34 => ?_)
      obtain ⟨rfl, rfl⟩ := q34
      show sk_S _ _ _ _ _ _ (.int _ :: _) _ _
      refine sk_S.bic_ne (tgt := 47) (dd DX7_as 19 rfl) (by decide) (fun c37 => ?_) (fun c37 => ?_)
      · refine sk_S.aload_n (i := 0) (dd DX7_as 24 rfl) rfl rfl ?_
        refine sk_S.getr (dd DX7_as 25 rfl) rfl fX7_12 se_0 (by decide) rfl ?_
        refine sk_S.getr (dd DX7_as 26 rfl) rfl fX7_58 se_1 (by decide) rfl ?_
        refine sk_S.iload_n (i := 1) (dd DX7_as 27 rfl) rfl rfl ?_
        refine sk_S.aald (dd DX7_as 28 rfl) se_20 rfl (sk_ix_nI (k := j) rfl hj (by decide)) (rf_fleet hj) ?_
        refine sk_S.geti (dd DX7_as 29 rfl) rfl fX7_81 (se_bt hj) (by decide) rfl ?_
        refine sk_S.iret (dd DX7_as 30 rfl) rfl rfl ?_
        have e : asF g (nI j) k = (g, g (17 + 3 * j + 1)) := by
          unfold asF
          rw [cif_t ⟨⟨j, hjb, rfl⟩, ((inN_le (M := 6) (n := 7) (by decide)).mp c14)⟩, hcl, cif_t c37]
        rw [e]
        exact ⟨sk_o.rf, hR, by rw [hR.b1 hj]⟩
      · refine sk_S.aload_n (i := 0) (dd DX7_as 20 rfl) rfl rfl ?_
        refine sk_S.ldc (dd DX7_as 21 rfl) rfl cnX7_103 ?_
        refine sk_S.callV (dd DX7_as 22 rfl) rfl kX7_49 (cC_refuse (k := 5) (by decide) (by decide) (by decide)) se_0 (by decide) rfl rfl rfl rfl (Nat.le_of_ble_eq_true rfl) (fun r43 h43 q43 => ?_)
        obtain ⟨rfl, rfl⟩ := q43
        show sk_S _ _ _ _ _ _ (.int _ :: _) _ _
        refine sk_S.iret (dd DX7_as 23 rfl) rfl rfl ?_
        have e : asF g (nI j) k = (g, erI 5) := by
          unfold asF
          rw [cif_t ⟨⟨j, hjb, rfl⟩, ((inN_le (M := 6) (n := 7) (by decide)).mp c14)⟩, hcl, cif_f c37]
        rw [e]
        exact oC.er (j := 5) hR sk_o.rf
    · refine sk_S.aload_n (i := 0) (dd DX7_as 8 rfl) rfl rfl ?_
      refine sk_S.ldc (dd DX7_as 9 rfl) rfl cnX7_48 ?_
      refine sk_S.callV (dd DX7_as 10 rfl) rfl kX7_49 (cC_refuse (k := 1) (by decide) (by decide) (by decide)) se_0 (by decide) rfl rfl rfl rfl (Nat.le_of_ble_eq_true rfl) (fun r20 h20 q20 => ?_)
      obtain ⟨rfl, rfl⟩ := q20
      show sk_S _ _ _ _ _ _ (.int _ :: _) _ _
      refine sk_S.iret (dd DX7_as 11 rfl) rfl rfl ?_
      have e : asF g b k = (g, erI 1) := by
        unfold asF
        rw [cif_f (fun z => (c14 ((inN_le (M := 6) (n := 7) (by decide)).mpr z.2)))]
      rw [e]
      exact oC.er (j := 1) hR sk_o.rf
set_option maxRecDepth 100000 in
set_option maxHeartbeats 1000000 in
theorem cP_boat {l : Launch} {E : sk_V} {d : Nat} {h : sk_M} {v : Int32} {g : Nat → Int32} (hR : RQ 1 18 h g) (hG : RG g) : sk_K l E (d + 5) MX7_boat [.ref 0, .int v] h (fun r h1 => oC h h1 (boatF g v).1 (boatF g v).2 r) := by
  refine sk_K.of (by decide +kernel) (Nat.le_of_ble_eq_true rfl) ?_
  show sk_S l E (d + 5) _ 0 [some (.ref 0), some (.int v), none] [] h _
  refine sk_S.iload_n (i := 1) (dd DX7_boat 0 rfl) rfl rfl ?_
  refine sk_S.callS (dd DX7_boat 1 rfl) rfl kX7_44 cC_isKindWithNumber rfl rfl rfl (Nat.le_of_ble_eq_true rfl) (fun r1 h1 q1 => ?_)
  obtain ⟨rfl, rfl⟩ := q1
  show sk_S _ _ _ _ _ _ (.int _ :: _) _ _
  refine sk_S.bif_ne (tgt := 14) (dd DX7_boat 2 rfl) (by decide) (fun c4 => ?_) (fun c4 => ?_)
  · refine sk_S.aload_n (i := 0) (dd DX7_boat 7 rfl) rfl rfl ?_
    refine sk_S.getr (dd DX7_boat 8 rfl) rfl fX7_12 se_0 (by decide) rfl ?_
    refine sk_S.geti (dd DX7_boat 9 rfl) rfl fX7_53 se_1 (by decide) rfl ?_
    refine sk_S.bipush (v := 6) (dd DX7_boat 10 rfl) (by decide) ?_
    refine sk_S.icmp_lt (tgt := 33) (dd DX7_boat 11 rfl) (by decide) (fun c23 => ?_) (fun c23 => ?_)
    · have hj : boN g < 6 := by
        rw [hR.bo.trans hG.b.1] at c23
        have c : nI (boN g) < nI 6 := c23
        rwa [nI_ltI (by have := hG.b.2; omega) (by decide)] at c
      refine sk_S.aload_n (i := 0) (dd DX7_boat 16 rfl) rfl rfl ?_
      refine sk_S.getr (dd DX7_boat 17 rfl) rfl fX7_12 se_0 (by decide) rfl ?_
      refine sk_S.geti (dd DX7_boat 18 rfl) rfl fX7_53 se_1 (by decide) rfl ?_
      refine sk_S.istore_n (i := 2) (dd DX7_boat 19 rfl) rfl (Nat.le_of_ble_eq_true rfl) rfl ?_
      refine sk_S.aload_n (i := 0) (dd DX7_boat 20 rfl) rfl rfl ?_
      refine sk_S.getr (dd DX7_boat 21 rfl) rfl fX7_12 se_0 (by decide) rfl ?_
      refine sk_S.getr (dd DX7_boat 22 rfl) rfl fX7_58 se_1 (by decide) rfl ?_
      refine sk_S.iload_n (i := 2) (dd DX7_boat 23 rfl) rfl rfl ?_
      refine sk_S.aald (dd DX7_boat 24 rfl) se_20 rfl (sk_ix_nI (k := boN g) (hR.bo.trans hG.b.1) hj (by decide)) (rf_fleet hj) ?_
      refine sk_S.iload_n (i := 1) (dd DX7_boat 25 rfl) rfl rfl ?_
      refine sk_S.callV (dd DX7_boat 26 rfl) rfl kX7_62 (cC_turnInto (se_bt hj)) (se_bt hj) (by decide) rfl rfl rfl rfl (Nat.le_of_ble_eq_true rfl) (fun r51 h51 q51 => ?_)
      obtain ⟨rfl, rfl⟩ := q51
      show sk_S _ _ _ _ 54 _ _ _ _
      refine sk_S.aload_n (i := 0) (dd DX7_boat 27 rfl) rfl rfl ?_
      refine sk_S.getr (dd DX7_boat 28 rfl) rfl fX7_12 se_0 (by decide) rfl ?_
      refine sk_S.getr (dd DX7_boat 29 rfl) rfl fX7_58 se_1 (by decide) rfl ?_
      refine sk_S.iload_n (i := 2) (dd DX7_boat 30 rfl) rfl rfl ?_
      refine sk_S.aald (dd DX7_boat 31 rfl) se_20 rfl (sk_ix_nI (k := boN g) (hR.bo.trans hG.b.1) hj (by decide)) (rf_fleet hj) ?_
      refine sk_S.iconst (v := 0) (dd DX7_boat 32 rfl) (by decide) ?_
      refine sk_S.putf (dd DX7_boat 33 rfl) rfl pX7_68 (se_bt hj) (by decide) rfl rfl rfl ?_
      refine sk_S.aload_n (i := 0) (dd DX7_boat 34 rfl) rfl rfl ?_
      refine sk_S.getr (dd DX7_boat 35 rfl) rfl fX7_12 se_0 (by decide) rfl ?_
      refine sk_S.dup (dd DX7_boat 36 rfl) rfl ?_
      refine sk_S.geti (dd DX7_boat 37 rfl) rfl fX7_53 se_1 (by decide) rfl ?_
      refine sk_S.iconst (v := 1) (dd DX7_boat 38 rfl) (by decide) ?_
      refine sk_S.iadd (dd DX7_boat 39 rfl) ?_
      refine sk_S.putf (dd DX7_boat 40 rfl) rfl pX7_53 se_1 (by decide) rfl rfl rfl ?_
      refine sk_S.iload_n (i := 2) (dd DX7_boat 41 rfl) rfl rfl ?_
      refine sk_S.iret (dd DX7_boat 42 rfl) rfl rfl ?_
      have e : boatF g v = ((upd (upd (upd (upd g 2 (g 2 + 1)) (17 + 3 * boN g) (v / 10)) (17 + 3 * boN g + 1) (v - v / 10 * 10)) (17 + 3 * boN g + 2) 0), nI (boN g)) := by
        unfold boatF
        rw [cif_t ((inN_lt (M := 70) (n := 70) (by decide)).mp c4), cif_f (by omega)]
      rw [e]
      refine ⟨(((sk_o.rf.u (ccl_bt hj)).u (ccl_bt hj)).u (ccl_bt hj)).u (by decide), ?_, by rw [hR.bo.trans hG.b.1]⟩
      have e2 := (((hR.u_b0 (x := v / 10) hj).u_bt (w := 1) (x := v - v / 10 * 10) hj (by decide)).u_bt (w := 2) (x := 0) hj (by decide)).u_q (p := 2) (x := g 2 + 1) (by decide)
      rw [upd_cm (a := 17 + 3 * boN g + 2) (by omega), upd_cm (a := 17 + 3 * boN g + 1) (by omega), upd_cm (a := 17 + 3 * boN g) (by omega)] at e2
      rw [← hR.bo] at e2
      have e3 : sk_u (sk_u (sk_u h (24 + boN g) 0 (v / 10)) (24 + boN g) 1 (v - v / 10 * 10)) (24 + boN g) 2 0 1 6 = h 1 6 := by
        rw [sk_u_at, if_neg (by omega), sk_u_at, if_neg (by omega), sk_u_at, if_neg (by omega)]
      rw [e3]
      rw [← hR.bo]
      exact e2
    · refine sk_S.aload_n (i := 0) (dd DX7_boat 12 rfl) rfl rfl ?_
      refine sk_S.ldc (dd DX7_boat 13 rfl) rfl cnX7_57 ?_
      refine sk_S.callV (dd DX7_boat 14 rfl) rfl kX7_49 (cC_refuse (k := 4) (by decide) (by decide) (by decide)) se_0 (by decide) rfl rfl rfl rfl (Nat.le_of_ble_eq_true rfl) (fun r29 h29 q29 => ?_)
      obtain ⟨rfl, rfl⟩ := q29
      show sk_S _ _ _ _ _ _ (.int _ :: _) _ _
      refine sk_S.iret (dd DX7_boat 15 rfl) rfl rfl ?_
      have h6 : boN g = 6 := by
        have := hG.b.2
        rw [hR.bo.trans hG.b.1] at c23
        have c : ¬ nI (boN g) < nI 6 := c23
        rw [nI_ltI (by omega) (by decide)] at c
        omega
      have e : boatF g v = (g, erI 4) := by
        unfold boatF
        rw [cif_t ((inN_lt (M := 70) (n := 70) (by decide)).mp c4), cif_t h6]
      rw [e]
      exact oC.er (j := 4) hR sk_o.rf
  · refine sk_S.aload_n (i := 0) (dd DX7_boat 3 rfl) rfl rfl ?_
    refine sk_S.ldc (dd DX7_boat 4 rfl) rfl cnX7_48 ?_
    refine sk_S.callV (dd DX7_boat 5 rfl) rfl kX7_49 (cC_refuse (k := 1) (by decide) (by decide) (by decide)) se_0 (by decide) rfl rfl rfl rfl (Nat.le_of_ble_eq_true rfl) (fun r10 h10 q10 => ?_)
    obtain ⟨rfl, rfl⟩ := q10
    show sk_S _ _ _ _ _ _ (.int _ :: _) _ _
    refine sk_S.iret (dd DX7_boat 6 rfl) rfl rfl ?_
    have e : boatF g v = (g, erI 1) := by
      unfold boatF
      rw [cif_f (fun z => (c4 ((inN_lt (M := 70) (n := 70) (by decide)).mpr z)))]
    rw [e]
    exact oC.er (j := 1) hR sk_o.rf
set_option maxRecDepth 100000 in
set_option maxHeartbeats 1000000 in
theorem cP_boatIs {l : Launch} {E : sk_V} {d : Nat} {h : sk_M} {b w : Int32} {g : Nat → Int32} (hR : RQ 1 18 h g) (hG : RG g) : sk_K l E (d + 6) MX7_boatIs [.ref 0, .int b, .int w] h (fun r h1 => oC h h1 (boatIsF g b w).1 (boatIsF g b w).2 r) := by
  refine sk_K.of (by decide +kernel) (Nat.le_of_ble_eq_true rfl) ?_
  show sk_S l E (d + 6) _ 0 [some (.ref 0), some (.int b), some (.int w), none, none] [] h _
  refine sk_S.aload_n (i := 0) (dd DX7_boatIs 0 rfl) rfl rfl ?_
  refine sk_S.iload_n (i := 1) (dd DX7_boatIs 1 rfl) rfl rfl ?_
  refine sk_S.callV (dd DX7_boatIs 2 rfl) rfl kX7_71 cC_isBoat se_0 (by decide) rfl rfl rfl rfl (Nat.le_of_ble_eq_true rfl) (fun r2 h2 q2 => ?_)
  obtain ⟨rfl, rfl⟩ := q2
  show sk_S _ _ _ _ _ _ (.int _ :: _) _ _
  refine sk_S.bif_eq (tgt := 17) (dd DX7_boatIs 3 rfl) (by decide) (fun c5 => ?_) (fun c5 => ?_)
  · refine sk_S.aload_n (i := 0) (dd DX7_boatIs 8 rfl) rfl rfl ?_
    refine sk_S.ldc (dd DX7_boatIs 9 rfl) rfl cnX7_48 ?_
    refine sk_S.callV (dd DX7_boatIs 10 rfl) rfl kX7_49 (cC_refuse (k := 1) (by decide) (by decide) (by decide)) se_0 (by decide) rfl rfl rfl rfl (Nat.le_of_ble_eq_true rfl) (fun r20 h20 q20 => ?_)
    obtain ⟨rfl, rfl⟩ := q20
    show sk_S _ _ _ _ _ _ (.int _ :: _) _ _
    refine sk_S.iret (dd DX7_boatIs 11 rfl) rfl rfl ?_
    have e : boatIsF g b w = (g, erI 1) := by
      unfold boatIsF
      rw [cif_f (fun z => (c5 ((isb hR hG).mpr z.1)))]
    rw [e]
    exact oC.er (j := 1) hR sk_o.rf
  · refine sk_S.iload_n (i := 2) (dd DX7_boatIs 4 rfl) rfl rfl ?_
    refine sk_S.bipush (v := 7) (dd DX7_boatIs 5 rfl) (by decide) ?_
    refine sk_S.callS (dd DX7_boatIs 6 rfl) rfl kX7_74 cC_isWithin rfl rfl rfl (Nat.le_of_ble_eq_true rfl) (fun r11 h11 q11 => ?_)
    obtain ⟨rfl, rfl⟩ := q11
    show sk_S _ _ _ _ _ _ (.int _ :: _) _ _
    refine sk_S.bif_ne (tgt := 24) (dd DX7_boatIs 7 rfl) (by decide) (fun c14 => ?_) (fun c14 => ?_)
    · obtain ⟨j, hjb, rfl⟩ := (isb hR hG).mp c5
      have hj : j < 6 := by have := hG.b.2; omega
      have hcl : cl (nI j) = j := clN (by omega)
      obtain ⟨i, hi, rfl⟩ := ((inN_le (M := 7) (n := 8) (by decide)).mp c14)
      have hcl2 : cl (nI i) = i := clN (by omega)
      refine sk_S.aload_n (i := 0) (dd DX7_boatIs 12 rfl) rfl rfl ?_
      refine sk_S.getr (dd DX7_boatIs 13 rfl) rfl fX7_12 se_0 (by decide) rfl ?_
      refine sk_S.getr (dd DX7_boatIs 14 rfl) rfl fX7_58 se_1 (by decide) rfl ?_
      refine sk_S.iload_n (i := 1) (dd DX7_boatIs 15 rfl) rfl rfl ?_
      refine sk_S.aald (dd DX7_boatIs 16 rfl) se_20 rfl (sk_ix_nI (k := j) rfl hj (by decide)) (rf_fleet hj) ?_
      refine sk_S.astore_n (i := 3) (dd DX7_boatIs 17 rfl) rfl (Nat.le_of_ble_eq_true rfl) rfl ?_
      refine sk_S.iload_n (i := 2) (dd DX7_boatIs 18 rfl) rfl rfl ?_
      refine sk_S.tabL (dd DX7_boatIs 19 rfl) rfl (by decide) (by decide) (by decide) (fun j35 hj35 e35 => ?_) (fun e35 => ?_)
      · rcases j35 with _ | _ | _ | _ | j35
        · show sk_S _ _ _ _ 64 _ _ _ _
          replace e35 : _ = (0 : Int32) := e35
          refine sk_S.aload_n (i := 3) (dd DX7_boatIs 20 rfl) rfl rfl ?_
          refine sk_S.geti (dd DX7_boatIs 21 rfl) rfl fX7_78 (se_bt hj) (by decide) rfl ?_
          refine sk_S.iret (dd DX7_boatIs 22 rfl) rfl rfl ?_
          have e : boatIsF g (nI j) (nI i) = (g, isV g j i) := by
            unfold boatIsF
            rw [cif_t ⟨⟨j, hjb, rfl⟩, ⟨i, hi, rfl⟩⟩, hcl, hcl2]
          rw [e]
          refine ⟨sk_o.rf, hR, ?_⟩
          have e3 : i = 0 := nI_inj (by omega) (by decide) e35
          subst e3
          rw [hR.b0 hj]
          rfl
        · show sk_S _ _ _ _ 69 _ _ _ _
          replace e35 : _ = (1 : Int32) := e35
          refine sk_S.aload_n (i := 3) (dd DX7_boatIs 23 rfl) rfl rfl ?_
          refine sk_S.geti (dd DX7_boatIs 24 rfl) rfl fX7_81 (se_bt hj) (by decide) rfl ?_
          refine sk_S.iret (dd DX7_boatIs 25 rfl) rfl rfl ?_
          have e : boatIsF g (nI j) (nI i) = (g, isV g j i) := by
            unfold boatIsF
            rw [cif_t ⟨⟨j, hjb, rfl⟩, ⟨i, hi, rfl⟩⟩, hcl, hcl2]
          rw [e]
          refine ⟨sk_o.rf, hR, ?_⟩
          have e3 : i = 1 := nI_inj (by omega) (by decide) e35
          subst e3
          rw [hR.b1 hj]
          rfl
        · show sk_S _ _ _ _ 74 _ _ _ _
          replace e35 : _ = (2 : Int32) := e35
          refine sk_S.aload_n (i := 3) (dd DX7_boatIs 26 rfl) rfl rfl ?_
          refine sk_S.geti (dd DX7_boatIs 27 rfl) rfl fX7_68 (se_bt hj) (by decide) rfl ?_
          refine sk_S.iret (dd DX7_boatIs 28 rfl) rfl rfl ?_
          have e : boatIsF g (nI j) (nI i) = (g, isV g j i) := by
            unfold boatIsF
            rw [cif_t ⟨⟨j, hjb, rfl⟩, ⟨i, hi, rfl⟩⟩, hcl, hcl2]
          rw [e]
          refine ⟨sk_o.rf, hR, ?_⟩
          have e3 : i = 2 := nI_inj (by omega) (by decide) e35
          subst e3
          rw [hR.b2 hj]
          rfl
        · show sk_S _ _ _ _ 79 _ _ _ _
          replace e35 : _ = (3 : Int32) := e35
          refine sk_S.aload_n (i := 3) (dd DX7_boatIs 29 rfl) rfl rfl ?_
          refine sk_S.aload_n (i := 0) (dd DX7_boatIs 30 rfl) rfl rfl ?_
          refine sk_S.getr (dd DX7_boatIs 31 rfl) rfl fX7_12 se_0 (by decide) rfl ?_
          refine sk_S.geti (dd DX7_boatIs 32 rfl) rfl fX7_84 se_1 (by decide) rfl ?_
          refine sk_S.callV (dd DX7_boatIs 33 rfl) rfl kX7_87 (cC_eats (se_bt hj)) (se_bt hj) (by decide) rfl rfl rfl rfl (Nat.le_of_ble_eq_true rfl) (fun r87 h87 q87 => ?_)
          obtain ⟨rfl, rfl⟩ := q87
          show sk_S _ _ _ _ _ _ (.int _ :: _) _ _
          refine sk_S.iret (dd DX7_boatIs 34 rfl) rfl rfl ?_
          have e : boatIsF g (nI j) (nI i) = (g, isV g j i) := by
            unfold boatIsF
            rw [cif_t ⟨⟨j, hjb, rfl⟩, ⟨i, hi, rfl⟩⟩, hcl, hcl2]
          rw [e]
          refine ⟨sk_o.rf, hR, ?_⟩
          have e3 : i = 3 := nI_inj (by omega) (by decide) e35
          subst e3
          rw [hR.b0 hj, hR.da]
          rfl
        · exact absurd hj35 (by simp)
      · show sk_S _ _ _ _ 91 _ _ _ _
        have e35_ := (⟨e35 0 (by decide), e35 1 (by decide), e35 2 (by decide), e35 3 (by decide)⟩ : ¬ _ = (0 : Int32) ∧ ¬ _ = (1 : Int32) ∧ ¬ _ = (2 : Int32) ∧ ¬ _ = (3 : Int32))
        have hi4 : 4 ≤ i := by
          obtain ⟨a0, a1, a2, a3⟩ := e35_
          have n0 : ¬ i = 0 := fun z => a0 (by rw [z]; rfl)
          have n1 : ¬ i = 1 := fun z => a1 (by rw [z]; rfl)
          have n2 : ¬ i = 2 := fun z => a2 (by rw [z]; rfl)
          have n3 : ¬ i = 3 := fun z => a3 (by rw [z]; rfl)
          omega
        refine sk_S.iload_n (i := 2) (dd DX7_boatIs 35 rfl) rfl rfl ?_
        refine sk_S.iconst (v := 4) (dd DX7_boatIs 36 rfl) (by decide) ?_
        refine sk_S.isub (dd DX7_boatIs 37 rfl) ?_
        refine sk_S.V (nI (i - 4)) (nI_sub (b := 4) hi4) ?_
        refine sk_S.istore (i := 4) (dd DX7_boatIs 38 rfl) (Nat.le_of_ble_eq_true rfl) rfl ?_
        refine sk_S.aload_n (i := 0) (dd DX7_boatIs 39 rfl) rfl rfl ?_
        refine sk_S.getr (dd DX7_boatIs 40 rfl) rfl fX7_12 se_0 (by decide) rfl ?_
        refine sk_S.iload_n (i := 1) (dd DX7_boatIs 41 rfl) rfl rfl ?_
        refine sk_S.iload (i := 4) (dd DX7_boatIs 42 rfl) rfl ?_
        refine sk_S.aload_n (i := 0) (dd DX7_boatIs 43 rfl) rfl rfl ?_
        refine sk_S.getr (dd DX7_boatIs 44 rfl) rfl fX7_12 se_0 (by decide) rfl ?_
        refine sk_S.getr (dd DX7_boatIs 45 rfl) rfl fX7_90 se_1 (by decide) rfl ?_
        refine sk_S.iload (i := 4) (dd DX7_boatIs 46 rfl) rfl ?_
        refine sk_S.iald (dd DX7_boatIs 47 rfl) se_18 (sk_ix_nI (k := i - 4) rfl (by omega) (by decide)) ?_
        refine sk_S.aload_n (i := 0) (dd DX7_boatIs 48 rfl) rfl rfl ?_
        refine sk_S.getr (dd DX7_boatIs 49 rfl) rfl fX7_12 se_0 (by decide) rfl ?_
        refine sk_S.geti (dd DX7_boatIs 50 rfl) rfl fX7_93 se_1 (by decide) rfl ?_
        refine sk_S.aload_n (i := 0) (dd DX7_boatIs 51 rfl) rfl rfl ?_
        refine sk_S.getr (dd DX7_boatIs 52 rfl) rfl fX7_12 se_0 (by decide) rfl ?_
        refine sk_S.geti (dd DX7_boatIs 53 rfl) rfl fX7_84 se_1 (by decide) rfl ?_
        refine sk_S.callV (dd DX7_boatIs 54 rfl) rfl kX7_96 (cQ_landed hj hR hG) se_1 (by decide) rfl rfl rfl rfl (Nat.le_of_ble_eq_true rfl) (fun r127 h127 q127 => ?_)
        obtain ⟨og, rfl⟩ := q127
        show sk_S _ _ _ _ _ _ (.int _ :: _) _ _
        refine sk_S.iret (dd DX7_boatIs 55 rfl) rfl rfl ?_
        have e : boatIsF g (nI j) (nI i) = (g, isV g j i) := by
          unfold boatIsF
          rw [cif_t ⟨⟨j, hjb, rfl⟩, ⟨i, hi, rfl⟩⟩, hcl, hcl2]
        rw [e]
        refine ⟨og.more (by decide), hR.o og (by decide), ?_⟩
        rw [hR.da, hR.wa, show h 18 (i - 4) = g (9 + (i - 4)) from hR.so (by omega)]
        unfold isV
        rw [if_neg (by omega), if_neg (by omega)]
    · refine sk_S.aload_n (i := 0) (dd DX7_boatIs 8 rfl) rfl rfl ?_
      refine sk_S.ldc (dd DX7_boatIs 9 rfl) rfl cnX7_48 ?_
      refine sk_S.callV (dd DX7_boatIs 10 rfl) rfl kX7_49 (cC_refuse (k := 1) (by decide) (by decide) (by decide)) se_0 (by decide) rfl rfl rfl rfl (Nat.le_of_ble_eq_true rfl) (fun r20 h20 q20 => ?_)
      obtain ⟨rfl, rfl⟩ := q20
      show sk_S _ _ _ _ _ _ (.int _ :: _) _ _
      refine sk_S.iret (dd DX7_boatIs 11 rfl) rfl rfl ?_
      have e : boatIsF g b w = (g, erI 1) := by
        unfold boatIsF
        rw [cif_f (fun z => (c14 ((inN_le (M := 7) (n := 8) (by decide)).mpr z.2)))]
      rw [e]
      exact oC.er (j := 1) hR sk_o.rf
set_option maxRecDepth 100000 in
set_option maxHeartbeats 1000000 in
theorem cP_sell {l : Launch} {E : sk_V} {d : Nat} {h : sk_M} {f n : Int32} {g : Nat → Int32} (hR : RQ 1 18 h g) (hG : RG g) : sk_K l E (d + 6) MX7_sell [.ref 0, .int f, .int n] h (fun r h1 => oC h h1 (sellF g f n).1 (sellF g f n).2 r) := by
  refine sk_K.of (by decide +kernel) (Nat.le_of_ble_eq_true rfl) ?_
  show sk_S l E (d + 6) _ 0 [some (.ref 0), some (.int f), some (.int n)] [] h _
  refine sk_S.iload_n (i := 1) (dd DX7_sell 0 rfl) rfl rfl ?_
  refine sk_S.callS (dd DX7_sell 1 rfl) rfl kX7_104 cC_isFish rfl rfl rfl (Nat.le_of_ble_eq_true rfl) (fun r1 h1 q1 => ?_)
  obtain ⟨rfl, rfl⟩ := q1
  show sk_S _ _ _ _ _ _ (.int _ :: _) _ _
  refine sk_S.bif_eq (tgt := 16) (dd DX7_sell 2 rfl) (by decide) (fun c4 => ?_) (fun c4 => ?_)
  · refine sk_S.aload_n (i := 0) (dd DX7_sell 7 rfl) rfl rfl ?_
    refine sk_S.ldc (dd DX7_sell 8 rfl) rfl cnX7_48 ?_
    refine sk_S.callV (dd DX7_sell 9 rfl) rfl kX7_49 (cC_refuse (k := 1) (by decide) (by decide) (by decide)) se_0 (by decide) rfl rfl rfl rfl (Nat.le_of_ble_eq_true rfl) (fun r19 h19 q19 => ?_)
    obtain ⟨rfl, rfl⟩ := q19
    show sk_S _ _ _ _ _ _ (.int _ :: _) _ _
    refine sk_S.iret (dd DX7_sell 10 rfl) rfl rfl ?_
    have e : sellF g f n = (g, erI 1) := by
      unfold sellF
      rw [cif_f (fun z => (c4 ((inN_lt (M := 4) (n := 4) (by decide)).mpr z.1)))]
    rw [e]
    exact oC.er (j := 1) hR sk_o.rf
  · refine sk_S.iload_n (i := 2) (dd DX7_sell 3 rfl) rfl rfl ?_
    refine sk_S.bipush (v := 99) (dd DX7_sell 4 rfl) (by decide) ?_
    refine sk_S.callS (dd DX7_sell 5 rfl) rfl kX7_74 cC_isWithin rfl rfl rfl (Nat.le_of_ble_eq_true rfl) (fun r10 h10 q10 => ?_)
    obtain ⟨rfl, rfl⟩ := q10
    show sk_S _ _ _ _ _ _ (.int _ :: _) _ _
    refine sk_S.bif_ne (tgt := 23) (dd DX7_sell 6 rfl) (by decide) (fun c13 => ?_) (fun c13 => ?_)
    · obtain ⟨j, hj, rfl⟩ := ((inN_lt (M := 4) (n := 4) (by decide)).mp c4)
      have hcl : cl (nI j) = j := clN (by omega)
      have hn := ((inN_le (M := 99) (n := 100) (by decide)).mp c13)
      refine sk_S.aload_n (i := 0) (dd DX7_sell 11 rfl) rfl rfl ?_
      refine sk_S.getr (dd DX7_sell 12 rfl) rfl fX7_12 se_0 (by decide) rfl ?_
      refine sk_S.getr (dd DX7_sell 13 rfl) rfl fX7_90 se_1 (by decide) rfl ?_
      refine sk_S.iload_n (i := 1) (dd DX7_sell 14 rfl) rfl rfl ?_
      refine sk_S.iald (dd DX7_sell 15 rfl) se_18 (sk_ix_nI (k := j) rfl hj (by decide)) ?_
      refine sk_S.iload_n (i := 2) (dd DX7_sell 16 rfl) rfl rfl ?_
      refine sk_S.iadd (dd DX7_sell 17 rfl) ?_
      refine sk_S.bipush (v := 99) (dd DX7_sell 18 rfl) (by decide) ?_
      refine sk_S.icmp_le (tgt := 46) (dd DX7_sell 19 rfl) (by decide) (fun c36 => ?_) (fun c36 => ?_)
      · refine sk_S.aload_n (i := 0) (dd DX7_sell 24 rfl) rfl rfl ?_
        refine sk_S.getr (dd DX7_sell 25 rfl) rfl fX7_12 se_0 (by decide) rfl ?_
        refine sk_S.iload_n (i := 1) (dd DX7_sell 26 rfl) rfl rfl ?_
        refine sk_S.iload_n (i := 2) (dd DX7_sell 27 rfl) rfl rfl ?_
        refine sk_S.callV (dd DX7_sell 28 rfl) rfl kX7_111 (cQ_promise hj hn hR hG) se_1 (by decide) rfl rfl rfl rfl (Nat.le_of_ble_eq_true rfl) (fun r52 h52 q52 => ?_)
        obtain ⟨og, hR2, rfl⟩ := q52
        show sk_S _ _ _ _ _ _ (.int _ :: _) _ _
        refine sk_S.iret (dd DX7_sell 29 rfl) rfl rfl ?_
        have e : sellF g (nI j) n = (sellR g j n, n * coinsG g j (g (9 + j))) := by
          unfold sellF
          rw [cif_t ⟨⟨j, hj, rfl⟩, hn⟩, hcl, cif_t (by rw [← hR.so hj]; exact c36)]
        rw [e]
        exact ⟨og.more (by decide), hR2, rfl⟩
      · refine sk_S.aload_n (i := 0) (dd DX7_sell 20 rfl) rfl rfl ?_
        refine sk_S.ldc (dd DX7_sell 21 rfl) rfl cnX7_110 ?_
        refine sk_S.callV (dd DX7_sell 22 rfl) rfl kX7_49 (cC_refuse (k := 3) (by decide) (by decide) (by decide)) se_0 (by decide) rfl rfl rfl rfl (Nat.le_of_ble_eq_true rfl) (fun r42 h42 q42 => ?_)
        obtain ⟨rfl, rfl⟩ := q42
        show sk_S _ _ _ _ _ _ (.int _ :: _) _ _
        refine sk_S.iret (dd DX7_sell 23 rfl) rfl rfl ?_
        have e : sellF g (nI j) n = (g, erI 3) := by
          unfold sellF
          rw [cif_t ⟨⟨j, hj, rfl⟩, hn⟩, hcl, cif_f (fun z => c36 (by rw [hR.so hj]; exact z))]
        rw [e]
        exact oC.er (j := 3) hR sk_o.rf
    · refine sk_S.aload_n (i := 0) (dd DX7_sell 7 rfl) rfl rfl ?_
      refine sk_S.ldc (dd DX7_sell 8 rfl) rfl cnX7_48 ?_
      refine sk_S.callV (dd DX7_sell 9 rfl) rfl kX7_49 (cC_refuse (k := 1) (by decide) (by decide) (by decide)) se_0 (by decide) rfl rfl rfl rfl (Nat.le_of_ble_eq_true rfl) (fun r19 h19 q19 => ?_)
      obtain ⟨rfl, rfl⟩ := q19
      show sk_S _ _ _ _ _ _ (.int _ :: _) _ _
      refine sk_S.iret (dd DX7_sell 10 rfl) rfl rfl ?_
      have e : sellF g f n = (g, erI 1) := by
        unfold sellF
        rw [cif_f (fun z => (c13 ((inN_le (M := 99) (n := 100) (by decide)).mpr z.2)))]
      rw [e]
      exact oC.er (j := 1) hR sk_o.rf
set_option maxRecDepth 100000 in
set_option maxHeartbeats 1000000 in
theorem cP_tally {l : Launch} {E : sk_V} {d : Nat} {h : sk_M}  {g : Nat → Int32} (hR : RQ 1 18 h g) (hG : RG g) : sk_K l E (d + 7) MX7_tally [.ref 0] h (fun r h1 => oC h h1 (tallyF g).1 (tallyF g).2 r) := by
  refine sk_K.of (by decide +kernel) (Nat.le_of_ble_eq_true rfl) ?_
  show sk_S l E (d + 7) _ 0 [some (.ref 0)] [] h _
  obtain ⟨dy, hdy, ed⟩ := hG.da
  refine sk_S.aload_n (i := 0) (dd DX7_tally 0 rfl) rfl rfl ?_
  refine sk_S.getr (dd DX7_tally 1 rfl) rfl fX7_12 se_0 (by decide) rfl ?_
  refine sk_S.geti (dd DX7_tally 2 rfl) rfl fX7_84 se_1 (by decide) rfl ?_
  refine sk_S.sipush (v := 9999) (dd DX7_tally 3 rfl) (by decide) ?_
  refine sk_S.icmp_lt (tgt := 20) (dd DX7_tally 4 rfl) (by decide) (fun c10 => ?_) (fun c10 => ?_)
  · refine sk_S.aload_n (i := 0) (dd DX7_tally 9 rfl) rfl rfl ?_
    refine sk_S.getr (dd DX7_tally 10 rfl) rfl fX7_12 se_0 (by decide) rfl ?_
    refine sk_S.callV (dd DX7_tally 11 rfl) rfl kX7_152 (cQ_settle hR hG) se_1 (by decide) rfl rfl rfl rfl (Nat.le_of_ble_eq_true rfl) (fun r24 h24 q24 => ?_)
    obtain ⟨og, hR2, rfl⟩ := q24
    show sk_S _ _ _ _ _ _ (.int _ :: _) _ _
    refine sk_S.iret (dd DX7_tally 12 rfl) rfl rfl ?_
    have e9 : ¬ g 0 = 9999 := fun z => by
      rw [hR.da, z] at c10
      exact absurd c10 (by decide)
    have e : tallyF g = (talR g, allF g 4) := by
      unfold tallyF
      rw [cif_f e9]
    rw [e]
    exact ⟨og.more (by decide), hR2, rfl⟩
  · refine sk_S.aload_n (i := 0) (dd DX7_tally 5 rfl) rfl rfl ?_
    refine sk_S.ldc (dd DX7_tally 6 rfl) rfl cnX7_110 ?_
    refine sk_S.callV (dd DX7_tally 7 rfl) rfl kX7_49 (cC_refuse (k := 3) (by decide) (by decide) (by decide)) se_0 (by decide) rfl rfl rfl rfl (Nat.le_of_ble_eq_true rfl) (fun r16 h16 q16 => ?_)
    obtain ⟨rfl, rfl⟩ := q16
    show sk_S _ _ _ _ _ _ (.int _ :: _) _ _
    refine sk_S.iret (dd DX7_tally 8 rfl) rfl rfl ?_
    have e9 : g 0 = 9999 := by
      rw [hR.da, ed] at c10
      have c : ¬ nI dy < nI 9999 := c10
      rw [nI_ltI (by omega) (by decide)] at c
      rw [ed, show dy = 9999 by omega]
      rfl
    have e : tallyF g = (g, erI 3) := by
      unfold tallyF
      rw [cif_t e9]
    rw [e]
    exact oC.er (j := 3) hR sk_o.rf
set_option maxRecDepth 100000 in
set_option maxHeartbeats 1000000 in
theorem lq_loose {l : Launch} {E : sk_V} {d : Nat} {h : sk_M} {g : Nat → Int32} {n : Nat} (hn : n ≤ 30) (hR : RQ 1 18 h g) (hG : RG g) {dy : Nat} (ed : g 0 = nI dy) (hd : dy + n ≤ 9999) : ∀ (m i : Nat) (k : sk_M), i + m = n → sk_o [1, 18, 34, 35] h k → RQ 1 18 k (looR g i) → sk_S l E (d + 8) MX7_loose 44 [some (.ref 0), some (.int (nI n)), some (.int (looA g i)), some (.int (nI i))] [] k (fun r h1 => sk_o [1, 18, 34, 35] h h1 ∧ RQ 1 18 h1 (looR g n) ∧ some (.int (looA g n)) = r)
  | 0, i, k, hi, ho, hK => by
    have e : i = n := by omega
    subst e
    refine sk_S.iload_n (i := 3) (dd DX7_loose 25 rfl) rfl rfl ?_
    refine sk_S.iload_n (i := 1) (dd DX7_loose 26 rfl) rfl rfl ?_
    refine sk_S.icmp_ge (tgt := 65) (dd DX7_loose 27 rfl) (by decide) (fun c46 => ?_) (fun c46 => absurd (Int32.le_refl _) c46)
    refine sk_S.iload_n (i := 2) (dd DX7_loose 36 rfl) rfl rfl ?_
    refine sk_S.iret (dd DX7_loose 37 rfl) rfl rfl ?_
    exact ⟨ho, hK, rfl⟩
  | m + 1, i, k, hi, ho, hK => by
    have hGi := (looR_G hG i dy ed (by omega)).1
    refine sk_S.iload_n (i := 3) (dd DX7_loose 25 rfl) rfl rfl ?_
    refine sk_S.iload_n (i := 1) (dd DX7_loose 26 rfl) rfl rfl ?_
    refine sk_S.icmp_ge (tgt := 65) (dd DX7_loose 27 rfl) (by decide) (fun c46 => absurd c46 (by exact nI_ge (by omega) (by omega))) (fun c46 => ?_)
    refine sk_S.iload_n (i := 2) (dd DX7_loose 28 rfl) rfl rfl ?_
    refine sk_S.aload_n (i := 0) (dd DX7_loose 29 rfl) rfl rfl ?_
    refine sk_S.getr (dd DX7_loose 30 rfl) rfl fX7_12 se_0 (by decide) rfl ?_
    refine sk_S.callV (dd DX7_loose 31 rfl) rfl kX7_156 (cQ_dayByDraws hK hGi) se_1 (by decide) rfl rfl rfl rfl (Nat.le_of_ble_eq_true rfl) (fun r54 h54 q54 => ?_)
    obtain ⟨og, hR2, rfl⟩ := q54
    show sk_S _ _ _ _ _ _ (.int _ :: _) _ _
    refine sk_S.iadd (dd DX7_loose 32 rfl) ?_
    refine sk_S.istore_n (i := 2) (dd DX7_loose 33 rfl) rfl (Nat.le_of_ble_eq_true rfl) rfl ?_
    refine sk_S.iinc (i := 3) (v := _ + 1) (dd DX7_loose 34 rfl) rfl rfl rfl ?_
    refine sk_S.goto (tgt := 44) (dd DX7_loose 35 rfl) (by decide) ?_
    exact sk_S.L (lq_loose hn hR hG ed hd m (i + 1) _ (by omega) (ho.tr og) hR2) (by rw [nI_succ]; rfl)
set_option maxRecDepth 100000 in
set_option maxHeartbeats 1000000 in
theorem cP_loose {l : Launch} {E : sk_V} {d : Nat} {h : sk_M} {x : Int32} {g : Nat → Int32} (hR : RQ 1 18 h g) (hG : RG g) : sk_K l E (d + 8) MX7_loose [.ref 0, .int x] h (fun r h1 => oC h h1 (looseF g x).1 (looseF g x).2 r) := by
  refine sk_K.of (by decide +kernel) (Nat.le_of_ble_eq_true rfl) ?_
  show sk_S l E (d + 8) _ 0 [some (.ref 0), some (.int x), none, none] [] h _
  refine sk_S.iload_n (i := 1) (dd DX7_loose 0 rfl) rfl rfl ?_
  refine sk_S.iconst (v := 1) (dd DX7_loose 1 rfl) (by decide) ?_
  refine sk_S.icmp_lt (tgt := 11) (dd DX7_loose 2 rfl) (by decide) (fun c2 => ?_) (fun c2 => ?_)
  · refine sk_S.aload_n (i := 0) (dd DX7_loose 6 rfl) rfl rfl ?_
    refine sk_S.ldc (dd DX7_loose 7 rfl) rfl cnX7_48 ?_
    refine sk_S.callV (dd DX7_loose 8 rfl) rfl kX7_49 (cC_refuse (k := 1) (by decide) (by decide) (by decide)) se_0 (by decide) rfl rfl rfl rfl (Nat.le_of_ble_eq_true rfl) (fun r14 h14 q14 => ?_)
    obtain ⟨rfl, rfl⟩ := q14
    show sk_S _ _ _ _ _ _ (.int _ :: _) _ _
    refine sk_S.iret (dd DX7_loose 9 rfl) rfl rfl ?_
    have e : looseF g x = (g, erI 1) := by
      unfold looseF
      rw [cif_f (fun z => absurd z.1 (Int32.not_le.mpr c2))]
    rw [e]
    exact oC.er (j := 1) hR sk_o.rf
  · refine sk_S.iload_n (i := 1) (dd DX7_loose 3 rfl) rfl rfl ?_
    refine sk_S.bipush (v := 30) (dd DX7_loose 4 rfl) (by decide) ?_
    refine sk_S.icmp_le (tgt := 18) (dd DX7_loose 5 rfl) (by decide) (fun c8 => ?_) (fun c8 => ?_)
    · have hx : 1 ≤ x ∧ x ≤ 30 := ⟨Int32.not_lt.mp c2, c8⟩
      obtain ⟨n, h1n, hn, rfl⟩ := rg30 hx
      obtain ⟨dy, hdy, ed⟩ := hG.da
      have hcl : cl (nI n) = n := clN (by omega)
      refine sk_S.aload_n (i := 0) (dd DX7_loose 10 rfl) rfl rfl ?_
      refine sk_S.getr (dd DX7_loose 11 rfl) rfl fX7_12 se_0 (by decide) rfl ?_
      refine sk_S.geti (dd DX7_loose 12 rfl) rfl fX7_84 se_1 (by decide) rfl ?_
      refine sk_S.iload_n (i := 1) (dd DX7_loose 13 rfl) rfl rfl ?_
      refine sk_S.iadd (dd DX7_loose 14 rfl) ?_
      refine sk_S.sipush (v := 9999) (dd DX7_loose 15 rfl) (by decide) ?_
      refine sk_S.icmp_le (tgt := 40) (dd DX7_loose 16 rfl) (by decide) (fun c30 => ?_) (fun c30 => ?_)
      · refine sk_S.iconst (v := 0) (dd DX7_loose 21 rfl) (by decide) ?_
        refine sk_S.istore_n (i := 2) (dd DX7_loose 22 rfl) rfl (Nat.le_of_ble_eq_true rfl) rfl ?_
        refine sk_S.iconst (v := 0) (dd DX7_loose 23 rfl) (by decide) ?_
        refine sk_S.istore_n (i := 3) (dd DX7_loose 24 rfl) rfl (Nat.le_of_ble_eq_true rfl) rfl ?_
        have hd : dy + n ≤ 9999 := by
          rw [hR.da, ed, nI_add] at c30
          have c : nI (dy + n) ≤ nI 9999 := c30
          rwa [nI_leI (by omega) (by decide)] at c
        refine sk_S.mono (lq_loose hn hR hG ed hd n 0 h (Nat.zero_add _) sk_o.rf hR) (fun r h1 z => ?_)
        have e : looseF g (nI n) = (looR g n, looA g n) := by
          unfold looseF
          rw [cif_t hx, cif_t (by rw [← hR.da]; exact c30), hcl]
        rw [e]
        exact ⟨z.1.more (by decide), z.2.1, z.2.2⟩
      · refine sk_S.aload_n (i := 0) (dd DX7_loose 17 rfl) rfl rfl ?_
        refine sk_S.ldc (dd DX7_loose 18 rfl) rfl cnX7_110 ?_
        refine sk_S.callV (dd DX7_loose 19 rfl) rfl kX7_49 (cC_refuse (k := 3) (by decide) (by decide) (by decide)) se_0 (by decide) rfl rfl rfl rfl (Nat.le_of_ble_eq_true rfl) (fun r36 h36 q36 => ?_)
        obtain ⟨rfl, rfl⟩ := q36
        show sk_S _ _ _ _ _ _ (.int _ :: _) _ _
        refine sk_S.iret (dd DX7_loose 20 rfl) rfl rfl ?_
        have e : looseF g (nI n) = (g, erI 3) := by
          unfold looseF
          rw [cif_t hx, cif_f (fun z => c30 (by rw [hR.da]; exact z))]
        rw [e]
        exact oC.er (j := 3) hR sk_o.rf
    · refine sk_S.aload_n (i := 0) (dd DX7_loose 6 rfl) rfl rfl ?_
      refine sk_S.ldc (dd DX7_loose 7 rfl) rfl cnX7_48 ?_
      refine sk_S.callV (dd DX7_loose 8 rfl) rfl kX7_49 (cC_refuse (k := 1) (by decide) (by decide) (by decide)) se_0 (by decide) rfl rfl rfl rfl (Nat.le_of_ble_eq_true rfl) (fun r14 h14 q14 => ?_)
      obtain ⟨rfl, rfl⟩ := q14
      show sk_S _ _ _ _ _ _ (.int _ :: _) _ _
      refine sk_S.iret (dd DX7_loose 9 rfl) rfl rfl ?_
      have e : looseF g x = (g, erI 1) := by
        unfold looseF
        rw [cif_f (fun z => c8 z.2)]
      rw [e]
      exact oC.er (j := 1) hR sk_o.rf
set_option maxRecDepth 100000 in
set_option maxHeartbeats 1000000 in
theorem cP_catches {l : Launch} {E : sk_V} {d : Nat} {h : sk_M} {f : Int32} {g : Nat → Int32} (hR : RQ 1 18 h g) (hG : RG g) : sk_K l E (d + 7) MX7_catches [.ref 0, .int f] h (fun r h1 => oC h h1 (catchesF g f).1 (catchesF g f).2 r) := by
  refine sk_K.of (by decide +kernel) (Nat.le_of_ble_eq_true rfl) ?_
  show sk_S l E (d + 7) _ 0 [some (.ref 0), some (.int f)] [] h _
  refine sk_S.iload_n (i := 1) (dd DX7_catches 0 rfl) rfl rfl ?_
  refine sk_S.callS (dd DX7_catches 1 rfl) rfl kX7_104 cC_isFish rfl rfl rfl (Nat.le_of_ble_eq_true rfl) (fun r1 h1 q1 => ?_)
  obtain ⟨rfl, rfl⟩ := q1
  show sk_S _ _ _ _ _ _ (.int _ :: _) _ _
  refine sk_S.bif_ne (tgt := 14) (dd DX7_catches 2 rfl) (by decide) (fun c4 => ?_) (fun c4 => ?_)
  · obtain ⟨j, hj, rfl⟩ := ((inN_lt (M := 4) (n := 4) (by decide)).mp c4)
    have hcl : cl (nI j) = j := clN (by omega)
    refine sk_S.aload_n (i := 0) (dd DX7_catches 7 rfl) rfl rfl ?_
    refine sk_S.getr (dd DX7_catches 8 rfl) rfl fX7_12 se_0 (by decide) rfl ?_
    refine sk_S.iload_n (i := 1) (dd DX7_catches 9 rfl) rfl rfl ?_
    refine sk_S.callV (dd DX7_catches 10 rfl) rfl kX7_162 (cQ_caughtNow hj hR hG) se_1 (by decide) rfl rfl rfl rfl (Nat.le_of_ble_eq_true rfl) (fun r19 h19 q19 => ?_)
    obtain ⟨og, rfl⟩ := q19
    show sk_S _ _ _ _ _ _ (.int _ :: _) _ _
    refine sk_S.iret (dd DX7_catches 11 rfl) rfl rfl ?_
    have e : catchesF g (nI j) = (g, catchG g (nI j) (g (9 + j)) (g 3) (g 0)) := by
      unfold catchesF
      rw [cif_t ⟨j, hj, rfl⟩, hcl]
    rw [e]
    exact ⟨og.more (by decide), hR.o og (by decide), rfl⟩
  · refine sk_S.aload_n (i := 0) (dd DX7_catches 3 rfl) rfl rfl ?_
    refine sk_S.ldc (dd DX7_catches 4 rfl) rfl cnX7_48 ?_
    refine sk_S.callV (dd DX7_catches 5 rfl) rfl kX7_49 (cC_refuse (k := 1) (by decide) (by decide) (by decide)) se_0 (by decide) rfl rfl rfl rfl (Nat.le_of_ble_eq_true rfl) (fun r10 h10 q10 => ?_)
    obtain ⟨rfl, rfl⟩ := q10
    show sk_S _ _ _ _ _ _ (.int _ :: _) _ _
    refine sk_S.iret (dd DX7_catches 6 rfl) rfl rfl ?_
    have e : catchesF g f = (g, erI 1) := by
      unfold catchesF
      rw [cif_f (fun z => (c4 ((inN_lt (M := 4) (n := 4) (by decide)).mpr z)))]
    rw [e]
    exact oC.er (j := 1) hR sk_o.rf
set_option maxRecDepth 100000 in
set_option maxHeartbeats 1000000 in
theorem cP_safe {l : Launch} {E : sk_V} {d : Nat} {h : sk_M} {f : Int32} {g : Nat → Int32} (hR : RQ 1 18 h g) (hG : RG g) : sk_K l E (d + 8) MX7_safe [.ref 0, .int f] h (fun r h1 => oC h h1 (safeF g f).1 (safeF g f).2 r) := by
  refine sk_K.of (by decide +kernel) (Nat.le_of_ble_eq_true rfl) ?_
  show sk_S l E (d + 8) _ 0 [some (.ref 0), some (.int f)] [] h _
  refine sk_S.iload_n (i := 1) (dd DX7_safe 0 rfl) rfl rfl ?_
  refine sk_S.callS (dd DX7_safe 1 rfl) rfl kX7_104 cC_isFish rfl rfl rfl (Nat.le_of_ble_eq_true rfl) (fun r1 h1 q1 => ?_)
  obtain ⟨rfl, rfl⟩ := q1
  show sk_S _ _ _ _ _ _ (.int _ :: _) _ _
  refine sk_S.bif_ne (tgt := 14) (dd DX7_safe 2 rfl) (by decide) (fun c4 => ?_) (fun c4 => ?_)
  · refine sk_S.aload_n (i := 0) (dd DX7_safe 7 rfl) rfl rfl ?_
    refine sk_S.getr (dd DX7_safe 8 rfl) rfl fX7_12 se_0 (by decide) rfl ?_
    refine sk_S.iload_n (i := 1) (dd DX7_safe 9 rfl) rfl rfl ?_
    refine sk_S.callS (dd DX7_safe 10 rfl) rfl kX7_165 (cT_safest hR hG) rfl rfl rfl (Nat.le_of_ble_eq_true rfl) (fun r19 h19 q19 => ?_)
    obtain ⟨og, rfl⟩ := q19
    show sk_S _ _ _ _ _ _ (.int _ :: _) _ _
    refine sk_S.iret (dd DX7_safe 11 rfl) rfl rfl ?_
    have e : safeF g f = (g, nI (safeN g f 99)) := by
      unfold safeF
      rw [cif_t ((inN_lt (M := 4) (n := 4) (by decide)).mp c4)]
    rw [e]
    exact ⟨og.more (by decide), hR.o og (by decide), rfl⟩
  · refine sk_S.aload_n (i := 0) (dd DX7_safe 3 rfl) rfl rfl ?_
    refine sk_S.ldc (dd DX7_safe 4 rfl) rfl cnX7_48 ?_
    refine sk_S.callV (dd DX7_safe 5 rfl) rfl kX7_49 (cC_refuse (k := 1) (by decide) (by decide) (by decide)) se_0 (by decide) rfl rfl rfl rfl (Nat.le_of_ble_eq_true rfl) (fun r10 h10 q10 => ?_)
    obtain ⟨rfl, rfl⟩ := q10
    show sk_S _ _ _ _ _ _ (.int _ :: _) _ _
    refine sk_S.iret (dd DX7_safe 6 rfl) rfl rfl ?_
    have e : safeF g f = (g, erI 1) := by
      unfold safeF
      rw [cif_f (fun z => (c4 ((inN_lt (M := 4) (n := 4) (by decide)).mpr z)))]
    rw [e]
    exact oC.er (j := 1) hR sk_o.rf
set_option maxRecDepth 100000 in
set_option maxHeartbeats 1000000 in
theorem cP_best {l : Launch} {E : sk_V} {d : Nat} {h : sk_M} {f w : Int32} {g : Nat → Int32} (hR : RQ 1 18 h g) (hG : RG g) : sk_K l E (d + 8) MX7_best [.ref 0, .int f, .int w] h (fun r h1 => oC h h1 (bestF g f w).1 (bestF g f w).2 r) := by
  refine sk_K.of (by decide +kernel) (Nat.le_of_ble_eq_true rfl) ?_
  show sk_S l E (d + 8) _ 0 [some (.ref 0), some (.int f), some (.int w), none] [] h _
  refine sk_S.iload_n (i := 1) (dd DX7_best 0 rfl) rfl rfl ?_
  refine sk_S.callS (dd DX7_best 1 rfl) rfl kX7_104 cC_isFish rfl rfl rfl (Nat.le_of_ble_eq_true rfl) (fun r1 h1 q1 => ?_)
  obtain ⟨rfl, rfl⟩ := q1
  show sk_S _ _ _ _ _ _ (.int _ :: _) _ _
  refine sk_S.bif_eq (tgt := 15) (dd DX7_best 2 rfl) (by decide) (fun c4 => ?_) (fun c4 => ?_)
  · refine sk_S.aload_n (i := 0) (dd DX7_best 7 rfl) rfl rfl ?_
    refine sk_S.ldc (dd DX7_best 8 rfl) rfl cnX7_48 ?_
    refine sk_S.callV (dd DX7_best 9 rfl) rfl kX7_49 (cC_refuse (k := 1) (by decide) (by decide) (by decide)) se_0 (by decide) rfl rfl rfl rfl (Nat.le_of_ble_eq_true rfl) (fun r18 h18 q18 => ?_)
    obtain ⟨rfl, rfl⟩ := q18
    show sk_S _ _ _ _ _ _ (.int _ :: _) _ _
    refine sk_S.iret (dd DX7_best 10 rfl) rfl rfl ?_
    have e : bestF g f w = (g, erI 1) := by
      unfold bestF
      rw [cif_f (fun z => (c4 ((inN_lt (M := 4) (n := 4) (by decide)).mpr z.1)))]
    rw [e]
    exact oC.er (j := 1) hR sk_o.rf
  · refine sk_S.iload_n (i := 2) (dd DX7_best 3 rfl) rfl rfl ?_
    refine sk_S.iconst (v := 1) (dd DX7_best 4 rfl) (by decide) ?_
    refine sk_S.callS (dd DX7_best 5 rfl) rfl kX7_74 cC_isWithin rfl rfl rfl (Nat.le_of_ble_eq_true rfl) (fun r9 h9 q9 => ?_)
    obtain ⟨rfl, rfl⟩ := q9
    show sk_S _ _ _ _ _ _ (.int _ :: _) _ _
    refine sk_S.bif_ne (tgt := 22) (dd DX7_best 6 rfl) (by decide) (fun c12 => ?_) (fun c12 => ?_)
    · obtain ⟨j, hj, rfl⟩ := ((inN_lt (M := 4) (n := 4) (by decide)).mp c4)
      have hcl : cl (nI j) = j := clN (by omega)
      refine sk_S.aload_n (i := 0) (dd DX7_best 11 rfl) rfl rfl ?_
      refine sk_S.getr (dd DX7_best 12 rfl) rfl fX7_12 se_0 (by decide) rfl ?_
      refine sk_S.iload_n (i := 1) (dd DX7_best 13 rfl) rfl rfl ?_
      refine sk_S.callS (dd DX7_best 14 rfl) rfl kX7_171 (cT_best hj hR hG) rfl rfl rfl (Nat.le_of_ble_eq_true rfl) (fun r27 h27 q27 => ?_)
      obtain ⟨og, rfl⟩ := q27
      show sk_S _ _ _ _ _ _ (.int _ :: _) _ _
      refine sk_S.istore_n (i := 3) (dd DX7_best 15 rfl) rfl (Nat.le_of_ble_eq_true rfl) rfl ?_
      refine sk_S.iload_n (i := 2) (dd DX7_best 16 rfl) rfl rfl ?_
      refine sk_S.if_ne (tgt := 39) (dd DX7_best 17 rfl) (by decide) (fun c32 => ?_) (fun c32 => ?_)
      · obtain ⟨n, hn, eb⟩ := bst_gain (g := g) (j := j) 100 (by decide)
        have hR2 : RQ 1 18 h27 g := hR.o og (by decide)
        refine sk_S.aload_n (i := 0) (dd DX7_best 20 rfl) rfl rfl ?_
        refine sk_S.getr (dd DX7_best 21 rfl) rfl fX7_12 se_0 (by decide) rfl ?_
        refine sk_S.iload_n (i := 1) (dd DX7_best 22 rfl) rfl rfl ?_
        refine sk_S.iload_n (i := 3) (dd DX7_best 23 rfl) rfl rfl ?_
        refine sk_S.V (nI n) (by rw [eb]) ?_
        refine sk_S.callS (dd DX7_best 24 rfl) rfl kX7_174 (cT_gain hj hR2 hG) rfl rfl rfl (Nat.le_of_ble_eq_true rfl) (fun r45 h45 q45 => ?_)
        obtain ⟨og2, rfl⟩ := q45
        show sk_S _ _ _ _ _ _ (.int _ :: _) _ _
        refine sk_S.iret (dd DX7_best 25 rfl) rfl rfl ?_
        have e : bestF g (nI j) w = (g, (if w = 0 then (bstG g j 100).1 else (bstG g j 100).2)) := by
          unfold bestF
          rw [cif_t ⟨⟨j, hj, rfl⟩, ((inN_le (M := 1) (n := 2) (by decide)).mp c12)⟩, hcl]
        rw [e]
        rw [if_neg c32, eb]
        exact ⟨(og.tr og2).more (by decide), hR2.o og2 (by decide), rfl⟩
      · refine sk_S.iload_n (i := 3) (dd DX7_best 18 rfl) rfl rfl ?_
        refine sk_S.goto (tgt := 48) (dd DX7_best 19 rfl) (by decide) ?_
        refine sk_S.iret (dd DX7_best 25 rfl) rfl rfl ?_
        have e : bestF g (nI j) w = (g, (if w = 0 then (bstG g j 100).1 else (bstG g j 100).2)) := by
          unfold bestF
          rw [cif_t ⟨⟨j, hj, rfl⟩, ((inN_le (M := 1) (n := 2) (by decide)).mp c12)⟩, hcl]
        rw [e]
        rw [if_pos c32]
        exact ⟨og.more (by decide), hR.o og (by decide), rfl⟩
    · refine sk_S.aload_n (i := 0) (dd DX7_best 7 rfl) rfl rfl ?_
      refine sk_S.ldc (dd DX7_best 8 rfl) rfl cnX7_48 ?_
      refine sk_S.callV (dd DX7_best 9 rfl) rfl kX7_49 (cC_refuse (k := 1) (by decide) (by decide) (by decide)) se_0 (by decide) rfl rfl rfl rfl (Nat.le_of_ble_eq_true rfl) (fun r18 h18 q18 => ?_)
      obtain ⟨rfl, rfl⟩ := q18
      show sk_S _ _ _ _ _ _ (.int _ :: _) _ _
      refine sk_S.iret (dd DX7_best 10 rfl) rfl rfl ?_
      have e : bestF g f w = (g, erI 1) := by
        unfold bestF
        rw [cif_f (fun z => (c12 ((inN_le (M := 1) (n := 2) (by decide)).mpr z.2)))]
      rw [e]
      exact oC.er (j := 1) hR sk_o.rf
set_option maxRecDepth 100000 in
set_option maxHeartbeats 1000000 in
theorem cP_agrees {l : Launch} {E : sk_V} {d : Nat} {h : sk_M} {f w : Int32} {g : Nat → Int32} (hR : RQ 1 18 h g) (hG : RG g) : sk_K l E (d + 8) MX7_agrees [.ref 0, .int f, .int w] h (fun r h1 => oC h h1 (agreesF g f w).1 (agreesF g f w).2 r) := by
  refine sk_K.of (by decide +kernel) (Nat.le_of_ble_eq_true rfl) ?_
  show sk_S l E (d + 8) _ 0 [some (.ref 0), some (.int f), some (.int w), none] [] h _
  refine sk_S.iload_n (i := 1) (dd DX7_agrees 0 rfl) rfl rfl ?_
  refine sk_S.callS (dd DX7_agrees 1 rfl) rfl kX7_104 cC_isFish rfl rfl rfl (Nat.le_of_ble_eq_true rfl) (fun r1 h1 q1 => ?_)
  obtain ⟨rfl, rfl⟩ := q1
  show sk_S _ _ _ _ _ _ (.int _ :: _) _ _
  refine sk_S.bif_eq (tgt := 15) (dd DX7_agrees 2 rfl) (by decide) (fun c4 => ?_) (fun c4 => ?_)
  · refine sk_S.aload_n (i := 0) (dd DX7_agrees 7 rfl) rfl rfl ?_
    refine sk_S.ldc (dd DX7_agrees 8 rfl) rfl cnX7_48 ?_
    refine sk_S.callV (dd DX7_agrees 9 rfl) rfl kX7_49 (cC_refuse (k := 1) (by decide) (by decide) (by decide)) se_0 (by decide) rfl rfl rfl rfl (Nat.le_of_ble_eq_true rfl) (fun r18 h18 q18 => ?_)
    obtain ⟨rfl, rfl⟩ := q18
    show sk_S _ _ _ _ _ _ (.int _ :: _) _ _
    refine sk_S.iret (dd DX7_agrees 10 rfl) rfl rfl ?_
    have e : agreesF g f w = (g, erI 1) := by
      unfold agreesF
      rw [cif_f (fun z => (c4 ((inN_lt (M := 4) (n := 4) (by decide)).mpr z.1)))]
    rw [e]
    exact oC.er (j := 1) hR sk_o.rf
  · refine sk_S.iload_n (i := 2) (dd DX7_agrees 3 rfl) rfl rfl ?_
    refine sk_S.iconst (v := 1) (dd DX7_agrees 4 rfl) (by decide) ?_
    refine sk_S.callS (dd DX7_agrees 5 rfl) rfl kX7_74 cC_isWithin rfl rfl rfl (Nat.le_of_ble_eq_true rfl) (fun r9 h9 q9 => ?_)
    obtain ⟨rfl, rfl⟩ := q9
    show sk_S _ _ _ _ _ _ (.int _ :: _) _ _
    refine sk_S.bif_ne (tgt := 22) (dd DX7_agrees 6 rfl) (by decide) (fun c12 => ?_) (fun c12 => ?_)
    · refine sk_S.iload_n (i := 2) (dd DX7_agrees 11 rfl) rfl rfl ?_
      refine sk_S.if_ne (tgt := 35) (dd DX7_agrees 12 rfl) (by decide) (fun c23 => ?_) (fun c23 => ?_)
      · refine sk_S.aload_n (i := 0) (dd DX7_agrees 18 rfl) rfl rfl ?_
        refine sk_S.getr (dd DX7_agrees 19 rfl) rfl fX7_12 se_0 (by decide) rfl ?_
        refine sk_S.iload_n (i := 1) (dd DX7_agrees 20 rfl) rfl rfl ?_
        refine sk_S.callS (dd DX7_agrees 21 rfl) rfl kX7_181 (cT_leastA hR hG) rfl rfl rfl (Nat.le_of_ble_eq_true rfl) (fun r40 h40 q40 => ?_)
        obtain ⟨og, rfl⟩ := q40
        show sk_S _ _ _ _ _ _ (.int _ :: _) _ _
        refine sk_S.istore_n (i := 3) (dd DX7_agrees 22 rfl) rfl (Nat.le_of_ble_eq_true rfl) rfl ?_
        refine sk_S.iload_n (i := 3) (dd DX7_agrees 23 rfl) rfl rfl ?_
        refine sk_S.if_ge (tgt := 57) (dd DX7_agrees 24 rfl) (by decide) (fun c45 => ?_) (fun c45 => ?_)
        · refine sk_S.iload_n (i := 3) (dd DX7_agrees 29 rfl) rfl rfl ?_
          refine sk_S.iret (dd DX7_agrees 30 rfl) rfl rfl ?_
          have e : agreesF g f w = (g, (if w = 0 then nI (cntD (agP g f) 100) else if 0 ≤ lstN (agP g f) 100 then lstN (agP g f) 100 else erI 2)) := by
            unfold agreesF
            rw [cif_t ⟨((inN_lt (M := 4) (n := 4) (by decide)).mp c4), ((inN_le (M := 1) (n := 2) (by decide)).mp c12)⟩]
          rw [e]
          rw [if_neg c23, if_pos c45]
          exact ⟨og.more (by decide), hR.o og (by decide), rfl⟩
        · refine sk_S.aload_n (i := 0) (dd DX7_agrees 25 rfl) rfl rfl ?_
          refine sk_S.ldc (dd DX7_agrees 26 rfl) rfl cnX7_184 ?_
          refine sk_S.callV (dd DX7_agrees 27 rfl) rfl kX7_49 (cC_refuse (k := 2) (by decide) (by decide) (by decide)) se_0 (by decide) rfl rfl rfl rfl (Nat.le_of_ble_eq_true rfl) (fun r51 h51 q51 => ?_)
          obtain ⟨rfl, rfl⟩ := q51
          show sk_S _ _ _ _ _ _ (.int _ :: _) _ _
          refine sk_S.goto (tgt := 58) (dd DX7_agrees 28 rfl) (by decide) ?_
          refine sk_S.iret (dd DX7_agrees 30 rfl) rfl rfl ?_
          have e : agreesF g f w = (g, (if w = 0 then nI (cntD (agP g f) 100) else if 0 ≤ lstN (agP g f) 100 then lstN (agP g f) 100 else erI 2)) := by
            unfold agreesF
            rw [cif_t ⟨((inN_lt (M := 4) (n := 4) (by decide)).mp c4), ((inN_le (M := 1) (n := 2) (by decide)).mp c12)⟩]
          rw [e]
          rw [if_neg c23, if_neg c45]
          exact oC.er (j := 2) hR og
      · refine sk_S.aload_n (i := 0) (dd DX7_agrees 13 rfl) rfl rfl ?_
        refine sk_S.getr (dd DX7_agrees 14 rfl) rfl fX7_12 se_0 (by decide) rfl ?_
        refine sk_S.iload_n (i := 1) (dd DX7_agrees 15 rfl) rfl rfl ?_
        refine sk_S.callS (dd DX7_agrees 16 rfl) rfl kX7_178 (cT_howMany hR hG) rfl rfl rfl (Nat.le_of_ble_eq_true rfl) (fun r31 h31 q31 => ?_)
        obtain ⟨og, rfl⟩ := q31
        show sk_S _ _ _ _ _ _ (.int _ :: _) _ _
        refine sk_S.iret (dd DX7_agrees 17 rfl) rfl rfl ?_
        have e : agreesF g f w = (g, (if w = 0 then nI (cntD (agP g f) 100) else if 0 ≤ lstN (agP g f) 100 then lstN (agP g f) 100 else erI 2)) := by
          unfold agreesF
          rw [cif_t ⟨((inN_lt (M := 4) (n := 4) (by decide)).mp c4), ((inN_le (M := 1) (n := 2) (by decide)).mp c12)⟩]
        rw [e]
        rw [if_pos c23]
        exact ⟨og.more (by decide), hR.o og (by decide), rfl⟩
    · refine sk_S.aload_n (i := 0) (dd DX7_agrees 7 rfl) rfl rfl ?_
      refine sk_S.ldc (dd DX7_agrees 8 rfl) rfl cnX7_48 ?_
      refine sk_S.callV (dd DX7_agrees 9 rfl) rfl kX7_49 (cC_refuse (k := 1) (by decide) (by decide) (by decide)) se_0 (by decide) rfl rfl rfl rfl (Nat.le_of_ble_eq_true rfl) (fun r18 h18 q18 => ?_)
      obtain ⟨rfl, rfl⟩ := q18
      show sk_S _ _ _ _ _ _ (.int _ :: _) _ _
      refine sk_S.iret (dd DX7_agrees 10 rfl) rfl rfl ?_
      have e : agreesF g f w = (g, erI 1) := by
        unfold agreesF
        rw [cif_f (fun z => (c12 ((inN_le (M := 1) (n := 2) (by decide)).mpr z.2)))]
      rw [e]
      exact oC.er (j := 1) hR sk_o.rf
set_option maxRecDepth 100000 in
set_option maxHeartbeats 1000000 in
theorem cP_needs {l : Launch} {E : sk_V} {d : Nat} {h : sk_M} {w : Int32} {g : Nat → Int32} (hR : RQ 1 18 h g) (hG : RG g) : sk_K l E (d + 8) MX7_needs [.ref 0, .int w] h (fun r h1 => oC h h1 (needsF g w).1 (needsF g w).2 r) := by
  refine sk_K.of (by decide +kernel) (Nat.le_of_ble_eq_true rfl) ?_
  show sk_S l E (d + 8) _ 0 [some (.ref 0), some (.int w), none] [] h _
  refine sk_S.iload_n (i := 1) (dd DX7_needs 0 rfl) rfl rfl ?_
  refine sk_S.iconst (v := 1) (dd DX7_needs 1 rfl) (by decide) ?_
  refine sk_S.callS (dd DX7_needs 2 rfl) rfl kX7_74 cC_isWithin rfl rfl rfl (Nat.le_of_ble_eq_true rfl) (fun r2 h2 q2 => ?_)
  obtain ⟨rfl, rfl⟩ := q2
  show sk_S _ _ _ _ _ _ (.int _ :: _) _ _
  refine sk_S.bif_ne (tgt := 15) (dd DX7_needs 3 rfl) (by decide) (fun c5 => ?_) (fun c5 => ?_)
  · refine sk_S.aload_n (i := 0) (dd DX7_needs 8 rfl) rfl rfl ?_
    refine sk_S.getr (dd DX7_needs 9 rfl) rfl fX7_12 se_0 (by decide) rfl ?_
    refine sk_S.callS (dd DX7_needs 10 rfl) rfl kX7_185 (cT_fewest hR hG) rfl rfl rfl (Nat.le_of_ble_eq_true rfl) (fun r19 h19 q19 => ?_)
    obtain ⟨og, rfl⟩ := q19
    show sk_S _ _ _ _ _ _ (.int _ :: _) _ _
    refine sk_S.istore_n (i := 2) (dd DX7_needs 11 rfl) rfl (Nat.le_of_ble_eq_true rfl) rfl ?_
    have hN := ndN_le (g := g) (X := lndX g) (2 ^ boN g)
    have hP2 := pow_nb hG.b.2
    refine sk_S.iload_n (i := 2) (dd DX7_needs 12 rfl) rfl rfl ?_
    refine sk_S.if_ge (tgt := 34) (dd DX7_needs 13 rfl) (by decide) (fun c24 => ?_) (fun c24 => ?_)
    · have h64 : ¬ (ndN g (lndX g) (2 ^ boN g)) = 64 := fun q => by
        rw [ndI_neg q] at c24
        exact absurd c24 (by decide)
      refine sk_S.iload_n (i := 1) (dd DX7_needs 18 rfl) rfl rfl ?_
      refine sk_S.if_ne (tgt := 45) (dd DX7_needs 19 rfl) (by decide) (fun c35 => ?_) (fun c35 => ?_)
      · refine sk_S.iload_n (i := 2) (dd DX7_needs 23 rfl) rfl rfl ?_
        refine sk_S.iret (dd DX7_needs 24 rfl) rfl rfl ?_
        have e : needsF g w = (g, (if (ndN g (lndX g) (2 ^ boN g)) = 64 then erI 2 else if w = 0 then nI (pcN (ndN g (lndX g) (2 ^ boN g))) else nI (ndN g (lndX g) (2 ^ boN g)))) := by
          unfold needsF
          rw [cif_t ((inN_le (M := 1) (n := 2) (by decide)).mp c5)]
        rw [e]
        rw [if_neg h64, if_neg c35, ndI_pos h64]
        exact ⟨og.more (by decide), hR.o og (by decide), rfl⟩
      · refine sk_S.iload_n (i := 2) (dd DX7_needs 20 rfl) rfl rfl ?_
        refine sk_S.V (nI (ndN g (lndX g) (2 ^ boN g))) (ndI_pos h64) ?_
        refine sk_S.callS (dd DX7_needs 21 rfl) rfl kX7_189 (cJ_bitCount (by omega)) rfl rfl rfl (Nat.le_of_ble_eq_true rfl) (fun r39 h39 q39 => ?_)
        obtain ⟨rfl, rfl⟩ := q39
        show sk_S _ _ _ _ _ _ (.int _ :: _) _ _
        refine sk_S.goto (tgt := 46) (dd DX7_needs 22 rfl) (by decide) ?_
        refine sk_S.iret (dd DX7_needs 24 rfl) rfl rfl ?_
        have e : needsF g w = (g, (if (ndN g (lndX g) (2 ^ boN g)) = 64 then erI 2 else if w = 0 then nI (pcN (ndN g (lndX g) (2 ^ boN g))) else nI (ndN g (lndX g) (2 ^ boN g)))) := by
          unfold needsF
          rw [cif_t ((inN_le (M := 1) (n := 2) (by decide)).mp c5)]
        rw [e]
        rw [if_neg h64, if_pos c35]
        exact ⟨og.more (by decide), hR.o og (by decide), rfl⟩
    · refine sk_S.aload_n (i := 0) (dd DX7_needs 14 rfl) rfl rfl ?_
      refine sk_S.ldc (dd DX7_needs 15 rfl) rfl cnX7_184 ?_
      refine sk_S.callV (dd DX7_needs 16 rfl) rfl kX7_49 (cC_refuse (k := 2) (by decide) (by decide) (by decide)) se_0 (by decide) rfl rfl rfl rfl (Nat.le_of_ble_eq_true rfl) (fun r30 h30 q30 => ?_)
      obtain ⟨rfl, rfl⟩ := q30
      show sk_S _ _ _ _ _ _ (.int _ :: _) _ _
      refine sk_S.iret (dd DX7_needs 17 rfl) rfl rfl ?_
      have h64 : (ndN g (lndX g) (2 ^ boN g)) = 64 := by
        apply Decidable.byContradiction
        intro q
        rw [ndI_pos q] at c24
        exact c24 (nI_pos' (by have := pow_nb hG.b.2; omega))
      have e : needsF g w = (g, (if (ndN g (lndX g) (2 ^ boN g)) = 64 then erI 2 else if w = 0 then nI (pcN (ndN g (lndX g) (2 ^ boN g))) else nI (ndN g (lndX g) (2 ^ boN g)))) := by
        unfold needsF
        rw [cif_t ((inN_le (M := 1) (n := 2) (by decide)).mp c5)]
      rw [e]
      rw [if_pos h64]
      exact oC.er (j := 2) hR og
  · refine sk_S.aload_n (i := 0) (dd DX7_needs 4 rfl) rfl rfl ?_
    refine sk_S.ldc (dd DX7_needs 5 rfl) rfl cnX7_48 ?_
    refine sk_S.callV (dd DX7_needs 6 rfl) rfl kX7_49 (cC_refuse (k := 1) (by decide) (by decide) (by decide)) se_0 (by decide) rfl rfl rfl rfl (Nat.le_of_ble_eq_true rfl) (fun r11 h11 q11 => ?_)
    obtain ⟨rfl, rfl⟩ := q11
    show sk_S _ _ _ _ _ _ (.int _ :: _) _ _
    refine sk_S.iret (dd DX7_needs 7 rfl) rfl rfl ?_
    have e : needsF g w = (g, erI 1) := by
      unfold needsF
      rw [cif_f (fun z => (c5 ((inN_le (M := 1) (n := 2) (by decide)).mpr z)))]
    rw [e]
    exact oC.er (j := 1) hR sk_o.rf
set_option maxRecDepth 100000 in
set_option maxHeartbeats 1000000 in
theorem cP_soonest {l : Launch} {E : sk_V} {d : Nat} {h : sk_M} {f n : Int32} {g : Nat → Int32} (hR : RQ 1 18 h g) (hG : RG g) : sk_K l E (d + 8) MX7_soonest [.ref 0, .int f, .int n] h (fun r h1 => oC h h1 (soonestF g f n).1 (soonestF g f n).2 r) := by
  refine sk_K.of (by decide +kernel) (Nat.le_of_ble_eq_true rfl) ?_
  show sk_S l E (d + 8) _ 0 [some (.ref 0), some (.int f), some (.int n), none] [] h _
  have ed : g 0 = nI (cl (g 0)) := by
    obtain ⟨dy, hdy, e⟩ := hG.da
    rw [e, clN (by omega)]
  refine sk_S.iload_n (i := 1) (dd DX7_soonest 0 rfl) rfl rfl ?_
  refine sk_S.callS (dd DX7_soonest 1 rfl) rfl kX7_104 cC_isFish rfl rfl rfl (Nat.le_of_ble_eq_true rfl) (fun r1 h1 q1 => ?_)
  obtain ⟨rfl, rfl⟩ := q1
  show sk_S _ _ _ _ _ _ (.int _ :: _) _ _
  refine sk_S.bif_eq (tgt := 16) (dd DX7_soonest 2 rfl) (by decide) (fun c4 => ?_) (fun c4 => ?_)
  · refine sk_S.aload_n (i := 0) (dd DX7_soonest 7 rfl) rfl rfl ?_
    refine sk_S.ldc (dd DX7_soonest 8 rfl) rfl cnX7_48 ?_
    refine sk_S.callV (dd DX7_soonest 9 rfl) rfl kX7_49 (cC_refuse (k := 1) (by decide) (by decide) (by decide)) se_0 (by decide) rfl rfl rfl rfl (Nat.le_of_ble_eq_true rfl) (fun r19 h19 q19 => ?_)
    obtain ⟨rfl, rfl⟩ := q19
    show sk_S _ _ _ _ _ _ (.int _ :: _) _ _
    refine sk_S.iret (dd DX7_soonest 10 rfl) rfl rfl ?_
    have e : soonestF g f n = (g, erI 1) := by
      unfold soonestF
      rw [cif_f (fun z => (c4 ((inN_lt (M := 4) (n := 4) (by decide)).mpr z.1)))]
    rw [e]
    exact oC.er (j := 1) hR sk_o.rf
  · refine sk_S.iload_n (i := 2) (dd DX7_soonest 3 rfl) rfl rfl ?_
    refine sk_S.bipush (v := 99) (dd DX7_soonest 4 rfl) (by decide) ?_
    refine sk_S.callS (dd DX7_soonest 5 rfl) rfl kX7_74 cC_isWithin rfl rfl rfl (Nat.le_of_ble_eq_true rfl) (fun r10 h10 q10 => ?_)
    obtain ⟨rfl, rfl⟩ := q10
    show sk_S _ _ _ _ _ _ (.int _ :: _) _ _
    refine sk_S.bif_ne (tgt := 23) (dd DX7_soonest 6 rfl) (by decide) (fun c13 => ?_) (fun c13 => ?_)
    · refine sk_S.aload_n (i := 0) (dd DX7_soonest 11 rfl) rfl rfl ?_
      refine sk_S.getr (dd DX7_soonest 12 rfl) rfl fX7_12 se_0 (by decide) rfl ?_
      refine sk_S.iload_n (i := 1) (dd DX7_soonest 13 rfl) rfl rfl ?_
      refine sk_S.iload_n (i := 2) (dd DX7_soonest 14 rfl) rfl rfl ?_
      refine sk_S.callS (dd DX7_soonest 15 rfl) rfl kX7_194 (cT_days ed hR hG) rfl rfl rfl (Nat.le_of_ble_eq_true rfl) (fun r29 h29 q29 => ?_)
      obtain ⟨og, rfl⟩ := q29
      show sk_S _ _ _ _ _ _ (.int _ :: _) _ _
      refine sk_S.istore_n (i := 3) (dd DX7_soonest 16 rfl) rfl (Nat.le_of_ble_eq_true rfl) rfl ?_
      refine sk_S.iload_n (i := 3) (dd DX7_soonest 17 rfl) rfl rfl ?_
      refine sk_S.if_ge (tgt := 46) (dd DX7_soonest 18 rfl) (by decide) (fun c34 => ?_) (fun c34 => ?_)
      · refine sk_S.iload_n (i := 3) (dd DX7_soonest 23 rfl) rfl rfl ?_
        refine sk_S.iret (dd DX7_soonest 24 rfl) rfl rfl ?_
        have h61 : ¬ (soF (soP g f n (cl (g 0))) 61 0) = 61 := fun q => by
          rw [if_pos q] at c34
          exact absurd c34 (by decide)
        have e : soonestF g f n = (g, (if (soF (soP g f n (cl (g 0))) 61 0) = 61 then erI 2 else nI (soF (soP g f n (cl (g 0))) 61 0))) := by
          unfold soonestF
          rw [cif_t ⟨((inN_lt (M := 4) (n := 4) (by decide)).mp c4), ((inN_le (M := 99) (n := 100) (by decide)).mp c13)⟩]
        rw [e]
        simp only [if_neg h61]
        exact ⟨og.more (by decide), hR.o og (by decide), rfl⟩
      · refine sk_S.aload_n (i := 0) (dd DX7_soonest 19 rfl) rfl rfl ?_
        refine sk_S.ldc (dd DX7_soonest 20 rfl) rfl cnX7_184 ?_
        refine sk_S.callV (dd DX7_soonest 21 rfl) rfl kX7_49 (cC_refuse (k := 2) (by decide) (by decide) (by decide)) se_0 (by decide) rfl rfl rfl rfl (Nat.le_of_ble_eq_true rfl) (fun r40 h40 q40 => ?_)
        obtain ⟨rfl, rfl⟩ := q40
        show sk_S _ _ _ _ _ _ (.int _ :: _) _ _
        refine sk_S.goto (tgt := 47) (dd DX7_soonest 22 rfl) (by decide) ?_
        refine sk_S.iret (dd DX7_soonest 24 rfl) rfl rfl ?_
        have h61 : (soF (soP g f n (cl (g 0))) 61 0) = 61 := by
          apply Decidable.byContradiction
          intro q
          rw [if_neg q] at c34
          exact c34 (nI_pos' (by have := soF_le (soP g f n (cl (g 0))) 61 0; omega))
        have e : soonestF g f n = (g, (if (soF (soP g f n (cl (g 0))) 61 0) = 61 then erI 2 else nI (soF (soP g f n (cl (g 0))) 61 0))) := by
          unfold soonestF
          rw [cif_t ⟨((inN_lt (M := 4) (n := 4) (by decide)).mp c4), ((inN_le (M := 99) (n := 100) (by decide)).mp c13)⟩]
        rw [e]
        rw [if_pos h61]
        exact oC.er (j := 2) hR og
    · refine sk_S.aload_n (i := 0) (dd DX7_soonest 7 rfl) rfl rfl ?_
      refine sk_S.ldc (dd DX7_soonest 8 rfl) rfl cnX7_48 ?_
      refine sk_S.callV (dd DX7_soonest 9 rfl) rfl kX7_49 (cC_refuse (k := 1) (by decide) (by decide) (by decide)) se_0 (by decide) rfl rfl rfl rfl (Nat.le_of_ble_eq_true rfl) (fun r19 h19 q19 => ?_)
      obtain ⟨rfl, rfl⟩ := q19
      show sk_S _ _ _ _ _ _ (.int _ :: _) _ _
      refine sk_S.iret (dd DX7_soonest 10 rfl) rfl rfl ?_
      have e : soonestF g f n = (g, erI 1) := by
        unfold soonestF
        rw [cif_f (fun z => (c13 ((inN_le (M := 99) (n := 100) (by decide)).mpr z.2)))]
      rw [e]
      exact oC.er (j := 1) hR sk_o.rf
set_option maxRecDepth 100000 in
set_option maxHeartbeats 1000000 in
theorem cP_odds {l : Launch} {E : sk_V} {d : Nat} {h : sk_M} {f n p : Int32} {g : Nat → Int32} (hR : RQ 1 18 h g) (hG : RG g) : sk_K l E (d + 8) MX7_odds [.ref 0, .int f, .int n, .int p] h (fun r h1 => oC h h1 (oddsF g f n p).1 (oddsF g f n p).2 r) := by
  refine sk_K.of (by decide +kernel) (Nat.le_of_ble_eq_true rfl) ?_
  show sk_S l E (d + 8) _ 0 [some (.ref 0), some (.int f), some (.int n), some (.int p)] [] h _
  refine sk_S.iload_n (i := 1) (dd DX7_odds 0 rfl) rfl rfl ?_
  refine sk_S.callS (dd DX7_odds 1 rfl) rfl kX7_104 cC_isFish rfl rfl rfl (Nat.le_of_ble_eq_true rfl) (fun r1 h1 q1 => ?_)
  obtain ⟨rfl, rfl⟩ := q1
  show sk_S _ _ _ _ _ _ (.int _ :: _) _ _
  refine sk_S.bif_eq (tgt := 24) (dd DX7_odds 2 rfl) (by decide) (fun c4 => ?_) (fun c4 => ?_)
  · refine sk_S.aload_n (i := 0) (dd DX7_odds 11 rfl) rfl rfl ?_
    refine sk_S.ldc (dd DX7_odds 12 rfl) rfl cnX7_48 ?_
    refine sk_S.callV (dd DX7_odds 13 rfl) rfl kX7_49 (cC_refuse (k := 1) (by decide) (by decide) (by decide)) se_0 (by decide) rfl rfl rfl rfl (Nat.le_of_ble_eq_true rfl) (fun r27 h27 q27 => ?_)
    obtain ⟨rfl, rfl⟩ := q27
    show sk_S _ _ _ _ _ _ (.int _ :: _) _ _
    refine sk_S.iret (dd DX7_odds 14 rfl) rfl rfl ?_
    have e : oddsF g f n p = (g, erI 1) := by
      unfold oddsF
      rw [cif_f (fun z => (c4 ((inN_lt (M := 4) (n := 4) (by decide)).mpr z.1)))]
    rw [e]
    exact oC.er (j := 1) hR sk_o.rf
  · refine sk_S.iload_n (i := 2) (dd DX7_odds 3 rfl) rfl rfl ?_
    refine sk_S.bipush (v := 99) (dd DX7_odds 4 rfl) (by decide) ?_
    refine sk_S.callS (dd DX7_odds 5 rfl) rfl kX7_74 cC_isWithin rfl rfl rfl (Nat.le_of_ble_eq_true rfl) (fun r10 h10 q10 => ?_)
    obtain ⟨rfl, rfl⟩ := q10
    show sk_S _ _ _ _ _ _ (.int _ :: _) _ _
    refine sk_S.bif_eq (tgt := 24) (dd DX7_odds 6 rfl) (by decide) (fun c13 => ?_) (fun c13 => ?_)
    · refine sk_S.aload_n (i := 0) (dd DX7_odds 11 rfl) rfl rfl ?_
      refine sk_S.ldc (dd DX7_odds 12 rfl) rfl cnX7_48 ?_
      refine sk_S.callV (dd DX7_odds 13 rfl) rfl kX7_49 (cC_refuse (k := 1) (by decide) (by decide) (by decide)) se_0 (by decide) rfl rfl rfl rfl (Nat.le_of_ble_eq_true rfl) (fun r27 h27 q27 => ?_)
      obtain ⟨rfl, rfl⟩ := q27
      show sk_S _ _ _ _ _ _ (.int _ :: _) _ _
      refine sk_S.iret (dd DX7_odds 14 rfl) rfl rfl ?_
      have e : oddsF g f n p = (g, erI 1) := by
        unfold oddsF
        rw [cif_f (fun z => (c13 ((inN_le (M := 99) (n := 100) (by decide)).mpr z.2.1)))]
      rw [e]
      exact oC.er (j := 1) hR sk_o.rf
    · refine sk_S.iload_n (i := 3) (dd DX7_odds 7 rfl) rfl rfl ?_
      refine sk_S.iconst (v := 1) (dd DX7_odds 8 rfl) (by decide) ?_
      refine sk_S.callS (dd DX7_odds 9 rfl) rfl kX7_74 cC_isWithin rfl rfl rfl (Nat.le_of_ble_eq_true rfl) (fun r18 h18 q18 => ?_)
      obtain ⟨rfl, rfl⟩ := q18
      show sk_S _ _ _ _ _ _ (.int _ :: _) _ _
      refine sk_S.bif_ne (tgt := 31) (dd DX7_odds 10 rfl) (by decide) (fun c21 => ?_) (fun c21 => ?_)
      · refine sk_S.aload_n (i := 0) (dd DX7_odds 15 rfl) rfl rfl ?_
        refine sk_S.getr (dd DX7_odds 16 rfl) rfl fX7_12 se_0 (by decide) rfl ?_
        refine sk_S.iload_n (i := 1) (dd DX7_odds 17 rfl) rfl rfl ?_
        refine sk_S.iload_n (i := 2) (dd DX7_odds 18 rfl) rfl rfl ?_
        refine sk_S.callS (dd DX7_odds 19 rfl) rfl kX7_197 (cT_seasDo hR hG) rfl rfl rfl (Nat.le_of_ble_eq_true rfl) (fun r37 h37 q37 => ?_)
        obtain ⟨og, rfl⟩ := q37
        show sk_S _ _ _ _ _ _ (.int _ :: _) _ _
        have hc := cntN_le (enP g f n) 10
        refine sk_S.iload_n (i := 3) (dd DX7_odds 20 rfl) rfl rfl ?_
        refine sk_S.callS (dd DX7_odds 21 rfl) rfl kX7_200 (cT_part (by omega)) rfl rfl rfl (Nat.le_of_ble_eq_true rfl) (fun r41 h41 q41 => ?_)
        obtain ⟨rfl, rfl⟩ := q41
        show sk_S _ _ _ _ _ _ (.int _ :: _) _ _
        refine sk_S.iret (dd DX7_odds 22 rfl) rfl rfl ?_
        have e : oddsF g f n p = (g, if p = 0 then nI ((cntN (enP g f n) 10) / Nat.gcd (cntN (enP g f n) 10) 10) else nI (10 / Nat.gcd (cntN (enP g f n) 10) 10)) := by
          unfold oddsF
          rw [cif_t ⟨((inN_lt (M := 4) (n := 4) (by decide)).mp c4), ((inN_le (M := 99) (n := 100) (by decide)).mp c13), ((inN_le (M := 1) (n := 2) (by decide)).mp c21)⟩]
        rw [e]
        exact ⟨og.more (by decide), hR.o og (by decide), rfl⟩
      · refine sk_S.aload_n (i := 0) (dd DX7_odds 11 rfl) rfl rfl ?_
        refine sk_S.ldc (dd DX7_odds 12 rfl) rfl cnX7_48 ?_
        refine sk_S.callV (dd DX7_odds 13 rfl) rfl kX7_49 (cC_refuse (k := 1) (by decide) (by decide) (by decide)) se_0 (by decide) rfl rfl rfl rfl (Nat.le_of_ble_eq_true rfl) (fun r27 h27 q27 => ?_)
        obtain ⟨rfl, rfl⟩ := q27
        show sk_S _ _ _ _ _ _ (.int _ :: _) _ _
        refine sk_S.iret (dd DX7_odds 14 rfl) rfl rfl ?_
        have e : oddsF g f n p = (g, erI 1) := by
          unfold oddsF
          rw [cif_f (fun z => (c21 ((inN_le (M := 1) (n := 2) (by decide)).mpr z.2.2)))]
        rw [e]
        exact oC.er (j := 1) hR sk_o.rf
set_option maxRecDepth 100000 in
set_option maxHeartbeats 1000000 in
theorem cP_mean {l : Launch} {E : sk_V} {d : Nat} {h : sk_M} {f p : Int32} {g : Nat → Int32} (hR : RQ 1 18 h g) (hG : RG g) : sk_K l E (d + 8) MX7_mean [.ref 0, .int f, .int p] h (fun r h1 => oC h h1 (meanF g f p).1 (meanF g f p).2 r) := by
  refine sk_K.of (by decide +kernel) (Nat.le_of_ble_eq_true rfl) ?_
  show sk_S l E (d + 8) _ 0 [some (.ref 0), some (.int f), some (.int p)] [] h _
  refine sk_S.iload_n (i := 1) (dd DX7_mean 0 rfl) rfl rfl ?_
  refine sk_S.callS (dd DX7_mean 1 rfl) rfl kX7_104 cC_isFish rfl rfl rfl (Nat.le_of_ble_eq_true rfl) (fun r1 h1 q1 => ?_)
  obtain ⟨rfl, rfl⟩ := q1
  show sk_S _ _ _ _ _ _ (.int _ :: _) _ _
  refine sk_S.bif_eq (tgt := 15) (dd DX7_mean 2 rfl) (by decide) (fun c4 => ?_) (fun c4 => ?_)
  · refine sk_S.aload_n (i := 0) (dd DX7_mean 7 rfl) rfl rfl ?_
    refine sk_S.ldc (dd DX7_mean 8 rfl) rfl cnX7_48 ?_
    refine sk_S.callV (dd DX7_mean 9 rfl) rfl kX7_49 (cC_refuse (k := 1) (by decide) (by decide) (by decide)) se_0 (by decide) rfl rfl rfl rfl (Nat.le_of_ble_eq_true rfl) (fun r18 h18 q18 => ?_)
    obtain ⟨rfl, rfl⟩ := q18
    show sk_S _ _ _ _ _ _ (.int _ :: _) _ _
    refine sk_S.iret (dd DX7_mean 10 rfl) rfl rfl ?_
    have e : meanF g f p = (g, erI 1) := by
      unfold meanF
      rw [cif_f (fun z => (c4 ((inN_lt (M := 4) (n := 4) (by decide)).mpr z.1)))]
    rw [e]
    exact oC.er (j := 1) hR sk_o.rf
  · refine sk_S.iload_n (i := 2) (dd DX7_mean 3 rfl) rfl rfl ?_
    refine sk_S.iconst (v := 1) (dd DX7_mean 4 rfl) (by decide) ?_
    refine sk_S.callS (dd DX7_mean 5 rfl) rfl kX7_74 cC_isWithin rfl rfl rfl (Nat.le_of_ble_eq_true rfl) (fun r9 h9 q9 => ?_)
    obtain ⟨rfl, rfl⟩ := q9
    show sk_S _ _ _ _ _ _ (.int _ :: _) _ _
    refine sk_S.bif_ne (tgt := 22) (dd DX7_mean 6 rfl) (by decide) (fun c12 => ?_) (fun c12 => ?_)
    · obtain ⟨j, hj, rfl⟩ := ((inN_lt (M := 4) (n := 4) (by decide)).mp c4)
      have hcl : cl (nI j) = j := clN (by omega)
      have hm := meanN_e hG.b j
      refine sk_S.aload_n (i := 0) (dd DX7_mean 11 rfl) rfl rfl ?_
      refine sk_S.getr (dd DX7_mean 12 rfl) rfl fX7_12 se_0 (by decide) rfl ?_
      refine sk_S.iload_n (i := 1) (dd DX7_mean 13 rfl) rfl rfl ?_
      refine sk_S.callS (dd DX7_mean 14 rfl) rfl kX7_203 (cT_allSeas hj hR hG) rfl rfl rfl (Nat.le_of_ble_eq_true rfl) (fun r27 h27 q27 => ?_)
      obtain ⟨og, rfl⟩ := q27
      show sk_S _ _ _ _ _ _ (.int _ :: _) _ _
      refine sk_S.V (nI (meanN g j)) hm.1 ?_
      refine sk_S.iload_n (i := 2) (dd DX7_mean 15 rfl) rfl rfl ?_
      refine sk_S.callS (dd DX7_mean 16 rfl) rfl kX7_200 (cT_part (by have := hm.2; omega)) rfl rfl rfl (Nat.le_of_ble_eq_true rfl) (fun r31 h31 q31 => ?_)
      obtain ⟨rfl, rfl⟩ := q31
      show sk_S _ _ _ _ _ _ (.int _ :: _) _ _
      refine sk_S.iret (dd DX7_mean 17 rfl) rfl rfl ?_
      have e : meanF g (nI j) p = (g, if p = 0 then nI ((meanN g j) / Nat.gcd (meanN g j) 10) else nI (10 / Nat.gcd (meanN g j) 10)) := by
        unfold meanF
        rw [cif_t ⟨⟨j, hj, rfl⟩, ((inN_le (M := 1) (n := 2) (by decide)).mp c12)⟩, hcl]
      rw [e]
      exact ⟨og.more (by decide), hR.o og (by decide), rfl⟩
    · refine sk_S.aload_n (i := 0) (dd DX7_mean 7 rfl) rfl rfl ?_
      refine sk_S.ldc (dd DX7_mean 8 rfl) rfl cnX7_48 ?_
      refine sk_S.callV (dd DX7_mean 9 rfl) rfl kX7_49 (cC_refuse (k := 1) (by decide) (by decide) (by decide)) se_0 (by decide) rfl rfl rfl rfl (Nat.le_of_ble_eq_true rfl) (fun r18 h18 q18 => ?_)
      obtain ⟨rfl, rfl⟩ := q18
      show sk_S _ _ _ _ _ _ (.int _ :: _) _ _
      refine sk_S.iret (dd DX7_mean 10 rfl) rfl rfl ?_
      have e : meanF g f p = (g, erI 1) := by
        unfold meanF
        rw [cif_f (fun z => (c12 ((inN_le (M := 1) (n := 2) (by decide)).mpr z.2)))]
      rw [e]
      exact oC.er (j := 1) hR sk_o.rf
end C11
