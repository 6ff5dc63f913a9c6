section C4
set_option maxRecDepth 100000 in
set_option maxHeartbeats 1000000 in
theorem lq_isSafe {l : Launch} {E : sk_V} {d : Nat} {h : sk_M} {g : Nat → Int32} {f n : Int32} (hR : RQ 1 18 h g) (hG : RG g) : ∀ (m j : Nat) (k : sk_M), j + m = 10 → (∀ w, w < j → enP g f n w = true) → sk_o [34, 35] h k → sk_S l E (d + 6) MX5_isSafe 2 [some (.ref 1), some (.int f), some (.int n), some (.int (nI j))] [] k (fun r h1 => sk_o [34, 35] h h1 ∧ some (.int (bi (cntN (enP g f n) 10 = 10))) = r)
  | 0, j, k, hj, ha, ho => by
    have e : j = 10 := by omega
    subst e
    refine sk_S.iload_n (i := 3) (dd DX5_isSafe 2 rfl) rfl rfl ?_
    refine sk_S.bipush (v := 10) (dd DX5_isSafe 3 rfl) (by decide) ?_
    refine sk_S.icmp_ge (tgt := 31) (dd DX5_isSafe 4 rfl) (by decide) (fun c5 => ?_) (fun c5 => absurd (by decide) c5)
    refine sk_S.iconst (v := 1) (dd DX5_isSafe 18 rfl) (by decide) ?_
    refine sk_S.iret (dd DX5_isSafe 19 rfl) rfl rfl ?_
    refine ⟨ho, ?_⟩
    rw [bi_t (cntN_all 10 ha)]
  | m + 1, j, k, hj, ha, ho => by
    have hR1 : RQ 1 18 k g := hR.o ho (by decide)
    
    refine sk_S.iload_n (i := 3) (dd DX5_isSafe 2 rfl) rfl rfl ?_
    refine sk_S.bipush (v := 10) (dd DX5_isSafe 3 rfl) (by decide) ?_
    refine sk_S.icmp_ge (tgt := 31) (dd DX5_isSafe 4 rfl) (by decide) (fun c5 => absurd c5 (by exact nI_ge (b := 10) (by omega) (by decide))) (fun c5 => ?_)
    refine sk_S.aload_n (i := 0) (dd DX5_isSafe 5 rfl) rfl rfl ?_
    refine sk_S.iload_n (i := 1) (dd DX5_isSafe 6 rfl) rfl rfl ?_
    refine sk_S.iload_n (i := 2) (dd DX5_isSafe 7 rfl) rfl rfl ?_
    refine sk_S.iload_n (i := 3) (dd DX5_isSafe 8 rfl) rfl rfl ?_
    refine sk_S.aload_n (i := 0) (dd DX5_isSafe 9 rfl) rfl rfl ?_
    refine sk_S.geti (dd DX5_isSafe 10 rfl) rfl fX5_15 se_1 (by decide) rfl ?_
    refine sk_S.callV (dd DX5_isSafe 11 rfl) rfl kX5_21 (cQ_caught hR1 hG) se_1 (by decide) rfl rfl rfl rfl (Nat.le_of_ble_eq_true rfl) (fun r16 h16 q16 => ?_)
    obtain ⟨og, rfl⟩ := q16
    rw [hR1.da]
    show sk_S _ _ _ _ _ _ (.int _ :: _) _ _
    refine sk_S.iload_n (i := 2) (dd DX5_isSafe 12 rfl) rfl rfl ?_
    refine sk_S.icmp_ge (tgt := 25) (dd DX5_isSafe 13 rfl) (by decide) (fun c20 => ?_) (fun c20 => ?_)
    · refine sk_S.iinc (i := 3) (v := _ + 1) (dd DX5_isSafe 16 rfl) rfl rfl rfl ?_
      refine sk_S.goto (tgt := 2) (dd DX5_isSafe 17 rfl) (by decide) ?_
      refine sk_S.L (lq_isSafe hR hG m (j + 1) _ (by omega) (fun w hw => ?_) (ho.tr og)) (by rw [nI_succ]; rfl)
      by_cases q : w = j
      · subst q
        exact decide_eq_true c20
      · exact ha w (by omega)
    · refine sk_S.iconst (v := 0) (dd DX5_isSafe 14 rfl) (by decide) ?_
      refine sk_S.iret (dd DX5_isSafe 15 rfl) rfl rfl ?_
      refine ⟨ho.tr og, ?_⟩
      rw [bi_f (cntN_not (w := j) (decide_eq_false c20) 10 (by omega))]
set_option maxRecDepth 100000 in
set_option maxHeartbeats 1000000 in
theorem cT_isSafe {l : Launch} {E : sk_V} {d : Nat} {h : sk_M} {g : Nat → Int32} {f n : Int32} (hR : RQ 1 18 h g) (hG : RG g) : sk_K l E (d + 6) MX5_isSafe [.ref 1, .int f, .int n] h (fun r h1 => sk_o [34, 35] h h1 ∧ some (.int (bi (cntN (enP g f n) 10 = 10))) = r) := by
  refine sk_K.of (by decide +kernel) (Nat.le_of_ble_eq_true rfl) ?_
  show sk_S l E (d + 6) _ 0 [some (.ref 1), some (.int f), some (.int n), none] [] h _
  refine sk_S.iconst (v := 0) (dd DX5_isSafe 0 rfl) (by decide) ?_
  refine sk_S.istore_n (i := 3) (dd DX5_isSafe 1 rfl) rfl (Nat.le_of_ble_eq_true rfl) rfl ?_
  exact lq_isSafe hR hG 10 0 h rfl (fun w hw => absurd hw (Nat.not_lt_zero _)) sk_o.rf
set_option maxRecDepth 100000 in
set_option maxHeartbeats 1000000 in
theorem lq_safest {l : Launch} {E : sk_V} {d : Nat} {h : sk_M} {g : Nat → Int32} {f : Int32} (hR : RQ 1 18 h g) (hG : RG g) : ∀ (m : Nat) (k : sk_M), m ≤ 99 → sk_o [34, 35] h k → sk_S l E (d + 7) MX5_safest 3 [some (.ref 1), some (.int f), some (.int (nI m))] [] k (fun r h1 => sk_o [34, 35] h h1 ∧ some (.int (nI (safeN g f m))) = r)
  | 0, k, hm, ho => by
    refine sk_S.iload_n (i := 2) (dd DX5_safest 2 rfl) rfl rfl ?_
    refine sk_S.if_le (tgt := 24) (dd DX5_safest 3 rfl) (by decide) (fun c4 => ?_) (fun c4 => absurd (Int32.le_refl _) c4)
    refine sk_S.iconst (v := 0) (dd DX5_safest 13 rfl) (by decide) ?_
    refine sk_S.iret (dd DX5_safest 14 rfl) rfl rfl ?_
    exact ⟨ho, rfl⟩
  | m + 1, k, hm, ho => by
    have hR1 : RQ 1 18 k g := hR.o ho (by decide)
    
    refine sk_S.iload_n (i := 2) (dd DX5_safest 2 rfl) rfl rfl ?_
    refine sk_S.if_le (tgt := 24) (dd DX5_safest 3 rfl) (by decide) (fun c4 => absurd c4 (nI_nle (by omega) (by omega))) (fun c4 => ?_)
    refine sk_S.aload_n (i := 0) (dd DX5_safest 4 rfl) rfl rfl ?_
    refine sk_S.iload_n (i := 1) (dd DX5_safest 5 rfl) rfl rfl ?_
    refine sk_S.iload_n (i := 2) (dd DX5_safest 6 rfl) rfl rfl ?_
    refine sk_S.callS (dd DX5_safest 7 rfl) rfl kX5_9 (cT_isSafe (n := nI (m + 1)) hR1 hG) rfl rfl rfl (Nat.le_of_ble_eq_true rfl) (fun r10 h10 q10 => ?_)
    obtain ⟨og, rfl⟩ := q10
    show sk_S _ _ _ _ _ _ (.int _ :: _) _ _
    refine sk_S.bif_eq (tgt := 18) (dd DX5_safest 8 rfl) (by decide) (fun c13 => ?_) (fun c13 => ?_)
    · refine sk_S.iinc (i := 2) (v := _ - 1) (dd DX5_safest 11 rfl) rfl iinc_m1 rfl ?_
      refine sk_S.goto (tgt := 3) (dd DX5_safest 12 rfl) (by decide) ?_
      rw [show safeN g f (m + 1) = safeN g f m from if_neg c13]
      exact sk_S.L (lq_safest hR hG m _ (by omega) (ho.tr og)) (by rw [nI_p1]; rfl)
    · refine sk_S.iload_n (i := 2) (dd DX5_safest 9 rfl) rfl rfl ?_
      refine sk_S.iret (dd DX5_safest 10 rfl) rfl rfl ?_
      refine ⟨ho.tr og, ?_⟩
      rw [safeN, if_pos c13]
set_option maxRecDepth 100000 in
set_option maxHeartbeats 1000000 in
theorem cT_safest {l : Launch} {E : sk_V} {d : Nat} {h : sk_M} {g : Nat → Int32} {f : Int32} (hR : RQ 1 18 h g) (hG : RG g) : sk_K l E (d + 7) MX5_safest [.ref 1, .int f] h (fun r h1 => sk_o [34, 35] h h1 ∧ some (.int (nI (safeN g f 99))) = r) := by
  refine sk_K.of (by decide +kernel) (Nat.le_of_ble_eq_true rfl) ?_
  show sk_S l E (d + 7) _ 0 [some (.ref 1), some (.int f), none] [] h _
  refine sk_S.bipush (v := 99) (dd DX5_safest 0 rfl) (by decide) ?_
  refine sk_S.istore_n (i := 2) (dd DX5_safest 1 rfl) rfl (Nat.le_of_ble_eq_true rfl) rfl ?_
  exact lq_safest hR hG 99 h (by decide) sk_o.rf
set_option maxRecDepth 100000 in
set_option maxHeartbeats 1000000 in
theorem lq_gain {l : Launch} {E : sk_V} {d : Nat} {h : sk_M} {g : Nat → Int32} {j n : Nat} (hj : j < 4) (hR : RQ 1 18 h g) (hG : RG g) : ∀ (m w : Nat) (k : sk_M) (x5 : Option Value), w + m = 10 → sk_o [34, 35] h k → sk_S l E (d + 6) MX5_gain 15 [some (.ref 1), some (.int (nI j)), some (.int (nI n)), some (.int (10 * nI n * coinsG g j 0 - 2 * g (13 + j) * sumN (shW g (nI j) (nI n)) w)), some (.int (nI w)), x5] [] k (fun r h1 => sk_o [34, 35] h h1 ∧ some (.int (gainG g j n)) = r)
  | 0, w, k, x5, hw, ho => by
    have e : w = 10 := by omega
    subst e
    refine sk_S.iload (i := 4) (dd DX5_gain 11 rfl) rfl ?_
    refine sk_S.bipush (v := 10) (dd DX5_gain 12 rfl) (by decide) ?_
    refine sk_S.icmp_ge (tgt := 62) (dd DX5_gain 13 rfl) (by decide) (fun c19 => ?_) (fun c19 => absurd (by decide) c19)
    refine sk_S.iload_n (i := 3) (dd DX5_gain 39 rfl) rfl rfl ?_
    refine sk_S.iret (dd DX5_gain 40 rfl) rfl rfl ?_
    exact ⟨ho, rfl⟩
  | m + 1, w, k, x5, hw, ho => by
    have hR1 : RQ 1 18 k g := hR.o ho (by decide)
    
    refine sk_S.iload (i := 4) (dd DX5_gain 11 rfl) rfl ?_
    refine sk_S.bipush (v := 10) (dd DX5_gain 12 rfl) (by decide) ?_
    refine sk_S.icmp_ge (tgt := 62) (dd DX5_gain 13 rfl) (by decide) (fun c19 => absurd c19 (by exact nI_ge (b := 10) (by omega) (by decide))) (fun c19 => ?_)
    refine sk_S.iconst (v := 0) (dd DX5_gain 14 rfl) (by decide) ?_
    refine sk_S.iload_n (i := 2) (dd DX5_gain 15 rfl) rfl rfl ?_
    refine sk_S.aload_n (i := 0) (dd DX5_gain 16 rfl) rfl rfl ?_
    refine sk_S.iload_n (i := 1) (dd DX5_gain 17 rfl) rfl rfl ?_
    refine sk_S.iload_n (i := 2) (dd DX5_gain 18 rfl) rfl rfl ?_
    refine sk_S.iload (i := 4) (dd DX5_gain 19 rfl) rfl ?_
    refine sk_S.aload_n (i := 0) (dd DX5_gain 20 rfl) rfl rfl ?_
    refine sk_S.geti (dd DX5_gain 21 rfl) rfl fX5_15 se_1 (by decide) rfl ?_
    refine sk_S.callV (dd DX5_gain 22 rfl) rfl kX5_21 (cQ_caught hR1 hG) se_1 (by decide) rfl rfl rfl rfl (Nat.le_of_ble_eq_true rfl) (fun r33 h33 q33 => ?_)
    obtain ⟨og, rfl⟩ := q33
    rw [hR1.da]
    show sk_S _ _ _ _ _ _ (.int _ :: _) _ _
    refine sk_S.isub (dd DX5_gain 23 rfl) ?_
    refine sk_S.mmax (dd DX5_gain 24 rfl) rfl blX5_33 mm_max_s mm_i mm_max_c rfl (Nat.le_of_ble_eq_true rfl) ?_
    refine sk_S.istore (i := 5) (dd DX5_gain 25 rfl) (Nat.le_of_ble_eq_true rfl) rfl ?_
    refine sk_S.iload_n (i := 3) (dd DX5_gain 26 rfl) rfl rfl ?_
    refine sk_S.iconst (v := 2) (dd DX5_gain 27 rfl) (by decide) ?_
    refine sk_S.aload_n (i := 0) (dd DX5_gain 28 rfl) rfl rfl ?_
    refine sk_S.getr (dd DX5_gain 29 rfl) rfl fX5_38 se_1 (by decide) rfl ?_
    refine sk_S.iload_n (i := 1) (dd DX5_gain 30 rfl) rfl rfl ?_
    refine sk_S.iald (dd DX5_gain 31 rfl) se_19 (sk_ix_nI (k := j) rfl hj (by decide)) ?_
    refine sk_S.imul (dd DX5_gain 32 rfl) ?_
    refine sk_S.iload (i := 5) (dd DX5_gain 33 rfl) rfl ?_
    refine sk_S.imul (dd DX5_gain 34 rfl) ?_
    refine sk_S.isub (dd DX5_gain 35 rfl) ?_
    refine sk_S.istore_n (i := 3) (dd DX5_gain 36 rfl) rfl (Nat.le_of_ble_eq_true rfl) rfl ?_
    refine sk_S.iinc (i := 4) (v := _ + 1) (dd DX5_gain 37 rfl) rfl rfl rfl ?_
    refine sk_S.goto (tgt := 15) (dd DX5_gain 38 rfl) (by decide) ?_
    have hv : (10 * nI n * coinsG g j 0 - 2 * g (13 + j) * sumN (shW g (nI j) (nI n)) w) - 2 * h33 19 j * (if 0 < nI n - catchG g (nI j) (nI n) (nI w) (g 0) then nI n - catchG g (nI j) (nI n) (nI w) (g 0) else 0) = (10 * nI n * coinsG g j 0 - 2 * g (13 + j) * sumN (shW g (nI j) (nI n)) (w + 1)) := by
      rw [mx_0, show h33 19 j = g (13 + j) from (hR1.o og (by decide)).ak hj, mul_step]
      rfl
    exact sk_S.L (lq_gain hj hR hG m (w + 1) _ _ (by omega) (ho.tr og)) (by rw [hv, nI_succ]; rfl)
set_option maxRecDepth 100000 in
set_option maxHeartbeats 1000000 in
theorem cT_gain {l : Launch} {E : sk_V} {d : Nat} {h : sk_M} {g : Nat → Int32} {j n : Nat} (hj : j < 4) (hR : RQ 1 18 h g) (hG : RG g) : sk_K l E (d + 6) MX5_gain [.ref 1, .int (nI j), .int (nI n)] h (fun r h1 => sk_o [34, 35] h h1 ∧ some (.int (gainG g j n)) = r) := by
  refine sk_K.of (by decide +kernel) (Nat.le_of_ble_eq_true rfl) ?_
  show sk_S l E (d + 6) _ 0 [some (.ref 1), some (.int (nI j)), some (.int (nI n)), none, none, none] [] h _
  refine sk_S.bipush (v := 10) (dd DX5_gain 0 rfl) (by decide) ?_
  refine sk_S.iload_n (i := 2) (dd DX5_gain 1 rfl) rfl rfl ?_
  refine sk_S.imul (dd DX5_gain 2 rfl) ?_
  refine sk_S.aload_n (i := 0) (dd DX5_gain 3 rfl) rfl rfl ?_
  refine sk_S.iload_n (i := 1) (dd DX5_gain 4 rfl) rfl rfl ?_
  refine sk_S.iconst (v := 0) (dd DX5_gain 5 rfl) (by decide) ?_
  refine sk_S.callV (dd DX5_gain 6 rfl) rfl kX5_29 (cQ_coins hj hR hG) se_1 (by decide) rfl rfl rfl rfl (Nat.le_of_ble_eq_true rfl) (fun r7 h7 q7 => ?_)
  obtain ⟨og, rfl⟩ := q7
  show sk_S _ _ _ _ _ _ (.int _ :: _) _ _
  refine sk_S.imul (dd DX5_gain 7 rfl) ?_
  refine sk_S.istore_n (i := 3) (dd DX5_gain 8 rfl) rfl (Nat.le_of_ble_eq_true rfl) rfl ?_
  refine sk_S.iconst (v := 0) (dd DX5_gain 9 rfl) (by decide) ?_
  refine sk_S.istore (i := 4) (dd DX5_gain 10 rfl) (Nat.le_of_ble_eq_true rfl) rfl ?_
  exact sk_S.L (lq_gain hj hR hG 10 0 _ none rfl og) (by rw [show (10 * nI n * coinsG g j 0 - 2 * g (13 + j) * sumN (shW g (nI j) (nI n)) 0) = 10 * nI n * coinsG g j 0 from mul_0.symm]; rfl)
set_option maxRecDepth 100000 in
set_option maxHeartbeats 1000000 in
theorem lq_best {l : Launch} {E : sk_V} {d : Nat} {h : sk_M} {g : Nat → Int32} {j : Nat} (hj : j < 4) (hR : RQ 1 18 h g) (hG : RG g) : ∀ (m n : Nat) (k : sk_M) (x5 : Option Value), n + m = 100 → 1 ≤ n → sk_o [34, 35] h k → sk_S l E (d + 7) MX5_bestToSell 12 [some (.ref 1), some (.int (nI j)), some (.int (bstG g j n).1), some (.int (bstG g j n).2), some (.int (nI n)), x5] [] k (fun r h1 => sk_o [34, 35] h h1 ∧ some (.int (bstG g j 100).1) = r)
  | 0, n, k, x5, hn, h1n, ho => by
    have e : n = 100 := by omega
    subst e
    refine sk_S.iload (i := 4) (dd DX5_bestToSell 9 rfl) rfl ?_
    refine sk_S.bipush (v := 99) (dd DX5_bestToSell 10 rfl) (by decide) ?_
    refine sk_S.icmp_gt (tgt := 46) (dd DX5_bestToSell 11 rfl) (by decide) (fun c16 => ?_) (fun c16 => absurd (by decide) c16)
    refine sk_S.iload_n (i := 2) (dd DX5_bestToSell 26 rfl) rfl rfl ?_
    refine sk_S.iret (dd DX5_bestToSell 27 rfl) rfl rfl ?_
    exact ⟨ho, rfl⟩
  | m + 1, n, k, x5, hn, h1n, ho => by
    have hR1 : RQ 1 18 k g := hR.o ho (by decide)
    
    refine sk_S.iload (i := 4) (dd DX5_bestToSell 9 rfl) rfl ?_
    refine sk_S.bipush (v := 99) (dd DX5_bestToSell 10 rfl) (by decide) ?_
    refine sk_S.icmp_gt (tgt := 46) (dd DX5_bestToSell 11 rfl) (by decide) (fun c16 => absurd c16 (Int32.not_lt.mpr (nI_le (b := 99) (by omega) (by decide)))) (fun c16 => ?_)
    refine sk_S.aload_n (i := 0) (dd DX5_bestToSell 12 rfl) rfl rfl ?_
    refine sk_S.iload_n (i := 1) (dd DX5_bestToSell 13 rfl) rfl rfl ?_
    refine sk_S.iload (i := 4) (dd DX5_bestToSell 14 rfl) rfl ?_
    refine sk_S.callS (dd DX5_bestToSell 15 rfl) rfl kX5_25 (cT_gain (n := n) hj hR1 hG) rfl rfl rfl (Nat.le_of_ble_eq_true rfl) (fun r23 h23 q23 => ?_)
    obtain ⟨og, rfl⟩ := q23
    show sk_S _ _ _ _ _ _ (.int _ :: _) _ _
    refine sk_S.istore (i := 5) (dd DX5_bestToSell 16 rfl) (Nat.le_of_ble_eq_true rfl) rfl ?_
    refine sk_S.iload (i := 5) (dd DX5_bestToSell 17 rfl) rfl ?_
    refine sk_S.iload_n (i := 3) (dd DX5_bestToSell 18 rfl) rfl rfl ?_
    refine sk_S.icmp_le (tgt := 40) (dd DX5_bestToSell 19 rfl) (by decide) (fun c31 => ?_) (fun c31 => ?_)
    · refine sk_S.iinc (i := 4) (v := _ + 1) (dd DX5_bestToSell 24 rfl) rfl rfl rfl ?_
      refine sk_S.goto (tgt := 12) (dd DX5_bestToSell 25 rfl) (by decide) ?_
      have e := bst_s0 (show ¬ (n = 0 ∨ (bstG g j n).2 < gainG g j n) from fun q => q.elim (fun z => by omega) (fun z => absurd c31 (Int32.not_le.mpr z)))
      exact sk_S.L (lq_best hj hR hG m (n + 1) _ _ (by omega) (by omega) (ho.tr og)) (by rw [e, nI_succ]; rfl)
    · refine sk_S.iload (i := 5) (dd DX5_bestToSell 20 rfl) rfl ?_
      refine sk_S.istore_n (i := 3) (dd DX5_bestToSell 21 rfl) rfl (Nat.le_of_ble_eq_true rfl) rfl ?_
      refine sk_S.iload (i := 4) (dd DX5_bestToSell 22 rfl) rfl ?_
      refine sk_S.istore_n (i := 2) (dd DX5_bestToSell 23 rfl) rfl (Nat.le_of_ble_eq_true rfl) rfl ?_
      refine sk_S.iinc (i := 4) (v := _ + 1) (dd DX5_bestToSell 24 rfl) rfl rfl rfl ?_
      refine sk_S.goto (tgt := 12) (dd DX5_bestToSell 25 rfl) (by decide) ?_
      have e := bst_s1 (show n = 0 ∨ (bstG g j n).2 < gainG g j n from Or.inr (Int32.not_le.mp c31))
      exact sk_S.L (lq_best hj hR hG m (n + 1) _ _ (by omega) (by omega) (ho.tr og)) (by rw [e, nI_succ]; rfl)
set_option maxRecDepth 100000 in
set_option maxHeartbeats 1000000 in
theorem cT_best {l : Launch} {E : sk_V} {d : Nat} {h : sk_M} {g : Nat → Int32} {j : Nat} (hj : j < 4) (hR : RQ 1 18 h g) (hG : RG g) : sk_K l E (d + 7) MX5_bestToSell [.ref 1, .int (nI j)] h (fun r h1 => sk_o [34, 35] h h1 ∧ some (.int (bstG g j 100).1) = r) := by
  refine sk_K.of (by decide +kernel) (Nat.le_of_ble_eq_true rfl) ?_
  show sk_S l E (d + 7) _ 0 [some (.ref 1), some (.int (nI j)), none, none, none, none] [] h _
  have hR1 := hR
  refine sk_S.iconst (v := 0) (dd DX5_bestToSell 0 rfl) (by decide) ?_
  refine sk_S.istore_n (i := 2) (dd DX5_bestToSell 1 rfl) rfl (Nat.le_of_ble_eq_true rfl) rfl ?_
  refine sk_S.aload_n (i := 0) (dd DX5_bestToSell 2 rfl) rfl rfl ?_
  refine sk_S.iload_n (i := 1) (dd DX5_bestToSell 3 rfl) rfl rfl ?_
  refine sk_S.iconst (v := 0) (dd DX5_bestToSell 4 rfl) (by decide) ?_
  refine sk_S.callS (dd DX5_bestToSell 5 rfl) rfl kX5_25 (cT_gain (n := 0) hj hR1 hG) rfl rfl rfl (Nat.le_of_ble_eq_true rfl) (fun r5 h5 q5 => ?_)
  obtain ⟨og, rfl⟩ := q5
  show sk_S _ _ _ _ _ _ (.int _ :: _) _ _
  refine sk_S.istore_n (i := 3) (dd DX5_bestToSell 6 rfl) rfl (Nat.le_of_ble_eq_true rfl) rfl ?_
  refine sk_S.iconst (v := 1) (dd DX5_bestToSell 7 rfl) (by decide) ?_
  refine sk_S.istore (i := 4) (dd DX5_bestToSell 8 rfl) (Nat.le_of_ble_eq_true rfl) rfl ?_
  exact sk_S.L (lq_best hj hR hG 99 1 _ none rfl (by decide) og) (by rw [bst_s1 (g := g) (j := j) (n := 0) (Or.inl rfl)]; rfl)
set_option maxRecDepth 100000 in
set_option maxHeartbeats 1000000 in
theorem cT_agr {l : Launch} {E : sk_V} {d : Nat} {h : sk_M} {g : Nat → Int32} {f n : Int32} (hR : RQ 1 18 h g) (hG : RG g) : sk_K l E (d + 6) MX5_agreesWithItself [.ref 1, .int f, .int n] h (fun r h1 => sk_o [34, 35] h h1 ∧ some (.int (bi (catchG g f n (g 3) (g 0) = n))) = r) := by
  refine sk_K.of (by decide +kernel) (Nat.le_of_ble_eq_true rfl) ?_
  show sk_S l E (d + 6) _ 0 [some (.ref 1), some (.int f), some (.int n)] [] h _
  refine sk_S.aload_n (i := 0) (dd DX5_agreesWithItself 0 rfl) rfl rfl ?_
  refine sk_S.iload_n (i := 1) (dd DX5_agreesWithItself 1 rfl) rfl rfl ?_
  refine sk_S.iload_n (i := 2) (dd DX5_agreesWithItself 2 rfl) rfl rfl ?_
  refine sk_S.aload_n (i := 0) (dd DX5_agreesWithItself 3 rfl) rfl rfl ?_
  refine sk_S.geti (dd DX5_agreesWithItself 4 rfl) rfl fX5_42 se_1 (by decide) rfl ?_
  refine sk_S.aload_n (i := 0) (dd DX5_agreesWithItself 5 rfl) rfl rfl ?_
  refine sk_S.geti (dd DX5_agreesWithItself 6 rfl) rfl fX5_15 se_1 (by decide) rfl ?_
  refine sk_S.callV (dd DX5_agreesWithItself 7 rfl) rfl kX5_21 (cQ_caught hR hG) se_1 (by decide) rfl rfl rfl rfl (Nat.le_of_ble_eq_true rfl) (fun r11 h11 q11 => ?_)
  obtain ⟨og, rfl⟩ := q11
  rw [hR.da, hR.wa]
  show sk_S _ _ _ _ _ _ (.int _ :: _) _ _
  refine sk_S.iload_n (i := 2) (dd DX5_agreesWithItself 8 rfl) rfl rfl ?_
  refine sk_S.icmp_ne (tgt := 22) (dd DX5_agreesWithItself 9 rfl) (by decide) (fun c15 => ?_) (fun c15 => ?_)
  · refine sk_S.iconst (v := 0) (dd DX5_agreesWithItself 12 rfl) (by decide) ?_
    refine sk_S.iret (dd DX5_agreesWithItself 13 rfl) rfl rfl ?_
    refine ⟨og, ?_⟩
    rw [bi_f c15]
  · refine sk_S.iconst (v := 1) (dd DX5_agreesWithItself 10 rfl) (by decide) ?_
    refine sk_S.goto (tgt := 23) (dd DX5_agreesWithItself 11 rfl) (by decide) ?_
    refine sk_S.iret (dd DX5_agreesWithItself 13 rfl) rfl rfl ?_
    refine ⟨og, ?_⟩
    rw [bi_t c15]
set_option maxRecDepth 100000 in
set_option maxHeartbeats 1000000 in
theorem lq_howMany {l : Launch} {E : sk_V} {d : Nat} {h : sk_M} {g : Nat → Int32} {f : Int32} (hR : RQ 1 18 h g) (hG : RG g) : ∀ (m j : Nat) (k : sk_M), j + m = 100 → sk_o [34, 35] h k → sk_S l E (d + 7) MX5_howManyAgree 4 [some (.ref 1), some (.int f), some (.int (nI (cntN (agP g f) j))), some (.int (nI j))] [] k (fun r h1 => sk_o [34, 35] h h1 ∧ some (.int (nI (cntD (agP g f) 100))) = r)
  | 0, j, k, hj, ho => by
    have e : j = 100 := by omega
    subst e
    refine sk_S.iload_n (i := 3) (dd DX5_howManyAgree 4 rfl) rfl rfl ?_
    refine sk_S.bipush (v := 99) (dd DX5_howManyAgree 5 rfl) (by decide) ?_
    refine sk_S.icmp_gt (tgt := 28) (dd DX5_howManyAgree 6 rfl) (by decide) (fun c7 => ?_) (fun c7 => absurd (by decide) c7)
    refine sk_S.iload_n (i := 2) (dd DX5_howManyAgree 15 rfl) rfl rfl ?_
    refine sk_S.iret (dd DX5_howManyAgree 16 rfl) rfl rfl ?_
    refine ⟨ho, ?_⟩
    rw [cntD_100]
  | m + 1, j, k, hj, ho => by
    have hR1 : RQ 1 18 k g := hR.o ho (by decide)
    
    refine sk_S.iload_n (i := 3) (dd DX5_howManyAgree 4 rfl) rfl rfl ?_
    refine sk_S.bipush (v := 99) (dd DX5_howManyAgree 5 rfl) (by decide) ?_
    refine sk_S.icmp_gt (tgt := 28) (dd DX5_howManyAgree 6 rfl) (by decide) (fun c7 => absurd c7 (Int32.not_lt.mpr (nI_le (b := 99) (by omega) (by decide)))) (fun c7 => ?_)
    refine sk_S.aload_n (i := 0) (dd DX5_howManyAgree 7 rfl) rfl rfl ?_
    refine sk_S.iload_n (i := 1) (dd DX5_howManyAgree 8 rfl) rfl rfl ?_
    refine sk_S.iload_n (i := 3) (dd DX5_howManyAgree 9 rfl) rfl rfl ?_
    refine sk_S.callS (dd DX5_howManyAgree 10 rfl) rfl kX5_45 (cT_agr (n := nI j) hR1 hG) rfl rfl rfl (Nat.le_of_ble_eq_true rfl) (fun r13 h13 q13 => ?_)
    obtain ⟨og, rfl⟩ := q13
    show sk_S _ _ _ _ _ _ (.int _ :: _) _ _
    refine sk_S.bif_eq (tgt := 22) (dd DX5_howManyAgree 11 rfl) (by decide) (fun c16 => ?_) (fun c16 => ?_)
    · refine sk_S.iinc (i := 3) (v := _ + 1) (dd DX5_howManyAgree 13 rfl) rfl rfl rfl ?_
      refine sk_S.goto (tgt := 4) (dd DX5_howManyAgree 14 rfl) (by decide) ?_
      have e : cntN (agP g f) (j + 1) = cntN (agP g f) j + _ := rfl
      rw [if_neg (by rw [show agP g f j = false from decide_eq_false c16]; exact Bool.false_ne_true)] at e
      exact sk_S.L (lq_howMany hR hG m (j + 1) _ (by omega) (ho.tr og)) (by rw [e, nI_succ j, Nat.add_zero]; rfl)
    · refine sk_S.iinc (i := 2) (v := _ + 1) (dd DX5_howManyAgree 12 rfl) rfl rfl rfl ?_
      refine sk_S.iinc (i := 3) (v := _ + 1) (dd DX5_howManyAgree 13 rfl) rfl rfl rfl ?_
      refine sk_S.goto (tgt := 4) (dd DX5_howManyAgree 14 rfl) (by decide) ?_
      have e : cntN (agP g f) (j + 1) = cntN (agP g f) j + _ := rfl
      rw [if_pos (show agP g f j = true from decide_eq_true c16)] at e
      exact sk_S.L (lq_howMany hR hG m (j + 1) _ (by omega) (ho.tr og)) (by rw [e, nI_succ j, nI_succ]; rfl)
set_option maxRecDepth 100000 in
set_option maxHeartbeats 1000000 in
theorem cT_howMany {l : Launch} {E : sk_V} {d : Nat} {h : sk_M} {g : Nat → Int32} {f : Int32} (hR : RQ 1 18 h g) (hG : RG g) : sk_K l E (d + 7) MX5_howManyAgree [.ref 1, .int f] h (fun r h1 => sk_o [34, 35] h h1 ∧ some (.int (nI (cntD (agP g f) 100))) = r) := by
  refine sk_K.of (by decide +kernel) (Nat.le_of_ble_eq_true rfl) ?_
  show sk_S l E (d + 7) _ 0 [some (.ref 1), some (.int f), none, none] [] h _
  refine sk_S.iconst (v := 0) (dd DX5_howManyAgree 0 rfl) (by decide) ?_
  refine sk_S.istore_n (i := 2) (dd DX5_howManyAgree 1 rfl) rfl (Nat.le_of_ble_eq_true rfl) rfl ?_
  refine sk_S.iconst (v := 0) (dd DX5_howManyAgree 2 rfl) (by decide) ?_
  refine sk_S.istore_n (i := 3) (dd DX5_howManyAgree 3 rfl) rfl (Nat.le_of_ble_eq_true rfl) rfl ?_
  exact lq_howMany hR hG 100 0 h rfl sk_o.rf
set_option maxRecDepth 100000 in
set_option maxHeartbeats 1000000 in
theorem lq_leastA {l : Launch} {E : sk_V} {d : Nat} {h : sk_M} {g : Nat → Int32} {f : Int32} (hR : RQ 1 18 h g) (hG : RG g) : ∀ (m j : Nat) (k : sk_M), j + m = 100 → sk_o [34, 35] h k → sk_S l E (d + 7) MX5_leastThatAgrees 2 [some (.ref 1), some (.int f), some (.int (nI j))] [] k (fun r h1 => sk_o [34, 35] h h1 ∧ some (.int (lstN (agP g f) m)) = r)
  | 0, j, k, hj, ho => by
    have e : j = 100 := by omega
    subst e
    refine sk_S.iload_n (i := 2) (dd DX5_leastThatAgrees 2 rfl) rfl rfl ?_
    refine sk_S.bipush (v := 99) (dd DX5_leastThatAgrees 3 rfl) (by decide) ?_
    refine sk_S.icmp_gt (tgt := 25) (dd DX5_leastThatAgrees 4 rfl) (by decide) (fun c5 => ?_) (fun c5 => absurd (by decide) c5)
    refine sk_S.iconst (v := -1) (dd DX5_leastThatAgrees 14 rfl) (by decide) ?_
    refine sk_S.iret (dd DX5_leastThatAgrees 15 rfl) rfl rfl ?_
    exact ⟨ho, rfl⟩
  | m + 1, j, k, hj, ho => by
    have hR1 : RQ 1 18 k g := hR.o ho (by decide)
    have e9 : 99 - m = j := by omega
    
    refine sk_S.iload_n (i := 2) (dd DX5_leastThatAgrees 2 rfl) rfl rfl ?_
    refine sk_S.bipush (v := 99) (dd DX5_leastThatAgrees 3 rfl) (by decide) ?_
    refine sk_S.icmp_gt (tgt := 25) (dd DX5_leastThatAgrees 4 rfl) (by decide) (fun c5 => absurd c5 (Int32.not_lt.mpr (nI_le (b := 99) (by omega) (by decide)))) (fun c5 => ?_)
    refine sk_S.aload_n (i := 0) (dd DX5_leastThatAgrees 5 rfl) rfl rfl ?_
    refine sk_S.iload_n (i := 1) (dd DX5_leastThatAgrees 6 rfl) rfl rfl ?_
    refine sk_S.iload_n (i := 2) (dd DX5_leastThatAgrees 7 rfl) rfl rfl ?_
    refine sk_S.callS (dd DX5_leastThatAgrees 8 rfl) rfl kX5_45 (cT_agr (n := nI j) hR1 hG) rfl rfl rfl (Nat.le_of_ble_eq_true rfl) (fun r11 h11 q11 => ?_)
    obtain ⟨og, rfl⟩ := q11
    show sk_S _ _ _ _ _ _ (.int _ :: _) _ _
    refine sk_S.bif_eq (tgt := 19) (dd DX5_leastThatAgrees 9 rfl) (by decide) (fun c14 => ?_) (fun c14 => ?_)
    · refine sk_S.iinc (i := 2) (v := _ + 1) (dd DX5_leastThatAgrees 12 rfl) rfl rfl rfl ?_
      refine sk_S.goto (tgt := 2) (dd DX5_leastThatAgrees 13 rfl) (by decide) ?_
      rw [show lstN (agP g f) (m + 1) = lstN (agP g f) m from if_neg (by rw [e9, show agP g f j = false from decide_eq_false c14]; exact Bool.false_ne_true)]
      exact sk_S.L (lq_leastA hR hG m (j + 1) _ (by omega) (ho.tr og)) (by rw [nI_succ]; rfl)
    · refine sk_S.iload_n (i := 2) (dd DX5_leastThatAgrees 10 rfl) rfl rfl ?_
      refine sk_S.iret (dd DX5_leastThatAgrees 11 rfl) rfl rfl ?_
      refine ⟨ho.tr og, ?_⟩
      rw [lstN, e9, if_pos (show agP g f j = true from decide_eq_true c14)]
set_option maxRecDepth 100000 in
set_option maxHeartbeats 1000000 in
theorem cT_leastA {l : Launch} {E : sk_V} {d : Nat} {h : sk_M} {g : Nat → Int32} {f : Int32} (hR : RQ 1 18 h g) (hG : RG g) : sk_K l E (d + 7) MX5_leastThatAgrees [.ref 1, .int f] h (fun r h1 => sk_o [34, 35] h h1 ∧ some (.int (lstN (agP g f) 100)) = r) := by
  refine sk_K.of (by decide +kernel) (Nat.le_of_ble_eq_true rfl) ?_
  show sk_S l E (d + 7) _ 0 [some (.ref 1), some (.int f), none] [] h _
  refine sk_S.iconst (v := 0) (dd DX5_leastThatAgrees 0 rfl) (by decide) ?_
  refine sk_S.istore_n (i := 2) (dd DX5_leastThatAgrees 1 rfl) rfl (Nat.le_of_ble_eq_true rfl) rfl ?_
  exact lq_leastA hR hG 100 0 h rfl sk_o.rf
set_option maxRecDepth 100000 in
set_option maxHeartbeats 1000000 in
theorem lq_days {l : Launch} {E : sk_V} {d : Nat} {h : sk_M} {g : Nat → Int32} {f n : Int32} {dy : Nat} (hd : g 0 = nI dy) (hR : RQ 1 18 h g) (hG : RG g) : ∀ (m j : Nat) (k : sk_M), j + m = 61 → sk_o [34, 35] h k → sk_S l E (d + 6) MX5_daysUntil 2 [some (.ref 1), some (.int f), some (.int n), some (.int (nI j))] [] k (fun r h1 => sk_o [34, 35] h h1 ∧ some (.int (if soF (soP g f n dy) m j = 61 then -1 else nI (soF (soP g f n dy) m j))) = r)
  | 0, j, k, hj, ho => by
    have e : j = 61 := by omega
    subst e
    refine sk_S.iload_n (i := 3) (dd DX5_daysUntil 2 rfl) rfl rfl ?_
    refine sk_S.bipush (v := 60) (dd DX5_daysUntil 3 rfl) (by decide) ?_
    refine sk_S.icmp_gt (tgt := 36) (dd DX5_daysUntil 4 rfl) (by decide) (fun c5 => ?_) (fun c5 => absurd (by decide) c5)
    refine sk_S.iconst (v := -1) (dd DX5_daysUntil 21 rfl) (by decide) ?_
    refine sk_S.iret (dd DX5_daysUntil 22 rfl) rfl rfl ?_
    exact ⟨ho, rfl⟩
  | m + 1, j, k, hj, ho => by
    have hR1 : RQ 1 18 k g := hR.o ho (by decide)
    
    refine sk_S.iload_n (i := 3) (dd DX5_daysUntil 2 rfl) rfl rfl ?_
    refine sk_S.bipush (v := 60) (dd DX5_daysUntil 3 rfl) (by decide) ?_
    refine sk_S.icmp_gt (tgt := 36) (dd DX5_daysUntil 4 rfl) (by decide) (fun c5 => absurd c5 (Int32.not_lt.mpr (nI_le (b := 60) (by omega) (by decide)))) (fun c5 => ?_)
    refine sk_S.aload_n (i := 0) (dd DX5_daysUntil 5 rfl) rfl rfl ?_
    refine sk_S.iload_n (i := 1) (dd DX5_daysUntil 6 rfl) rfl rfl ?_
    refine sk_S.iload_n (i := 2) (dd DX5_daysUntil 7 rfl) rfl rfl ?_
    refine sk_S.aload_n (i := 0) (dd DX5_daysUntil 8 rfl) rfl rfl ?_
    refine sk_S.geti (dd DX5_daysUntil 9 rfl) rfl fX5_42 se_1 (by decide) rfl ?_
    refine sk_S.aload_n (i := 0) (dd DX5_daysUntil 10 rfl) rfl rfl ?_
    refine sk_S.geti (dd DX5_daysUntil 11 rfl) rfl fX5_15 se_1 (by decide) rfl ?_
    refine sk_S.iload_n (i := 3) (dd DX5_daysUntil 12 rfl) rfl rfl ?_
    refine sk_S.iadd (dd DX5_daysUntil 13 rfl) ?_
    refine sk_S.callV (dd DX5_daysUntil 14 rfl) rfl kX5_21 (cQ_caught hR1 hG) se_1 (by decide) rfl rfl rfl rfl (Nat.le_of_ble_eq_true rfl) (fun r21 h21 q21 => ?_)
    obtain ⟨og, rfl⟩ := q21
    rw [hR1.da, hR1.wa, hd, nI_add]
    show sk_S _ _ _ _ _ _ (.int _ :: _) _ _
    refine sk_S.iload_n (i := 2) (dd DX5_daysUntil 15 rfl) rfl rfl ?_
    refine sk_S.icmp_lt (tgt := 30) (dd DX5_daysUntil 16 rfl) (by decide) (fun c25 => ?_) (fun c25 => ?_)
    · refine sk_S.iinc (i := 3) (v := _ + 1) (dd DX5_daysUntil 19 rfl) rfl rfl rfl ?_
      refine sk_S.goto (tgt := 2) (dd DX5_daysUntil 20 rfl) (by decide) ?_
      rw [show soF (soP g f n dy) (m + 1) j = soF (soP g f n dy) m (j + 1) from if_neg (by rw [show soP g f n dy j = false from decide_eq_false (Int32.not_le.mpr c25)]; exact Bool.false_ne_true)]
      exact sk_S.L (lq_days hd hR hG m (j + 1) _ (by omega) (ho.tr og)) (by rw [nI_succ]; rfl)
    · refine sk_S.iload_n (i := 3) (dd DX5_daysUntil 17 rfl) rfl rfl ?_
      refine sk_S.iret (dd DX5_daysUntil 18 rfl) rfl rfl ?_
      refine ⟨ho.tr og, ?_⟩
      rw [show soF (soP g f n dy) (m + 1) j = j from if_pos (show soP g f n dy j = true from decide_eq_true (Int32.not_lt.mp c25)), if_neg (by omega)]
set_option maxRecDepth 100000 in
set_option maxHeartbeats 1000000 in
theorem cT_days {l : Launch} {E : sk_V} {d : Nat} {h : sk_M} {g : Nat → Int32} {f n : Int32} {dy : Nat} (hd : g 0 = nI dy) (hR : RQ 1 18 h g) (hG : RG g) : sk_K l E (d + 6) MX5_daysUntil [.ref 1, .int f, .int n] h (fun r h1 => sk_o [34, 35] h h1 ∧ some (.int (if soF (soP g f n dy) 61 0 = 61 then -1 else nI (soF (soP g f n dy) 61 0))) = r) := by
  refine sk_K.of (by decide +kernel) (Nat.le_of_ble_eq_true rfl) ?_
  show sk_S l E (d + 6) _ 0 [some (.ref 1), some (.int f), some (.int n), none] [] h _
  refine sk_S.iconst (v := 0) (dd DX5_daysUntil 0 rfl) (by decide) ?_
  refine sk_S.istore_n (i := 3) (dd DX5_daysUntil 1 rfl) rfl (Nat.le_of_ble_eq_true rfl) rfl ?_
  exact lq_days hd hR hG 61 0 h rfl sk_o.rf
set_option maxRecDepth 100000 in
set_option maxHeartbeats 1000000 in
theorem lq_seasDo {l : Launch} {E : sk_V} {d : Nat} {h : sk_M} {g : Nat → Int32} {f n : Int32} (hR : RQ 1 18 h g) (hG : RG g) : ∀ (m j : Nat) (k : sk_M), j + m = 10 → sk_o [34, 35] h k → sk_S l E (d + 6) MX5_seasThatDo 5 [some (.ref 1), some (.int f), some (.int n), some (.int (nI (cntN (enP g f n) j))), some (.int (nI j))] [] k (fun r h1 => sk_o [34, 35] h h1 ∧ some (.int (nI (cntN (enP g f n) 10))) = r)
  | 0, j, k, hj, ho => by
    have e : j = 10 := by omega
    subst e
    refine sk_S.iload (i := 4) (dd DX5_seasThatDo 4 rfl) rfl ?_
    refine sk_S.bipush (v := 10) (dd DX5_seasThatDo 5 rfl) (by decide) ?_
    refine sk_S.icmp_ge (tgt := 37) (dd DX5_seasThatDo 6 rfl) (by decide) (fun c9 => ?_) (fun c9 => absurd (by decide) c9)
    refine sk_S.iload_n (i := 3) (dd DX5_seasThatDo 19 rfl) rfl rfl ?_
    refine sk_S.iret (dd DX5_seasThatDo 20 rfl) rfl rfl ?_
    exact ⟨ho, rfl⟩
  | m + 1, j, k, hj, ho => by
    have hR1 : RQ 1 18 k g := hR.o ho (by decide)
    
    refine sk_S.iload (i := 4) (dd DX5_seasThatDo 4 rfl) rfl ?_
    refine sk_S.bipush (v := 10) (dd DX5_seasThatDo 5 rfl) (by decide) ?_
    refine sk_S.icmp_ge (tgt := 37) (dd DX5_seasThatDo 6 rfl) (by decide) (fun c9 => absurd c9 (by exact nI_ge (b := 10) (by omega) (by decide))) (fun c9 => ?_)
    refine sk_S.aload_n (i := 0) (dd DX5_seasThatDo 7 rfl) rfl rfl ?_
    refine sk_S.iload_n (i := 1) (dd DX5_seasThatDo 8 rfl) rfl rfl ?_
    refine sk_S.iload_n (i := 2) (dd DX5_seasThatDo 9 rfl) rfl rfl ?_
    refine sk_S.iload (i := 4) (dd DX5_seasThatDo 10 rfl) rfl ?_
    refine sk_S.aload_n (i := 0) (dd DX5_seasThatDo 11 rfl) rfl rfl ?_
    refine sk_S.geti (dd DX5_seasThatDo 12 rfl) rfl fX5_15 se_1 (by decide) rfl ?_
    refine sk_S.callV (dd DX5_seasThatDo 13 rfl) rfl kX5_21 (cQ_caught hR1 hG) se_1 (by decide) rfl rfl rfl rfl (Nat.le_of_ble_eq_true rfl) (fun r21 h21 q21 => ?_)
    obtain ⟨og, rfl⟩ := q21
    rw [hR1.da]
    show sk_S _ _ _ _ _ _ (.int _ :: _) _ _
    refine sk_S.iload_n (i := 2) (dd DX5_seasThatDo 14 rfl) rfl rfl ?_
    refine sk_S.icmp_lt (tgt := 31) (dd DX5_seasThatDo 15 rfl) (by decide) (fun c25 => ?_) (fun c25 => ?_)
    · refine sk_S.iinc (i := 4) (v := _ + 1) (dd DX5_seasThatDo 17 rfl) rfl rfl rfl ?_
      refine sk_S.goto (tgt := 5) (dd DX5_seasThatDo 18 rfl) (by decide) ?_
      have e : cntN (enP g f n) (j + 1) = cntN (enP g f n) j + _ := rfl
      rw [if_neg (by rw [show enP g f n j = false from decide_eq_false (Int32.not_le.mpr c25)]; exact Bool.false_ne_true)] at e
      exact sk_S.L (lq_seasDo hR hG m (j + 1) _ (by omega) (ho.tr og)) (by rw [e, nI_succ j, Nat.add_zero]; rfl)
    · refine sk_S.iinc (i := 3) (v := _ + 1) (dd DX5_seasThatDo 16 rfl) rfl rfl rfl ?_
      refine sk_S.iinc (i := 4) (v := _ + 1) (dd DX5_seasThatDo 17 rfl) rfl rfl rfl ?_
      refine sk_S.goto (tgt := 5) (dd DX5_seasThatDo 18 rfl) (by decide) ?_
      have e : cntN (enP g f n) (j + 1) = cntN (enP g f n) j + _ := rfl
      rw [if_pos (show enP g f n j = true from decide_eq_true (Int32.not_lt.mp c25))] at e
      exact sk_S.L (lq_seasDo hR hG m (j + 1) _ (by omega) (ho.tr og)) (by rw [e, nI_succ j, nI_succ]; rfl)
set_option maxRecDepth 100000 in
set_option maxHeartbeats 1000000 in
theorem cT_seasDo {l : Launch} {E : sk_V} {d : Nat} {h : sk_M} {g : Nat → Int32} {f n : Int32} (hR : RQ 1 18 h g) (hG : RG g) : sk_K l E (d + 6) MX5_seasThatDo [.ref 1, .int f, .int n] h (fun r h1 => sk_o [34, 35] h h1 ∧ some (.int (nI (cntN (enP g f n) 10))) = r) := by
  refine sk_K.of (by decide +kernel) (Nat.le_of_ble_eq_true rfl) ?_
  show sk_S l E (d + 6) _ 0 [some (.ref 1), some (.int f), some (.int n), none, none] [] h _
  refine sk_S.iconst (v := 0) (dd DX5_seasThatDo 0 rfl) (by decide) ?_
  refine sk_S.istore_n (i := 3) (dd DX5_seasThatDo 1 rfl) rfl (Nat.le_of_ble_eq_true rfl) rfl ?_
  refine sk_S.iconst (v := 0) (dd DX5_seasThatDo 2 rfl) (by decide) ?_
  refine sk_S.istore (i := 4) (dd DX5_seasThatDo 3 rfl) (Nat.le_of_ble_eq_true rfl) rfl ?_
  exact lq_seasDo hR hG 10 0 h rfl sk_o.rf
set_option maxRecDepth 100000 in
set_option maxHeartbeats 1000000 in
theorem lq_allSeas {l : Launch} {E : sk_V} {d : Nat} {h : sk_M} {g : Nat → Int32} {j : Nat} (hj : j < 4) (hR : RQ 1 18 h g) (hG : RG g) : ∀ (m w : Nat) (k : sk_M), w + m = 10 → sk_o [34, 35] h k → sk_S l E (d + 6) MX5_caughtInAllSeas 4 [some (.ref 1), some (.int (nI j)), some (.int (sumN (fun w => catchG g (nI j) (g (9 + j)) (nI w) (g 0)) w)), some (.int (nI w))] [] k (fun r h1 => sk_o [34, 35] h h1 ∧ some (.int (meanI g j)) = r)
  | 0, w, k, hw, ho => by
    have e : w = 10 := by omega
    subst e
    refine sk_S.iload_n (i := 3) (dd DX5_caughtInAllSeas 4 rfl) rfl rfl ?_
    refine sk_S.bipush (v := 10) (dd DX5_caughtInAllSeas 5 rfl) (by decide) ?_
    refine sk_S.icmp_ge (tgt := 35) (dd DX5_caughtInAllSeas 6 rfl) (by decide) (fun c7 => ?_) (fun c7 => absurd (by decide) c7)
    refine sk_S.iload_n (i := 2) (dd DX5_caughtInAllSeas 22 rfl) rfl rfl ?_
    refine sk_S.iret (dd DX5_caughtInAllSeas 23 rfl) rfl rfl ?_
    exact ⟨ho, rfl⟩
  | m + 1, w, k, hw, ho => by
    have hR1 : RQ 1 18 k g := hR.o ho (by decide)
    
    refine sk_S.iload_n (i := 3) (dd DX5_caughtInAllSeas 4 rfl) rfl rfl ?_
    refine sk_S.bipush (v := 10) (dd DX5_caughtInAllSeas 5 rfl) (by decide) ?_
    refine sk_S.icmp_ge (tgt := 35) (dd DX5_caughtInAllSeas 6 rfl) (by decide) (fun c7 => absurd c7 (by exact nI_ge (b := 10) (by omega) (by decide))) (fun c7 => ?_)
    refine sk_S.iload_n (i := 2) (dd DX5_caughtInAllSeas 7 rfl) rfl rfl ?_
    refine sk_S.aload_n (i := 0) (dd DX5_caughtInAllSeas 8 rfl) rfl rfl ?_
    refine sk_S.iload_n (i := 1) (dd DX5_caughtInAllSeas 9 rfl) rfl rfl ?_
    refine sk_S.aload_n (i := 0) (dd DX5_caughtInAllSeas 10 rfl) rfl rfl ?_
    refine sk_S.getr (dd DX5_caughtInAllSeas 11 rfl) rfl fX5_61 se_1 (by decide) rfl ?_
    refine sk_S.iload_n (i := 1) (dd DX5_caughtInAllSeas 12 rfl) rfl rfl ?_
    refine sk_S.iald (dd DX5_caughtInAllSeas 13 rfl) se_18 (sk_ix_nI (k := j) rfl hj (by decide)) ?_
    refine sk_S.iload_n (i := 3) (dd DX5_caughtInAllSeas 14 rfl) rfl rfl ?_
    refine sk_S.aload_n (i := 0) (dd DX5_caughtInAllSeas 15 rfl) rfl rfl ?_
    refine sk_S.geti (dd DX5_caughtInAllSeas 16 rfl) rfl fX5_15 se_1 (by decide) rfl ?_
    refine sk_S.callV (dd DX5_caughtInAllSeas 17 rfl) rfl kX5_21 (cQ_caught hR1 hG) se_1 (by decide) rfl rfl rfl rfl (Nat.le_of_ble_eq_true rfl) (fun r24 h24 q24 => ?_)
    obtain ⟨og, rfl⟩ := q24
    rw [hR1.da, hR1.so hj]
    show sk_S _ _ _ _ _ _ (.int _ :: _) _ _
    refine sk_S.iadd (dd DX5_caughtInAllSeas 18 rfl) ?_
    refine sk_S.istore_n (i := 2) (dd DX5_caughtInAllSeas 19 rfl) rfl (Nat.le_of_ble_eq_true rfl) rfl ?_
    refine sk_S.iinc (i := 3) (v := _ + 1) (dd DX5_caughtInAllSeas 20 rfl) rfl rfl rfl ?_
    refine sk_S.goto (tgt := 4) (dd DX5_caughtInAllSeas 21 rfl) (by decide) ?_
    exact sk_S.L (lq_allSeas hj hR hG m (w + 1) _ (by omega) (ho.tr og)) (by rw [nI_succ]; rfl)
set_option maxRecDepth 100000 in
set_option maxHeartbeats 1000000 in
theorem cT_allSeas {l : Launch} {E : sk_V} {d : Nat} {h : sk_M} {g : Nat → Int32} {j : Nat} (hj : j < 4) (hR : RQ 1 18 h g) (hG : RG g) : sk_K l E (d + 6) MX5_caughtInAllSeas [.ref 1, .int (nI j)] h (fun r h1 => sk_o [34, 35] h h1 ∧ some (.int (meanI g j)) = r) := by
  refine sk_K.of (by decide +kernel) (Nat.le_of_ble_eq_true rfl) ?_
  show sk_S l E (d + 6) _ 0 [some (.ref 1), some (.int (nI j)), none, none] [] h _
  refine sk_S.iconst (v := 0) (dd DX5_caughtInAllSeas 0 rfl) (by decide) ?_
  refine sk_S.istore_n (i := 2) (dd DX5_caughtInAllSeas 1 rfl) rfl (Nat.le_of_ble_eq_true rfl) rfl ?_
  refine sk_S.iconst (v := 0) (dd DX5_caughtInAllSeas 2 rfl) (by decide) ?_
  refine sk_S.istore_n (i := 3) (dd DX5_caughtInAllSeas 3 rfl) rfl (Nat.le_of_ble_eq_true rfl) rfl ?_
  exact lq_allSeas hj hR hG 10 0 h rfl sk_o.rf
set_option maxRecDepth 100000 in
set_option maxHeartbeats 1000000 in
theorem lq_part {l : Launch} {E : sk_V} {d : Nat} {h : sk_M} {A : Nat} {p : Int32} (hA : A < 2147483648) : ∀ (m t : Nat), t + m = 9 → sk_S l E (d + 0) MX5_partOfTenths 4 [some (.int (nI A)), some (.int p), some (.int (nI (gdN A t))), some (.int (nI (t + 2)))] [] h (fun r h1 => h = h1 ∧ some (.int (if p = 0 then nI (A / Nat.gcd A 10) else nI (10 / Nat.gcd A 10))) = r)
  | 0, t, hd => by
    have e : t = 9 := by omega
    subst e
    have hg := gdN_rg (A := A) 9
    refine sk_S.iload_n (i := 3) (dd DX5_partOfTenths 4 rfl) rfl rfl ?_
    refine sk_S.bipush (v := 10) (dd DX5_partOfTenths 5 rfl) (by decide) ?_
    refine sk_S.icmp_gt (tgt := 31) (dd DX5_partOfTenths 6 rfl) (by decide) (fun c7 => ?_) (fun c7 => absurd (by decide) c7)
    refine sk_S.iload_n (i := 1) (dd DX5_partOfTenths 19 rfl) rfl rfl ?_
    refine sk_S.if_ne (tgt := 39) (dd DX5_partOfTenths 20 rfl) (by decide) (fun c32 => ?_) (fun c32 => ?_)
    · refine sk_S.bipush (v := 10) (dd DX5_partOfTenths 23 rfl) (by decide) ?_
      refine sk_S.iload_n (i := 2) (dd DX5_partOfTenths 24 rfl) rfl rfl ?_
      refine sk_S.idiv (dd DX5_partOfTenths 25 rfl) (nI_ne0 (by omega) (by omega)) ?_
      refine sk_S.iret (dd DX5_partOfTenths 26 rfl) rfl rfl ?_
      refine ⟨rfl, ?_⟩
      rw [if_neg c32, ← gdN_9]
      exact congrArg (fun z => some (Value.int z)) (div_nI (by decide) (by omega) (by omega)).symm
    · refine sk_S.iload_n (i := 0) (dd DX5_partOfTenths 21 rfl) rfl rfl ?_
      refine sk_S.goto (tgt := 41) (dd DX5_partOfTenths 22 rfl) (by decide) ?_
      refine sk_S.iload_n (i := 2) (dd DX5_partOfTenths 24 rfl) rfl rfl ?_
      refine sk_S.idiv (dd DX5_partOfTenths 25 rfl) (nI_ne0 (by omega) (by omega)) ?_
      refine sk_S.iret (dd DX5_partOfTenths 26 rfl) rfl rfl ?_
      refine ⟨rfl, ?_⟩
      rw [if_pos c32, ← gdN_9]
      exact congrArg (fun z => some (Value.int z)) (div_nI hA (by omega) (by omega)).symm
  | m + 1, t, hd => by
    refine sk_S.iload_n (i := 3) (dd DX5_partOfTenths 4 rfl) rfl rfl ?_
    refine sk_S.bipush (v := 10) (dd DX5_partOfTenths 5 rfl) (by decide) ?_
    refine sk_S.icmp_gt (tgt := 31) (dd DX5_partOfTenths 6 rfl) (by decide) (fun c7 => absurd c7 (Int32.not_lt.mpr (nI_le (b := 10) (by omega) (by decide)))) (fun c7 => ?_)
    refine sk_S.iload_n (i := 0) (dd DX5_partOfTenths 7 rfl) rfl rfl ?_
    refine sk_S.iload_n (i := 3) (dd DX5_partOfTenths 8 rfl) rfl rfl ?_
    refine sk_S.irem (dd DX5_partOfTenths 9 rfl) (nI_ne0 (by omega) (by omega)) ?_
    rw [nI_rem hA (by omega) (by omega)]
    refine sk_S.if_ne (tgt := 25) (dd DX5_partOfTenths 10 rfl) (by decide) (fun c13 => ?_) (fun c13 => ?_)
    · refine sk_S.iinc (i := 3) (v := _ + 1) (dd DX5_partOfTenths 17 rfl) rfl rfl rfl ?_
      refine sk_S.goto (tgt := 4) (dd DX5_partOfTenths 18 rfl) (by decide) ?_
      have e : gdN A (t + 1) = _ := if_neg (fun q => c13 ((nI_z (by have := Nat.mod_lt A (show 0 < t + 2 by omega); omega)).mpr q.1))
      exact sk_S.L (lq_part hA m (t + 1) (by omega)) (by rw [e, show t + 1 + 2 = t + 2 + 1 from rfl, nI_succ (t + 2)]; rfl)
    · refine sk_S.bipush (v := 10) (dd DX5_partOfTenths 11 rfl) (by decide) ?_
      refine sk_S.iload_n (i := 3) (dd DX5_partOfTenths 12 rfl) rfl rfl ?_
      refine sk_S.irem (dd DX5_partOfTenths 13 rfl) (nI_ne0 (by omega) (by omega)) ?_
      rw [show (10 : Int32) - 10 / nI (t + 2) * nI (t + 2) = nI (10 % (t + 2)) from nI_rem (a := 10) (by decide) (by omega) (by omega)]
      refine sk_S.if_ne (tgt := 25) (dd DX5_partOfTenths 14 rfl) (by decide) (fun c20 => ?_) (fun c20 => ?_)
      · refine sk_S.iinc (i := 3) (v := _ + 1) (dd DX5_partOfTenths 17 rfl) rfl rfl rfl ?_
        refine sk_S.goto (tgt := 4) (dd DX5_partOfTenths 18 rfl) (by decide) ?_
        have e : gdN A (t + 1) = _ := if_neg (fun q => c20 ((nI_z (by have := Nat.mod_lt 10 (show 0 < t + 2 by omega); omega)).mpr q.2))
        exact sk_S.L (lq_part hA m (t + 1) (by omega)) (by rw [e, show t + 1 + 2 = t + 2 + 1 from rfl, nI_succ (t + 2)]; rfl)
      · refine sk_S.iload_n (i := 3) (dd DX5_partOfTenths 15 rfl) rfl rfl ?_
        refine sk_S.istore_n (i := 2) (dd DX5_partOfTenths 16 rfl) rfl (Nat.le_of_ble_eq_true rfl) rfl ?_
        refine sk_S.iinc (i := 3) (v := _ + 1) (dd DX5_partOfTenths 17 rfl) rfl rfl rfl ?_
        refine sk_S.goto (tgt := 4) (dd DX5_partOfTenths 18 rfl) (by decide) ?_
        have e : gdN A (t + 1) = _ := if_pos ⟨(nI_z (by have := Nat.mod_lt A (show 0 < t + 2 by omega); omega)).mp c13, (nI_z (by have := Nat.mod_lt 10 (show 0 < t + 2 by omega); omega)).mp c20⟩
        exact sk_S.L (lq_part hA m (t + 1) (by omega)) (by rw [e, show t + 1 + 2 = t + 2 + 1 from rfl, nI_succ (t + 2)]; rfl)
set_option maxRecDepth 100000 in
set_option maxHeartbeats 1000000 in
theorem cT_part {l : Launch} {E : sk_V} {d : Nat} {h : sk_M} {A : Nat} {p : Int32} (hA : A < 2147483648) : sk_K l E (d + 0) MX5_partOfTenths [.int (nI A), .int p] h (fun r h1 => h = h1 ∧ some (.int (if p = 0 then nI (A / Nat.gcd A 10) else nI (10 / Nat.gcd A 10))) = r) := by
  refine sk_K.of (by decide +kernel) (Nat.le_of_ble_eq_true rfl) ?_
  show sk_S l E (d + 0) _ 0 [some (.int (nI A)), some (.int p), none, none] [] h _
  refine sk_S.iconst (v := 1) (dd DX5_partOfTenths 0 rfl) (by decide) ?_
  refine sk_S.istore_n (i := 2) (dd DX5_partOfTenths 1 rfl) rfl (Nat.le_of_ble_eq_true rfl) rfl ?_
  refine sk_S.iconst (v := 2) (dd DX5_partOfTenths 2 rfl) (by decide) ?_
  refine sk_S.istore_n (i := 3) (dd DX5_partOfTenths 3 rfl) rfl (Nat.le_of_ble_eq_true rfl) rfl ?_
  exact lq_part hA 9 0 rfl
end C4
