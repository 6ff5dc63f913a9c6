section C3
set_option maxRecDepth 100000 in
set_option maxHeartbeats 1000000 in
theorem cQ_landed {l : Launch} {E : sk_V} {d : Nat} {h : sk_M} {g : Nat → Int32} {j : Nat} {f n sea dy : Int32} (hj : j < 6) (hR : RQ 1 18 h g) (hG : RG g) : sk_K l E (d + 4) MX2_landed [.ref 1, .int (nI j), .int f, .int n, .int sea, .int dy] h (fun r h1 => sk_o [34, 35] h h1 ∧ some (.int (landsG g j f n sea dy)) = r) := by
  refine sk_K.of (by decide +kernel) (Nat.le_of_ble_eq_true rfl) ?_
  show sk_S l E (d + 4) _ 0 [some (.ref 1), some (.int (nI j)), some (.int f), some (.int n), some (.int sea), some (.int dy), none] [] h _
  refine sk_S.aload_n (i := 0) (dd DX2_landed 0 rfl) rfl rfl ?_
  refine sk_S.getr (dd DX2_landed 1 rfl) rfl fX2_20 se_1 (by decide) rfl ?_
  refine sk_S.iload_n (i := 1) (dd DX2_landed 2 rfl) rfl rfl ?_
  refine sk_S.aald (dd DX2_landed 3 rfl) se_20 rfl (sk_ix_nI (k := j) rfl hj (by decide)) (rf_fleet hj) ?_
  refine sk_S.astore (i := 6) (dd DX2_landed 4 rfl) (Nat.le_of_ble_eq_true rfl) rfl ?_
  refine sk_S.aload (i := 6) (dd DX2_landed 5 rfl) rfl ?_
  refine sk_S.geti (dd DX2_landed 6 rfl) rfl fX2_85 (se_bt hj) (by decide) rfl ?_
  refine sk_S.iconst (v := 1) (dd DX2_landed 7 rfl) (by decide) ?_
  refine sk_S.icmp_ne (tgt := 19) (dd DX2_landed 8 rfl) (by decide) (fun c14 => ?_) (fun c14 => ?_)
  · refine sk_S.aload_n (i := 0) (dd DX2_landed 11 rfl) rfl rfl ?_
    refine sk_S.getr (dd DX2_landed 12 rfl) rfl fX2_26 se_1 (by decide) rfl ?_
    refine sk_S.iconst (v := 0) (dd DX2_landed 13 rfl) (by decide) ?_
    refine sk_S.aald (dd DX2_landed 14 rfl) se_21 rfl (j := 0) ⟨by decide, by decide, by decide⟩ rfl ?_
    refine sk_S.aload (i := 6) (dd DX2_landed 15 rfl) rfl ?_
    refine sk_S.iload_n (i := 2) (dd DX2_landed 16 rfl) rfl rfl ?_
    refine sk_S.iload (i := 4) (dd DX2_landed 17 rfl) rfl ?_
    refine sk_S.iload (i := 5) (dd DX2_landed 18 rfl) rfl ?_
    refine sk_S.callV (dd DX2_landed 19 rfl) rfl kX2_88 (cC_hauls (se_bt hj)) (se_bt hj) (by decide) rfl rfl rfl rfl (Nat.le_of_ble_eq_true rfl) (fun r32 h32 q32 => ?_)
    obtain ⟨rfl, rfl⟩ := q32
    show sk_S _ _ _ _ _ _ (.int _ :: _) _ _
    refine sk_S.iload (i := 4) (dd DX2_landed 20 rfl) rfl ?_
    refine sk_S.iload_n (i := 3) (dd DX2_landed 21 rfl) rfl rfl ?_
    refine sk_S.callV (dd DX2_landed 22 rfl) rfl kX2_92 (cC_gives se_30 se_32 se_34 (by decide) (by decide) hG.i0 hG.s0 hR.2.1) se_30 (by decide) rfl rfl rfl rfl (Nat.le_of_ble_eq_true rfl) (fun r38 h38 q38 => ?_)
    obtain ⟨og, rfl⟩ := q38
    show sk_S _ _ _ _ _ _ (.int _ :: _) _ _
    refine sk_S.iret (dd DX2_landed 23 rfl) rfl rfl ?_
    refine ⟨og.more (by decide), ?_⟩
    unfold landsG
    rw [if_neg (fun e => c14 ((hR.b2 hj).trans e)), hR.b0 hj, hR.b1 hj]
  · refine sk_S.iconst (v := 0) (dd DX2_landed 9 rfl) (by decide) ?_
    refine sk_S.iret (dd DX2_landed 10 rfl) rfl rfl ?_
    refine ⟨sk_o.rf, ?_⟩
    unfold landsG
    rw [if_pos ((hR.b2 hj).symm.trans c14)]
set_option maxRecDepth 100000 in
set_option maxHeartbeats 1000000 in
theorem lp_caught {l : Launch} {E : sk_V} {d : Nat} {h : sk_M} {g : Nat → Int32} {f n sea dy : Int32} (hR : RQ 1 18 h g) (hG : RG g) : ∀ (m j : Nat) (k : sk_M), j + m = boN g → sk_o [34, 35] h k → sk_S l E (d + 5) MX2_caught 6 [some (.ref 1), some (.int f), some (.int n), some (.int sea), some (.int dy), some (.int (sumN (fun j => landsG g j f n sea dy) j)), some (.int (nI j))] [] k (fun r h1 => sk_o [34, 35] h h1 ∧ some (.int (sumN (fun j => landsG g j f n sea dy) (boN g))) = r)
  | 0, j, k, hj, ho => by
    have hR1 : RQ 1 18 k g := hR.o ho (by decide)
    have eb : k 1 6 = nI (boN g) := hR1.bo.trans hG.b.1
    have hb6 := hG.b.2
    have hjn : j = boN g := by omega
    refine sk_S.iload (i := 6) (dd DX2_caught 4 rfl) rfl ?_
    refine sk_S.aload_n (i := 0) (dd DX2_caught 5 rfl) rfl rfl ?_
    refine sk_S.geti (dd DX2_caught 6 rfl) rfl fX2_64 se_1 (by decide) rfl ?_
    refine sk_S.icmp_ge (tgt := 37) (dd DX2_caught 7 rfl) (by decide) (fun c12 => ?_) (fun c12 => absurd (by rw [eb, hjn]; exact Int32.le_refl _) c12)
    refine sk_S.iload (i := 5) (dd DX2_caught 20 rfl) rfl ?_
    refine sk_S.iret (dd DX2_caught 21 rfl) rfl rfl ?_
    rw [← hjn]
    exact ⟨ho, rfl⟩
  | m + 1, j, k, hj, ho => by
    have hR1 : RQ 1 18 k g := hR.o ho (by decide)
    have eb : k 1 6 = nI (boN g) := hR1.bo.trans hG.b.1
    have hb6 := hG.b.2
    
    refine sk_S.iload (i := 6) (dd DX2_caught 4 rfl) rfl ?_
    refine sk_S.aload_n (i := 0) (dd DX2_caught 5 rfl) rfl rfl ?_
    refine sk_S.geti (dd DX2_caught 6 rfl) rfl fX2_64 se_1 (by decide) rfl ?_
    refine sk_S.icmp_ge (tgt := 37) (dd DX2_caught 7 rfl) (by decide) (fun c12 => absurd c12 (by rw [eb]; exact nI_ge (by omega) (by omega))) (fun c12 => ?_)
    refine sk_S.iload (i := 5) (dd DX2_caught 8 rfl) rfl ?_
    refine sk_S.aload_n (i := 0) (dd DX2_caught 9 rfl) rfl rfl ?_
    refine sk_S.iload (i := 6) (dd DX2_caught 10 rfl) rfl ?_
    refine sk_S.iload_n (i := 1) (dd DX2_caught 11 rfl) rfl rfl ?_
    refine sk_S.iload_n (i := 2) (dd DX2_caught 12 rfl) rfl rfl ?_
    refine sk_S.iload_n (i := 3) (dd DX2_caught 13 rfl) rfl rfl ?_
    refine sk_S.iload (i := 4) (dd DX2_caught 14 rfl) rfl ?_
    refine sk_S.callV (dd DX2_caught 15 rfl) rfl kX2_95 (cQ_landed (by omega) hR1 hG) se_1 (by decide) rfl rfl rfl rfl (Nat.le_of_ble_eq_true rfl) (fun r25 h25 q25 => ?_)
    obtain ⟨ho2, rfl⟩ := q25
    show sk_S _ _ _ _ _ _ (.int _ :: _) _ _
    refine sk_S.iadd (dd DX2_caught 16 rfl) ?_
    refine sk_S.istore (i := 5) (dd DX2_caught 17 rfl) (Nat.le_of_ble_eq_true rfl) rfl ?_
    refine sk_S.iinc (i := 6) (v := _ + 1) (dd DX2_caught 18 rfl) rfl rfl rfl ?_
    refine sk_S.goto (tgt := 6) (dd DX2_caught 19 rfl) (by decide) ?_
    exact sk_S.L (lp_caught hR hG m (j + 1) _ (by omega) (ho.tr ho2)) (by rw [nI_succ]; rfl)
set_option maxRecDepth 100000 in
set_option maxHeartbeats 1000000 in
theorem cQ_caught {l : Launch} {E : sk_V} {d : Nat} {h : sk_M} {g : Nat → Int32} {f n sea dy : Int32} (hR : RQ 1 18 h g) (hG : RG g) : sk_K l E (d + 5) MX2_caught [.ref 1, .int f, .int n, .int sea, .int dy] h (fun r h1 => sk_o [34, 35] h h1 ∧ some (.int (catchG g f n sea dy)) = r) := by
  refine sk_K.of (by decide +kernel) (Nat.le_of_ble_eq_true rfl) ?_
  show sk_S l E (d + 5) _ 0 [some (.ref 1), some (.int f), some (.int n), some (.int sea), some (.int dy), none, none] [] h _
  refine sk_S.iconst (v := 0) (dd DX2_caught 0 rfl) (by decide) ?_
  refine sk_S.istore (i := 5) (dd DX2_caught 1 rfl) (Nat.le_of_ble_eq_true rfl) rfl ?_
  refine sk_S.iconst (v := 0) (dd DX2_caught 2 rfl) (by decide) ?_
  refine sk_S.istore (i := 6) (dd DX2_caught 3 rfl) (Nat.le_of_ble_eq_true rfl) rfl ?_
  exact lp_caught hR hG (boN g) 0 h (Nat.zero_add _) sk_o.rf
set_option maxRecDepth 100000 in
set_option maxHeartbeats 1000000 in
theorem cQ_caughtNow {l : Launch} {E : sk_V} {d : Nat} {h : sk_M} {g : Nat → Int32} {j : Nat} (hj : j < 4) (hR : RQ 1 18 h g) (hG : RG g) : sk_K l E (d + 6) MX2_caughtNow [.ref 1, .int (nI j)] h (fun r h1 => sk_o [34, 35] h h1 ∧ some (.int (catchG g (nI j) (g (9 + j)) (g 3) (g 0))) = r) := by
  refine sk_K.of (by decide +kernel) (Nat.le_of_ble_eq_true rfl) ?_
  show sk_S l E (d + 6) _ 0 [some (.ref 1), some (.int (nI j))] [] h _
  refine sk_S.aload_n (i := 0) (dd DX2_caughtNow 0 rfl) rfl rfl ?_
  refine sk_S.iload_n (i := 1) (dd DX2_caughtNow 1 rfl) rfl rfl ?_
  refine sk_S.aload_n (i := 0) (dd DX2_caughtNow 2 rfl) rfl rfl ?_
  refine sk_S.getr (dd DX2_caughtNow 3 rfl) rfl fX2_9 se_1 (by decide) rfl ?_
  refine sk_S.iload_n (i := 1) (dd DX2_caughtNow 4 rfl) rfl rfl ?_
  refine sk_S.iald (dd DX2_caughtNow 5 rfl) se_18 (sk_ix_nI (k := j) rfl hj (by decide)) ?_
  refine sk_S.aload_n (i := 0) (dd DX2_caughtNow 6 rfl) rfl rfl ?_
  refine sk_S.geti (dd DX2_caughtNow 7 rfl) rfl fX2_67 se_1 (by decide) rfl ?_
  refine sk_S.aload_n (i := 0) (dd DX2_caughtNow 8 rfl) rfl rfl ?_
  refine sk_S.geti (dd DX2_caughtNow 9 rfl) rfl fX2_70 se_1 (by decide) rfl ?_
  refine sk_S.callV (dd DX2_caughtNow 10 rfl) rfl kX2_99 (cQ_caught hR hG) se_1 (by decide) rfl rfl rfl rfl (Nat.le_of_ble_eq_true rfl) (fun r16 h16 q16 => ?_)
  obtain ⟨og, rfl⟩ := q16
  show sk_S _ _ _ _ _ _ (.int _ :: _) _ _
  refine sk_S.iret (dd DX2_caughtNow 11 rfl) rfl rfl ?_
  refine ⟨og, ?_⟩
  rw [hR.so hj, hR.wa, hR.da]
set_option maxRecDepth 100000 in
set_option maxHeartbeats 1000000 in
theorem cQ_coins {l : Launch} {E : sk_V} {d : Nat} {h : sk_M} {g : Nat → Int32} {j : Nat} {n : Int32} (hj : j < 4) (hR : RQ 1 18 h g) (hG : RG g) : sk_K l E (d + 4) MX2_coins [.ref 1, .int (nI j), .int n] h (fun r h1 => sk_o [34, 35] h h1 ∧ some (.int (coinsG g j n)) = r) := by
  refine sk_K.of (by decide +kernel) (Nat.le_of_ble_eq_true rfl) ?_
  show sk_S l E (d + 4) _ 0 [some (.ref 1), some (.int (nI j)), some (.int n)] [] h _
  refine sk_S.aload_n (i := 0) (dd DX2_coins 0 rfl) rfl rfl ?_
  refine sk_S.getr (dd DX2_coins 1 rfl) rfl fX2_26 se_1 (by decide) rfl ?_
  refine sk_S.iconst (v := 1) (dd DX2_coins 2 rfl) (by decide) ?_
  refine sk_S.aald (dd DX2_coins 3 rfl) se_21 rfl (j := 1) ⟨by decide, by decide, by decide⟩ rfl ?_
  refine sk_S.aload_n (i := 0) (dd DX2_coins 4 rfl) rfl rfl ?_
  refine sk_S.getr (dd DX2_coins 5 rfl) rfl fX2_15 se_1 (by decide) rfl ?_
  refine sk_S.iload_n (i := 1) (dd DX2_coins 6 rfl) rfl rfl ?_
  refine sk_S.iald (dd DX2_coins 7 rfl) se_19 (sk_ix_nI (k := j) rfl hj (by decide)) ?_
  refine sk_S.aload_n (i := 0) (dd DX2_coins 8 rfl) rfl rfl ?_
  refine sk_S.geti (dd DX2_coins 9 rfl) rfl fX2_36 se_1 (by decide) rfl ?_
  refine sk_S.iload_n (i := 2) (dd DX2_coins 10 rfl) rfl rfl ?_
  refine sk_S.callV (dd DX2_coins 11 rfl) rfl kX2_92 (cC_gives se_31 se_33 se_35 (by decide) (by decide) hG.i1 hG.s1 hR.2.2) se_31 (by decide) rfl rfl rfl rfl (Nat.le_of_ble_eq_true rfl) (fun r17 h17 q17 => ?_)
  obtain ⟨og, rfl⟩ := q17
  show sk_S _ _ _ _ _ _ (.int _ :: _) _ _
  refine sk_S.iret (dd DX2_coins 12 rfl) rfl rfl ?_
  refine ⟨og.more (by decide), ?_⟩
  unfold coinsG
  rw [hR.tr]
  have e := hR.ak hj
  rw [show h 19 j = g (13 + j) from e]
set_option maxRecDepth 100000 in
set_option maxHeartbeats 1000000 in
theorem lp_fill4 {l : Launch} {E : sk_V} {d : Nat} {h : sk_M} {a : Nat} (ha : sk_e a = (0, 0, 4, [])) {v : Int32} : ∀ (m k : Nat), k + m = 4 → sk_S l E (d + 0) MJ7_fill_53178 5 [some (.ref a), some (.int v), some (.int (nI k)), some (.int 4)] [] (sk_r h a (filN (h a) k v)) (fun r h1 => sk_r h a (filN (h a) 4 v) = h1 ∧ none = r)
  | 0, k, hk => by
    have e : k = 4 := by omega
    subst e
    refine sk_S.iload_n (i := 2) (dd DJ7_fill_53178 5 rfl) rfl rfl ?_
    refine sk_S.iload_n (i := 3) (dd DJ7_fill_53178 6 rfl) rfl rfl ?_
    refine sk_S.icmp_ge (tgt := 20) (dd DJ7_fill_53178 7 rfl) (by decide) (fun c7 => ?_) (fun c7 => absurd (nI_le (a := 4) (by decide) (by decide)) c7)
    refine sk_S.vret (dd DJ7_fill_53178 14 rfl) rfl ?_
    exact ⟨rfl, rfl⟩
  | m + 1, k, hk => by
    refine sk_S.iload_n (i := 2) (dd DJ7_fill_53178 5 rfl) rfl rfl ?_
    refine sk_S.iload_n (i := 3) (dd DJ7_fill_53178 6 rfl) rfl rfl ?_
    refine sk_S.icmp_ge (tgt := 20) (dd DJ7_fill_53178 7 rfl) (by decide) (fun c7 => absurd c7 (by exact nI_ge (b := 4) (by omega) (by decide))) (fun c7 => ?_)
    refine sk_S.aload_n (i := 0) (dd DJ7_fill_53178 8 rfl) rfl rfl ?_
    refine sk_S.iload_n (i := 2) (dd DJ7_fill_53178 9 rfl) rfl rfl ?_
    refine sk_S.iload_n (i := 1) (dd DJ7_fill_53178 10 rfl) rfl rfl ?_
    refine sk_S.iast (dd DJ7_fill_53178 11 rfl) ha (sk_ix_nI (k := k) rfl (by omega) (by decide)) ?_
    refine sk_S.iinc (i := 2) (v := _ + 1) (dd DJ7_fill_53178 12 rfl) rfl rfl rfl ?_
    refine sk_S.goto (tgt := 5) (dd DJ7_fill_53178 13 rfl) (by decide) ?_
    rw [fil_u]
    exact sk_S.L (lp_fill4 ha m (k + 1) (by omega)) (by rw [nI_succ]; rfl)
set_option maxRecDepth 100000 in
set_option maxHeartbeats 1000000 in
theorem cJ_fill4 {l : Launch} {E : sk_V} {d : Nat} {h : sk_M} {a : Nat} {v : Int32} (ha : sk_e a = (0, 0, 4, [])) : sk_K l E (d + 0) MJ7_fill_53178 [.ref a, .int v] h (fun r h1 => sk_r h a (filN (h a) 4 v) = h1 ∧ none = r) := by
  refine sk_K.of (by decide +kernel) (Nat.le_of_ble_eq_true rfl) ?_
  show sk_S l E (d + 0) _ 0 [some (.ref a), some (.int v), none, none] [] h _
  refine sk_S.iconst (v := 0) (dd DJ7_fill_53178 0 rfl) (by decide) ?_
  refine sk_S.istore_n (i := 2) (dd DJ7_fill_53178 1 rfl) rfl (Nat.le_of_ble_eq_true rfl) rfl ?_
  refine sk_S.aload_n (i := 0) (dd DJ7_fill_53178 2 rfl) rfl rfl ?_
  refine sk_S.alen (v := 4) (t := 0) (dd DJ7_fill_53178 3 rfl) ha (by decide) (by decide) ?_
  refine sk_S.istore_n (i := 3) (dd DJ7_fill_53178 4 rfl) rfl (Nat.le_of_ble_eq_true rfl) rfl ?_
  have e := lp_fill4 (l := l) (E := E) (d := d) (h := h) ha (v := v) 4 0 (Nat.zero_add _)
  rw [filN_0, sk_r_self] at e
  exact e
set_option maxRecDepth 100000 in
set_option maxHeartbeats 1000000 in
theorem lp_fill24 {l : Launch} {E : sk_V} {d : Nat} {h : sk_M} {a : Nat} (ha : sk_e a = (0, 0, 24, [])) {v : Int32} : ∀ (m k : Nat), k + m = 24 → sk_S l E (d + 0) MJ7_fill_53178 5 [some (.ref a), some (.int v), some (.int (nI k)), some (.int 24)] [] (sk_r h a (filN (h a) k v)) (fun r h1 => sk_r h a (filN (h a) 24 v) = h1 ∧ none = r)
  | 0, k, hk => by
    have e : k = 24 := by omega
    subst e
    refine sk_S.iload_n (i := 2) (dd DJ7_fill_53178 5 rfl) rfl rfl ?_
    refine sk_S.iload_n (i := 3) (dd DJ7_fill_53178 6 rfl) rfl rfl ?_
    refine sk_S.icmp_ge (tgt := 20) (dd DJ7_fill_53178 7 rfl) (by decide) (fun c7 => ?_) (fun c7 => absurd (nI_le (a := 24) (by decide) (by decide)) c7)
    refine sk_S.vret (dd DJ7_fill_53178 14 rfl) rfl ?_
    exact ⟨rfl, rfl⟩
  | m + 1, k, hk => by
    refine sk_S.iload_n (i := 2) (dd DJ7_fill_53178 5 rfl) rfl rfl ?_
    refine sk_S.iload_n (i := 3) (dd DJ7_fill_53178 6 rfl) rfl rfl ?_
    refine sk_S.icmp_ge (tgt := 20) (dd DJ7_fill_53178 7 rfl) (by decide) (fun c7 => absurd c7 (by exact nI_ge (b := 24) (by omega) (by decide))) (fun c7 => ?_)
    refine sk_S.aload_n (i := 0) (dd DJ7_fill_53178 8 rfl) rfl rfl ?_
    refine sk_S.iload_n (i := 2) (dd DJ7_fill_53178 9 rfl) rfl rfl ?_
    refine sk_S.iload_n (i := 1) (dd DJ7_fill_53178 10 rfl) rfl rfl ?_
    refine sk_S.iast (dd DJ7_fill_53178 11 rfl) ha (sk_ix_nI (k := k) rfl (by omega) (by decide)) ?_
    refine sk_S.iinc (i := 2) (v := _ + 1) (dd DJ7_fill_53178 12 rfl) rfl rfl rfl ?_
    refine sk_S.goto (tgt := 5) (dd DJ7_fill_53178 13 rfl) (by decide) ?_
    rw [fil_u]
    exact sk_S.L (lp_fill24 ha m (k + 1) (by omega)) (by rw [nI_succ]; rfl)
set_option maxRecDepth 100000 in
set_option maxHeartbeats 1000000 in
theorem cJ_fill24 {l : Launch} {E : sk_V} {d : Nat} {h : sk_M} {a : Nat} {v : Int32} (ha : sk_e a = (0, 0, 24, [])) : sk_K l E (d + 0) MJ7_fill_53178 [.ref a, .int v] h (fun r h1 => sk_r h a (filN (h a) 24 v) = h1 ∧ none = r) := by
  refine sk_K.of (by decide +kernel) (Nat.le_of_ble_eq_true rfl) ?_
  show sk_S l E (d + 0) _ 0 [some (.ref a), some (.int v), none, none] [] h _
  refine sk_S.iconst (v := 0) (dd DJ7_fill_53178 0 rfl) (by decide) ?_
  refine sk_S.istore_n (i := 2) (dd DJ7_fill_53178 1 rfl) rfl (Nat.le_of_ble_eq_true rfl) rfl ?_
  refine sk_S.aload_n (i := 0) (dd DJ7_fill_53178 2 rfl) rfl rfl ?_
  refine sk_S.alen (v := 24) (t := 0) (dd DJ7_fill_53178 3 rfl) ha (by decide) (by decide) ?_
  refine sk_S.istore_n (i := 3) (dd DJ7_fill_53178 4 rfl) rfl (Nat.le_of_ble_eq_true rfl) rfl ?_
  have e := lp_fill24 (l := l) (E := E) (d := d) (h := h) ha (v := v) 24 0 (Nat.zero_add _)
  rw [filN_0, sk_r_self] at e
  exact e
set_option maxRecDepth 100000 in
set_option maxHeartbeats 1000000 in
theorem cQ_promise {l : Launch} {E : sk_V} {d : Nat} {h : sk_M} {g : Nat → Int32} {j : Nat} {n : Int32} (hj : j < 4) (hn : inN n 100) (hR : RQ 1 18 h g) (hG : RG g) : sk_K l E (d + 5) MX2_promise [.ref 1, .int (nI j), .int n] h (fun r h1 => sk_o [1, 18, 34, 35] h h1 ∧ RQ 1 18 h1 (sellR g j n) ∧ some (.int (n * coinsG g j (g (9 + j)))) = r) := by
  refine sk_K.of (by decide +kernel) (Nat.le_of_ble_eq_true rfl) ?_
  show sk_S l E (d + 5) _ 0 [some (.ref 1), some (.int (nI j)), some (.int n), none] [] h _
  refine sk_S.iload_n (i := 2) (dd DX2_promise 0 rfl) rfl rfl ?_
  refine sk_S.aload_n (i := 0) (dd DX2_promise 1 rfl) rfl rfl ?_
  refine sk_S.iload_n (i := 1) (dd DX2_promise 2 rfl) rfl rfl ?_
  refine sk_S.aload_n (i := 0) (dd DX2_promise 3 rfl) rfl rfl ?_
  refine sk_S.getr (dd DX2_promise 4 rfl) rfl fX2_9 se_1 (by decide) rfl ?_
  refine sk_S.iload_n (i := 1) (dd DX2_promise 5 rfl) rfl rfl ?_
  refine sk_S.iald (dd DX2_promise 6 rfl) se_18 (sk_ix_nI (k := j) rfl hj (by decide)) ?_
  refine sk_S.callV (dd DX2_promise 7 rfl) rfl kX2_103 (cQ_coins hj hR hG) se_1 (by decide) rfl rfl rfl rfl (Nat.le_of_ble_eq_true rfl) (fun r9 h9 q9 => ?_)
  obtain ⟨og, rfl⟩ := q9
  rw [show h 18 j = g (9 + j) from hR.so hj]
  show sk_S _ _ _ _ _ _ (.int _ :: _) _ _
  refine sk_S.imul (dd DX2_promise 8 rfl) ?_
  refine sk_S.istore_n (i := 3) (dd DX2_promise 9 rfl) rfl (Nat.le_of_ble_eq_true rfl) rfl ?_
  refine sk_S.aload_n (i := 0) (dd DX2_promise 10 rfl) rfl rfl ?_
  refine sk_S.ldc (dd DX2_promise 11 rfl) rfl cnX2_107 ?_
  refine sk_S.aload_n (i := 0) (dd DX2_promise 12 rfl) rfl rfl ?_
  refine sk_S.geti (dd DX2_promise 13 rfl) rfl fX2_73 se_1 (by decide) rfl ?_
  refine sk_S.iload_n (i := 3) (dd DX2_promise 14 rfl) rfl rfl ?_
  refine sk_S.iadd (dd DX2_promise 15 rfl) ?_
  refine sk_S.mmin (dd DX2_promise 16 rfl) rfl blX2_108 mm_min_s mm_i mm_min_c rfl (Nat.le_of_ble_eq_true rfl) ?_
  refine sk_S.putf (dd DX2_promise 17 rfl) rfl pX2_73 se_1 (by decide) rfl rfl rfl ?_
  refine sk_S.aload_n (i := 0) (dd DX2_promise 18 rfl) rfl rfl ?_
  refine sk_S.getr (dd DX2_promise 19 rfl) rfl fX2_9 se_1 (by decide) rfl ?_
  refine sk_S.iload_n (i := 1) (dd DX2_promise 20 rfl) rfl rfl ?_
  refine sk_S.dup2 (dd DX2_promise 21 rfl) rfl rfl ?_
  refine sk_S.iald (dd DX2_promise 22 rfl) se_18 (sk_ix_nI (k := j) rfl hj (by decide)) ?_
  refine sk_S.iload_n (i := 2) (dd DX2_promise 23 rfl) rfl rfl ?_
  refine sk_S.iadd (dd DX2_promise 24 rfl) ?_
  refine sk_S.iast (dd DX2_promise 25 rfl) se_18 (sk_ix_nI (k := j) rfl hj (by decide)) ?_
  refine sk_S.iload_n (i := 3) (dd DX2_promise 26 rfl) rfl rfl ?_
  refine sk_S.iret (dd DX2_promise 27 rfl) rfl rfl ?_
  have hR1 : RQ 1 18 h9 g := hR.o og (by decide)
  have k1 := (hR1.u_q (p := 4) (x := (heldV (g 4 + (n * coinsG g j (g (9 + j)))) (-99999) 99999)) (by decide)).u_so (x := g (9 + j) + n) hj
  have kk : ∀ A B : Int32, A = (heldV (g 4 + (n * coinsG g j (g (9 + j)))) (-99999) 99999) → B = g (9 + j) + n → RQ 1 18 (sk_u (sk_u h9 1 9 A) 18 j B) (sellR g j n) := by
    intro A B ha hb
    rw [ha, hb]
    exact k1
  refine ⟨((og.more (by decide)).u (by decide)).u (by decide), kk _ _ ?_ ?_, rfl⟩
  · rw [hR1.pu]
    exact mn_hel (paid_lo hG.pu hn coins_N)
  · rw [sk_u_at, if_neg (by decide), hR1.so hj]
set_option maxRecDepth 100000 in
set_option maxHeartbeats 1000000 in
theorem tl_settle {l : Launch} {E : sk_V} {d : Nat} {h : sk_M} {g : Nat → Int32} (hR : RQ 1 18 h g) (hG : RG g) {k : sk_M} {x2 x3 : Option Value} (ho : sk_o [1, 18, 34, 35] h k) (hK : RQ 1 18 k (upd (soldK g 4) 4 (purB g (boN g)))) : sk_S l E (d + 6) MX2_settle 139 [some (.ref 1), some (.int (allF g 4)), x2, x3] [] k (fun r h1 => sk_o [1, 18, 34, 35] h h1 ∧ RQ 1 18 h1 (talR g) ∧ some (.int (allF g 4)) = r) := by
  refine sk_S.aload_n (i := 0) (dd DX2_settle_p1 80 rfl) rfl rfl ?_
  refine sk_S.ldc (dd DX2_settle_p1 81 rfl) rfl cnX2_107 ?_
  refine sk_S.aload_n (i := 0) (dd DX2_settle_p1 82 rfl) rfl rfl ?_
  refine sk_S.geti (dd DX2_settle_p1 83 rfl) rfl fX2_76 se_1 (by decide) rfl ?_
  refine sk_S.iload_n (i := 1) (dd DX2_settle_p1 84 rfl) rfl rfl ?_
  refine sk_S.iadd (dd DX2_settle_p1 85 rfl) ?_
  refine sk_S.mmin (dd DX2_settle_p1 86 rfl) rfl blX2_108 mm_min_s mm_i mm_min_c rfl (Nat.le_of_ble_eq_true rfl) ?_
  refine sk_S.putf (dd DX2_settle_p1 87 rfl) rfl pX2_76 se_1 (by decide) rfl rfl rfl ?_
  refine sk_S.aload_n (i := 0) (dd DX2_settle_p1 88 rfl) rfl rfl ?_
  refine sk_S.iload_n (i := 1) (dd DX2_settle_p1 89 rfl) rfl rfl ?_
  refine sk_S.if_ne (tgt := 168) (dd DX2_settle_p1 90 rfl) (by decide) (fun c156 => ?_) (fun c156 => ?_)
  · refine sk_S.aload_n (i := 0) (dd DX2_settle_p1 96 rfl) rfl rfl ?_
    refine sk_S.geti (dd DX2_settle_p1 97 rfl) rfl fX2_36 se_1 (by decide) rfl ?_
    refine sk_S.iconst (v := 2) (dd DX2_settle_p1 98 rfl) (by decide) ?_
    refine sk_S.isub (dd DX2_settle_p1 99 rfl) ?_
    refine sk_S.iconst (v := 0) (dd DX2_settle_p2 0 rfl) (by decide) ?_
    refine sk_S.bipush (v := 99) (dd DX2_settle_p2 1 rfl) (by decide) ?_
    refine sk_S.callS (dd DX2_settle_p2 2 rfl) rfl kX2_121 (cC_held (by decide)) rfl rfl rfl (Nat.le_of_ble_eq_true rfl) (fun r177 h177 q177 => ?_)
    obtain ⟨rfl, rfl⟩ := q177
    show sk_S _ _ _ _ _ _ (.int _ :: _) _ _
    refine sk_S.putf (dd DX2_settle_p2 3 rfl) rfl pX2_36 se_1 (by decide) rfl rfl rfl ?_
    refine sk_S.aload_n (i := 0) (dd DX2_settle_p2 4 rfl) rfl rfl ?_
    refine sk_S.dup (dd DX2_settle_p2 5 rfl) rfl ?_
    refine sk_S.geti (dd DX2_settle_p2 6 rfl) rfl fX2_70 se_1 (by decide) rfl ?_
    refine sk_S.iconst (v := 1) (dd DX2_settle_p2 7 rfl) (by decide) ?_
    refine sk_S.iadd (dd DX2_settle_p2 8 rfl) ?_
    refine sk_S.putf (dd DX2_settle_p2 9 rfl) rfl pX2_70 se_1 (by decide) rfl rfl rfl ?_
    refine sk_S.iload_n (i := 1) (dd DX2_settle_p2 10 rfl) rfl rfl ?_
    refine sk_S.iret (dd DX2_settle_p2 11 rfl) rfl rfl ?_
    have k1 := ((hK.u_q (p := 5) (x := heldV (g 5 + allF g 4) 0 99999) (by decide)).u_q (p := 6) (x := heldV (g 6 + (if allF g 4 = 0 then 1 else -2)) 0 99) (by decide)).u_q (p := 0) (x := g 0 + 1) (by decide)
    have kk : ∀ A B C : Int32, A = heldV (g 5 + allF g 4) 0 99999 → B = heldV (g 6 + (if allF g 4 = 0 then 1 else -2)) 0 99 → C = g 0 + 1 → RQ 1 18 (sk_u (sk_u (sk_u k 1 10 A) 1 11 B) 1 8 C) (talR g) := by
      intro A B C ha hb hc
      rw [ha, hb, hc]
      exact k1
    refine ⟨((ho.u (by decide)).u (by decide)).u (by decide), kk _ _ _ ?_ ?_ ?_, rfl⟩
    · rw [show k 1 10 = g 5 from hK.ow.trans (by rw [upd_ne (by decide), soldK_no (by decide)])]
      exact mn_hel0 (owed_lo hG)
    · rw [sk_u_at, if_pos rfl, if_neg (by decide), show k 1 11 = g 6 from hK.tr.trans (by rw [upd_ne (by decide), soldK_no (by decide)]), if_neg c156]
      rw [Int32.sub_eq_add_neg]
    · rw [sk_u_at, if_pos rfl, if_neg (by decide), sk_u_at, if_pos rfl, if_neg (by decide), show k 1 8 = g 0 from hK.da.trans (by rw [upd_ne (by decide), soldK_no (by decide)])]
  · refine sk_S.aload_n (i := 0) (dd DX2_settle_p1 91 rfl) rfl rfl ?_
    refine sk_S.geti (dd DX2_settle_p1 92 rfl) rfl fX2_36 se_1 (by decide) rfl ?_
    refine sk_S.iconst (v := 1) (dd DX2_settle_p1 93 rfl) (by decide) ?_
    refine sk_S.iadd (dd DX2_settle_p1 94 rfl) ?_
    refine sk_S.goto (tgt := 174) (dd DX2_settle_p1 95 rfl) (by decide) ?_
    refine sk_S.iconst (v := 0) (dd DX2_settle_p2 0 rfl) (by decide) ?_
    refine sk_S.bipush (v := 99) (dd DX2_settle_p2 1 rfl) (by decide) ?_
    refine sk_S.callS (dd DX2_settle_p2 2 rfl) rfl kX2_121 (cC_held (by decide)) rfl rfl rfl (Nat.le_of_ble_eq_true rfl) (fun r177 h177 q177 => ?_)
    obtain ⟨rfl, rfl⟩ := q177
    show sk_S _ _ _ _ _ _ (.int _ :: _) _ _
    refine sk_S.putf (dd DX2_settle_p2 3 rfl) rfl pX2_36 se_1 (by decide) rfl rfl rfl ?_
    refine sk_S.aload_n (i := 0) (dd DX2_settle_p2 4 rfl) rfl rfl ?_
    refine sk_S.dup (dd DX2_settle_p2 5 rfl) rfl ?_
    refine sk_S.geti (dd DX2_settle_p2 6 rfl) rfl fX2_70 se_1 (by decide) rfl ?_
    refine sk_S.iconst (v := 1) (dd DX2_settle_p2 7 rfl) (by decide) ?_
    refine sk_S.iadd (dd DX2_settle_p2 8 rfl) ?_
    refine sk_S.putf (dd DX2_settle_p2 9 rfl) rfl pX2_70 se_1 (by decide) rfl rfl rfl ?_
    refine sk_S.iload_n (i := 1) (dd DX2_settle_p2 10 rfl) rfl rfl ?_
    refine sk_S.iret (dd DX2_settle_p2 11 rfl) rfl rfl ?_
    have k1 := ((hK.u_q (p := 5) (x := heldV (g 5 + allF g 4) 0 99999) (by decide)).u_q (p := 6) (x := heldV (g 6 + (if allF g 4 = 0 then 1 else -2)) 0 99) (by decide)).u_q (p := 0) (x := g 0 + 1) (by decide)
    have kk : ∀ A B C : Int32, A = heldV (g 5 + allF g 4) 0 99999 → B = heldV (g 6 + (if allF g 4 = 0 then 1 else -2)) 0 99 → C = g 0 + 1 → RQ 1 18 (sk_u (sk_u (sk_u k 1 10 A) 1 11 B) 1 8 C) (talR g) := by
      intro A B C ha hb hc
      rw [ha, hb, hc]
      exact k1
    refine ⟨((ho.u (by decide)).u (by decide)).u (by decide), kk _ _ _ ?_ ?_ ?_, rfl⟩
    · rw [show k 1 10 = g 5 from hK.ow.trans (by rw [upd_ne (by decide), soldK_no (by decide)])]
      exact mn_hel0 (owed_lo hG)
    · rw [sk_u_at, if_pos rfl, if_neg (by decide), show k 1 11 = g 6 from hK.tr.trans (by rw [upd_ne (by decide), soldK_no (by decide)]), if_pos c156]
    · rw [sk_u_at, if_pos rfl, if_neg (by decide), sk_u_at, if_pos rfl, if_neg (by decide), show k 1 8 = g 0 from hK.da.trans (by rw [upd_ne (by decide), soldK_no (by decide)])]
set_option maxRecDepth 100000 in
set_option maxHeartbeats 1000000 in
theorem lp_settle2 {l : Launch} {E : sk_V} {d : Nat} {h : sk_M} {g : Nat → Int32} (hR : RQ 1 18 h g) (hG : RG g) : ∀ (m j : Nat) (k : sk_M) (x3 : Option Value), j + m = boN g → sk_o [1, 18, 34, 35] h k → RQ 1 18 k (upd (soldK g 4) 4 (purB g j)) → sk_S l E (d + 6) MX2_settle 84 [some (.ref 1), some (.int (allF g 4)), some (.int (nI j)), x3] [] k (fun r h1 => sk_o [1, 18, 34, 35] h h1 ∧ RQ 1 18 h1 (talR g) ∧ some (.int (allF g 4)) = r)
  | 0, j, k, x3, hj, ho, hK => by
    have ebK : boI (upd (soldK g 4) 4 (purB g j)) := boI_cg (by rw [upd_ne (by decide), soldK_no (by decide)]) hG.b
    have eb : k 1 6 = nI (boN g) := hK.bo.trans (by rw [upd_ne (by decide), soldK_no (by decide)]; exact hG.b.1)
    have hb6 := hG.b.2
    have hjn : j = boN g := by omega
    refine sk_S.iload_n (i := 2) (dd DX2_settle_p1 53 rfl) rfl rfl ?_
    refine sk_S.aload_n (i := 0) (dd DX2_settle_p1 54 rfl) rfl rfl ?_
    refine sk_S.geti (dd DX2_settle_p1 55 rfl) rfl fX2_64 se_1 (by decide) rfl ?_
    refine sk_S.icmp_ge (tgt := 139) (dd DX2_settle_p1 56 rfl) (by decide) (fun c89 => ?_) (fun c89 => absurd (by rw [eb, hjn]; exact Int32.le_refl _) c89)
    rw [hjn] at hK
    exact tl_settle hR hG ho hK
  | m + 1, j, k, x3, hj, ho, hK => by
    have ebK : boI (upd (soldK g 4) 4 (purB g j)) := boI_cg (by rw [upd_ne (by decide), soldK_no (by decide)]) hG.b
    have eb : k 1 6 = nI (boN g) := hK.bo.trans (by rw [upd_ne (by decide), soldK_no (by decide)]; exact hG.b.1)
    have hb6 := hG.b.2
    have hj6 : j < 6 := by omega
    have hl : k (24 + j) 2 = g (17 + 3 * j + 2) := (hK.b2 hj6).trans (by rw [upd_ne (by omega), soldK_no (by omega)])
    have hk0 : k (24 + j) 0 = g (17 + 3 * j) := (hK.b0 hj6).trans (by rw [upd_ne (by omega), soldK_no (by omega)])
    have hpu : k 1 9 = purB g j := hK.pu.trans upd_eq
    have hda : k 1 8 = g 0 := hK.da.trans (by rw [upd_ne (by decide), soldK_no (by decide)])
    
    refine sk_S.iload_n (i := 2) (dd DX2_settle_p1 53 rfl) rfl rfl ?_
    refine sk_S.aload_n (i := 0) (dd DX2_settle_p1 54 rfl) rfl rfl ?_
    refine sk_S.geti (dd DX2_settle_p1 55 rfl) rfl fX2_64 se_1 (by decide) rfl ?_
    refine sk_S.icmp_ge (tgt := 139) (dd DX2_settle_p1 56 rfl) (by decide) (fun c89 => absurd c89 (by rw [eb]; exact nI_ge (by omega) (by omega))) (fun c89 => ?_)
    refine sk_S.aload_n (i := 0) (dd DX2_settle_p1 57 rfl) rfl rfl ?_
    refine sk_S.getr (dd DX2_settle_p1 58 rfl) rfl fX2_20 se_1 (by decide) rfl ?_
    refine sk_S.iload_n (i := 2) (dd DX2_settle_p1 59 rfl) rfl rfl ?_
    refine sk_S.aald (dd DX2_settle_p1 60 rfl) se_20 rfl (sk_ix_nI (k := j) rfl hj6 (by decide)) (rf_fleet hj6) ?_
    refine sk_S.geti (dd DX2_settle_p1 61 rfl) rfl fX2_85 (se_bt hj6) (by decide) rfl ?_
    refine sk_S.if_ne (tgt := 133) (dd DX2_settle_p1 62 rfl) (by decide) (fun c101 => ?_) (fun c101 => ?_)
    · refine sk_S.iinc (i := 2) (v := _ + 1) (dd DX2_settle_p1 78 rfl) rfl rfl rfl ?_
      refine sk_S.goto (tgt := 84) (dd DX2_settle_p1 79 rfl) (by decide) ?_
      have hK2 : RQ 1 18 k (upd (soldK g 4) 4 (purB g (j + 1))) := by rw [purB_0 hG (lost_01 hG hj6 (fun e => c101 (hl.trans e)))]; exact hK
      exact sk_S.L (lp_settle2 hR hG m (j + 1) k x3 (by omega) ho hK2) (by rw [nI_succ]; rfl)
    · refine sk_S.aload_n (i := 0) (dd DX2_settle_p1 63 rfl) rfl rfl ?_
      refine sk_S.aload_n (i := 0) (dd DX2_settle_p1 64 rfl) rfl rfl ?_
      refine sk_S.geti (dd DX2_settle_p1 65 rfl) rfl fX2_73 se_1 (by decide) rfl ?_
      refine sk_S.aload_n (i := 0) (dd DX2_settle_p1 66 rfl) rfl rfl ?_
      refine sk_S.getr (dd DX2_settle_p1 67 rfl) rfl fX2_20 se_1 (by decide) rfl ?_
      refine sk_S.iload_n (i := 2) (dd DX2_settle_p1 68 rfl) rfl rfl ?_
      refine sk_S.aald (dd DX2_settle_p1 69 rfl) se_20 rfl (sk_ix_nI (k := j) rfl hj6 (by decide)) (rf_fleet hj6) ?_
      refine sk_S.aload_n (i := 0) (dd DX2_settle_p1 70 rfl) rfl rfl ?_
      refine sk_S.geti (dd DX2_settle_p1 71 rfl) rfl fX2_70 se_1 (by decide) rfl ?_
      refine sk_S.callV (dd DX2_settle_p1 72 rfl) rfl kX2_117 (cC_eats (se_bt hj6)) (se_bt hj6) (by decide) rfl rfl rfl rfl (Nat.le_of_ble_eq_true rfl) (fun r119 h119 q119 => ?_)
      obtain ⟨rfl, rfl⟩ := q119
      show sk_S _ _ _ _ _ _ (.int _ :: _) _ _
      refine sk_S.isub (dd DX2_settle_p1 73 rfl) ?_
      refine sk_S.ldc (dd DX2_settle_p1 74 rfl) rfl cnX2_116 ?_
      refine sk_S.ldc (dd DX2_settle_p1 75 rfl) rfl cnX2_107 ?_
      refine sk_S.callS (dd DX2_settle_p1 76 rfl) rfl kX2_121 (cC_held (by decide)) rfl rfl rfl (Nat.le_of_ble_eq_true rfl) (fun r127 h127 q127 => ?_)
      obtain ⟨rfl, rfl⟩ := q127
      show sk_S _ _ _ _ _ _ (.int _ :: _) _ _
      refine sk_S.putf (dd DX2_settle_p1 77 rfl) rfl pX2_73 se_1 (by decide) rfl rfl rfl ?_
      refine sk_S.iinc (i := 2) (v := _ + 1) (dd DX2_settle_p1 78 rfl) rfl rfl rfl ?_
      refine sk_S.goto (tgt := 84) (dd DX2_settle_p1 79 rfl) (by decide) ?_
      have hK2 : ∀ A : Int32, A = purB g (j + 1) → RQ 1 18 (sk_u k 1 9 A) (upd (soldK g 4) 4 (purB g (j + 1))) := by
        intro A ha
        rw [ha]
        have e := hK.u_q (p := 4) (x := purB g (j + 1)) (by decide)
        rw [upd_upd] at e
        exact e
      refine sk_S.L (lp_settle2 hR hG m (j + 1) _ x3 (by omega) (ho.u (by decide)) (hK2 _ ?_)) (by rw [nI_succ]; rfl)
      rw [hpu, hk0, hda, purB_1 (fun e => absurd ((hl.symm.trans c101).symm.trans e) (by decide))]
set_option maxRecDepth 100000 in
set_option maxHeartbeats 1000000 in
theorem lp_settle1 {l : Launch} {E : sk_V} {d : Nat} {h : sk_M} {g : Nat → Int32} (hR : RQ 1 18 h g) (hG : RG g) : ∀ (m j : Nat) (k : sk_M) (x3 : Option Value), j + m = 4 → sk_o [1, 18, 34, 35] h k → RQ 1 18 k (upd g 4 (purF g j)) → sk_S l E (d + 6) MX2_settle 4 [some (.ref 1), some (.int (allF g j)), some (.int (nI j)), x3] [] k (fun r h1 => sk_o [1, 18, 34, 35] h h1 ∧ RQ 1 18 h1 (talR g) ∧ some (.int (allF g 4)) = r)
  | 0, j, k, x3, hj, ho, hK => by
    have hj4 : j = 4 := by omega
    subst hj4
    refine sk_S.iload_n (i := 2) (dd DX2_settle_p1 4 rfl) rfl rfl ?_
    refine sk_S.iconst (v := 4) (dd DX2_settle_p1 5 rfl) (by decide) ?_
    refine sk_S.icmp_ge (tgt := 74) (dd DX2_settle_p1 6 rfl) (by decide) (fun c6 => ?_) (fun c6 => absurd (nI_le (a := 4) (by decide) (by decide)) c6)
    refine sk_S.aload_n (i := 0) (dd DX2_settle_p1 47 rfl) rfl rfl ?_
    refine sk_S.getr (dd DX2_settle_p1 48 rfl) rfl fX2_9 se_1 (by decide) rfl ?_
    refine sk_S.iconst (v := 0) (dd DX2_settle_p1 49 rfl) (by decide) ?_
    refine sk_S.callS (dd DX2_settle_p1 50 rfl) rfl kX2_43 (cJ_fill4 se_18) rfl rfl rfl (Nat.le_of_ble_eq_true rfl) (fun r79 h79 q79 => ?_)
    obtain ⟨rfl, rfl⟩ := q79
    show sk_S _ _ _ _ 82 _ _ _ _
    refine sk_S.iconst (v := 0) (dd DX2_settle_p1 51 rfl) (by decide) ?_
    refine sk_S.istore_n (i := 2) (dd DX2_settle_p1 52 rfl) rfl (Nat.le_of_ble_eq_true rfl) rfl ?_
    have e := hK.fil 4 (by decide)
    rw [soldK_up] at e
    exact lp_settle2 hR hG (boN g) 0 _ _ (Nat.zero_add _) (ho.r (by decide)) e
  | m + 1, j, k, x3, hj, ho, hK => by
    have hG4 : RG (upd g 4 (purF g j)) := hG.u4 (purF_rg hG j)
    have hj4 : j < 4 := by omega
    have es : k 18 j = g (9 + j) := (hK.so hj4).trans (upd_ne (by omega))
    have ew : k 1 7 = g 3 := hK.wa.trans (upd_ne (by decide))
    have ed : k 1 8 = g 0 := hK.da.trans (upd_ne (by decide))
    have hles : (if 0 < k 18 j - catchG (upd g 4 (purF g j)) (nI j) (k 18 j) (k 1 7) (k 1 8) then k 18 j - catchG (upd g 4 (purF g j)) (nI j) (k 18 j) (k 1 7) (k 1 8) else 0) = lessG g j := by rw [mx_0, catchG_u4, es, ew, ed]; rfl
    
    refine sk_S.iload_n (i := 2) (dd DX2_settle_p1 4 rfl) rfl rfl ?_
    refine sk_S.iconst (v := 4) (dd DX2_settle_p1 5 rfl) (by decide) ?_
    refine sk_S.icmp_ge (tgt := 74) (dd DX2_settle_p1 6 rfl) (by decide) (fun c6 => absurd c6 (by exact nI_ge (b := 4) (by omega) (by decide))) (fun c6 => ?_)
    refine sk_S.iconst (v := 0) (dd DX2_settle_p1 7 rfl) (by decide) ?_
    refine sk_S.aload_n (i := 0) (dd DX2_settle_p1 8 rfl) rfl rfl ?_
    refine sk_S.getr (dd DX2_settle_p1 9 rfl) rfl fX2_9 se_1 (by decide) rfl ?_
    refine sk_S.iload_n (i := 2) (dd DX2_settle_p1 10 rfl) rfl rfl ?_
    refine sk_S.iald (dd DX2_settle_p1 11 rfl) se_18 (sk_ix_nI (k := j) rfl hj4 (by decide)) ?_
    refine sk_S.aload_n (i := 0) (dd DX2_settle_p1 12 rfl) rfl rfl ?_
    refine sk_S.iload_n (i := 2) (dd DX2_settle_p1 13 rfl) rfl rfl ?_
    refine sk_S.aload_n (i := 0) (dd DX2_settle_p1 14 rfl) rfl rfl ?_
    refine sk_S.getr (dd DX2_settle_p1 15 rfl) rfl fX2_9 se_1 (by decide) rfl ?_
    refine sk_S.iload_n (i := 2) (dd DX2_settle_p1 16 rfl) rfl rfl ?_
    refine sk_S.iald (dd DX2_settle_p1 17 rfl) se_18 (sk_ix_nI (k := j) rfl hj4 (by decide)) ?_
    refine sk_S.aload_n (i := 0) (dd DX2_settle_p1 18 rfl) rfl rfl ?_
    refine sk_S.geti (dd DX2_settle_p1 19 rfl) rfl fX2_67 se_1 (by decide) rfl ?_
    refine sk_S.aload_n (i := 0) (dd DX2_settle_p1 20 rfl) rfl rfl ?_
    refine sk_S.geti (dd DX2_settle_p1 21 rfl) rfl fX2_70 se_1 (by decide) rfl ?_
    refine sk_S.callV (dd DX2_settle_p1 22 rfl) rfl kX2_99 (cQ_caught hK hG4) se_1 (by decide) rfl rfl rfl rfl (Nat.le_of_ble_eq_true rfl) (fun r32 h32 q32 => ?_)
    obtain ⟨o1, rfl⟩ := q32
    have hK1 : RQ 1 18 h32 (upd g 4 (purF g j)) := hK.o o1 (by decide)
    show sk_S _ _ _ _ _ _ (.int _ :: _) _ _
    refine sk_S.isub (dd DX2_settle_p1 23 rfl) ?_
    refine sk_S.mmax (dd DX2_settle_p1 24 rfl) rfl blX2_113 mm_max_s mm_i mm_max_c rfl (Nat.le_of_ble_eq_true rfl) ?_
    refine sk_S.istore_n (i := 3) (dd DX2_settle_p1 25 rfl) rfl (Nat.le_of_ble_eq_true rfl) rfl ?_
    refine sk_S.aload_n (i := 0) (dd DX2_settle_p1 26 rfl) rfl rfl ?_
    refine sk_S.ldc (dd DX2_settle_p1 27 rfl) rfl cnX2_116 ?_
    refine sk_S.aload_n (i := 0) (dd DX2_settle_p1 28 rfl) rfl rfl ?_
    refine sk_S.geti (dd DX2_settle_p1 29 rfl) rfl fX2_73 se_1 (by decide) rfl ?_
    refine sk_S.iconst (v := 2) (dd DX2_settle_p1 30 rfl) (by decide) ?_
    refine sk_S.iload_n (i := 3) (dd DX2_settle_p1 31 rfl) rfl rfl ?_
    refine sk_S.imul (dd DX2_settle_p1 32 rfl) ?_
    refine sk_S.aload_n (i := 0) (dd DX2_settle_p1 33 rfl) rfl rfl ?_
    refine sk_S.getr (dd DX2_settle_p1 34 rfl) rfl fX2_15 se_1 (by decide) rfl ?_
    refine sk_S.iload_n (i := 2) (dd DX2_settle_p1 35 rfl) rfl rfl ?_
    refine sk_S.iald (dd DX2_settle_p1 36 rfl) se_19 (sk_ix_nI (k := j) rfl hj4 (by decide)) ?_
    refine sk_S.imul (dd DX2_settle_p1 37 rfl) ?_
    refine sk_S.isub (dd DX2_settle_p1 38 rfl) ?_
    refine sk_S.mmax (dd DX2_settle_p1 39 rfl) rfl blX2_113 mm_max_s mm_i mm_max_c rfl (Nat.le_of_ble_eq_true rfl) ?_
    refine sk_S.putf (dd DX2_settle_p1 40 rfl) rfl pX2_73 se_1 (by decide) rfl rfl rfl ?_
    refine sk_S.iload_n (i := 1) (dd DX2_settle_p1 41 rfl) rfl rfl ?_
    refine sk_S.iload_n (i := 3) (dd DX2_settle_p1 42 rfl) rfl rfl ?_
    refine sk_S.iadd (dd DX2_settle_p1 43 rfl) ?_
    refine sk_S.istore_n (i := 1) (dd DX2_settle_p1 44 rfl) rfl (Nat.le_of_ble_eq_true rfl) rfl ?_
    refine sk_S.iinc (i := 2) (v := _ + 1) (dd DX2_settle_p1 45 rfl) rfl rfl rfl ?_
    refine sk_S.goto (tgt := 4) (dd DX2_settle_p1 46 rfl) (by decide) ?_
    have hK2 : ∀ A : Int32, A = purF g (j + 1) → RQ 1 18 (sk_u h32 1 9 A) (upd g 4 (purF g (j + 1))) := by
      intro A ha
      rw [ha]
      have e := hK1.u_q (p := 4) (x := purF g (j + 1)) (by decide)
      rw [upd_upd] at e
      exact e
    refine sk_S.L (lp_settle1 hR hG m (j + 1) _ _ (by omega) ((ho.tr (o1.more (by decide))).u (by decide)) (hK2 _ ?_)) (by rw [hles, nI_succ]; rfl)
    rw [show h32 1 9 = purF g j from hK1.pu.trans upd_eq, show h32 19 j = g (13 + j) from (hK1.ak hj4).trans (upd_ne (by omega)), hles]
    obtain ⟨m2, hm2, e2⟩ := fine_N (lessG_N hG hj4) (hG.ak hj4)
    exact mx_hel (pur_hi (purF_rg hG j) e2 (by omega))
set_option maxRecDepth 100000 in
set_option maxHeartbeats 1000000 in
theorem cQ_settle {l : Launch} {E : sk_V} {d : Nat} {h : sk_M} {g : Nat → Int32} (hR : RQ 1 18 h g) (hG : RG g) : sk_K l E (d + 6) MX2_settle [.ref 1] h (fun r h1 => sk_o [1, 18, 34, 35] h h1 ∧ RQ 1 18 h1 (talR g) ∧ some (.int (allF g 4)) = r) := by
  refine sk_K.of (by decide +kernel) (Nat.le_of_ble_eq_true rfl) ?_
  show sk_S l E (d + 6) _ 0 [some (.ref 1), none, none, none] [] h _
  refine sk_S.iconst (v := 0) (dd DX2_settle_p1 0 rfl) (by decide) ?_
  refine sk_S.istore_n (i := 1) (dd DX2_settle_p1 1 rfl) rfl (Nat.le_of_ble_eq_true rfl) rfl ?_
  refine sk_S.iconst (v := 0) (dd DX2_settle_p1 2 rfl) (by decide) ?_
  refine sk_S.istore_n (i := 2) (dd DX2_settle_p1 3 rfl) rfl (Nat.le_of_ble_eq_true rfl) rfl ?_
  have e : RQ 1 18 h (upd g 4 (purF g 0)) := by
    rw [show upd g 4 (purF g 0) = g from upd_self]
    exact hR
  exact lp_settle1 hR hG 4 0 h none (by decide) sk_o.rf e
set_option maxRecDepth 100000 in
set_option maxHeartbeats 1000000 in
theorem cQ_dayByDraws {l : Launch} {E : sk_V} {d : Nat} {h : sk_M} {g : Nat → Int32} (hR : RQ 1 18 h g) (hG : RG g) : sk_K l E (d + 7) MX2_dayByDraws [.ref 1] h (fun r h1 => sk_o [1, 18, 34, 35] h h1 ∧ RQ 1 18 h1 (talR (drR g)) ∧ some (.int (allF (drR g) 4)) = r) := by
  refine sk_K.of (by decide +kernel) (Nat.le_of_ble_eq_true rfl) ?_
  show sk_S l E (d + 7) _ 0 [some (.ref 1), none, none] [] h _
  refine sk_S.aload_n (i := 0) (dd DX2_dayByDraws 0 rfl) rfl rfl ?_
  refine sk_S.callV (dd DX2_dayByDraws 1 rfl) rfl kX2_124 (cC_draw hR.zz) se_1 (by decide) rfl rfl rfl rfl (Nat.le_of_ble_eq_true rfl) (fun r1 h1 q1 => ?_)
  obtain ⟨rfl, rfl⟩ := q1
  have hR1 : RQ 1 18 (sk_u h 1 14 (zN (g 1))) (upd g 1 (zN (g 1))) := hR.u_q (p := 1) (by decide)
  show sk_S _ _ _ _ _ _ (.int _ :: _) _ _
  refine sk_S.iconst (v := 4) (dd DX2_dayByDraws 2 rfl) (by decide) ?_
  refine sk_S.irem (dd DX2_dayByDraws 3 rfl) (by decide) ?_
  refine sk_S.istore_n (i := 1) (dd DX2_dayByDraws 4 rfl) rfl (Nat.le_of_ble_eq_true rfl) rfl ?_
  refine sk_S.aload_n (i := 0) (dd DX2_dayByDraws 5 rfl) rfl rfl ?_
  refine sk_S.callV (dd DX2_dayByDraws 6 rfl) rfl kX2_124 (cC_draw (hR1.zz.trans upd_eq)) se_1 (by decide) rfl rfl rfl rfl (Nat.le_of_ble_eq_true rfl) (fun r8 h8 q8 => ?_)
  obtain ⟨rfl, rfl⟩ := q8
  have hR2 : RQ 1 18 (sk_u (sk_u h 1 14 (zN (g 1))) 1 14 (zN (zN (g 1)))) (upd g 1 (zN (zN (g 1)))) := by
    have e := hR1.u_q (p := 1) (x := (zN (zN (g 1)))) (by decide)
    rw [upd_upd] at e
    exact e
  have hG2 : RG (upd g 1 (zN (zN (g 1)))) := hG.u1
  have o2 : sk_o [1, 18, 34, 35] h (sk_u (sk_u h 1 14 (zN (g 1))) 1 14 (zN (zN (g 1)))) := (sk_o.rf.u (by decide)).u (by decide)
  generalize hk2 : sk_u (sk_u h 1 14 (zN (g 1))) 1 14 (zN (zN (g 1))) = k2 at hR2 o2 ⊢
  show sk_S _ _ _ _ _ _ (.int _ :: _) _ _
  refine sk_S.bipush (v := 30) (dd DX2_dayByDraws 7 rfl) (by decide) ?_
  refine sk_S.irem (dd DX2_dayByDraws 8 rfl) (by decide) ?_
  refine sk_S.istore_n (i := 2) (dd DX2_dayByDraws 9 rfl) rfl (Nat.le_of_ble_eq_true rfl) rfl ?_
  have hf4 := drF_lt (g := g)
  have eF : nI (dv (zN (g 1))) - nI (dv (zN (g 1))) / 4 * 4 = nI (drF g) := rem_4 (by have := (ushr8_dv (zN (g 1))).2; omega)
  have eN : nI (dv (zN (zN (g 1)))) - nI (dv (zN (zN (g 1)))) / 30 * 30 = nI (drN g) := rem_30 (by have := (ushr8_dv (zN (zN (g 1)))).2; omega)
  have hn30 : drN g < 30 := Nat.mod_lt _ (by decide)
  rw [eF, eN]
  refine sk_S.aload_n (i := 0) (dd DX2_dayByDraws 10 rfl) rfl rfl ?_
  refine sk_S.getr (dd DX2_dayByDraws 11 rfl) rfl fX2_9 se_1 (by decide) rfl ?_
  refine sk_S.iload_n (i := 1) (dd DX2_dayByDraws 12 rfl) rfl rfl ?_
  refine sk_S.iald (dd DX2_dayByDraws 13 rfl) se_18 (sk_ix_nI (k := drF g) rfl hf4 (by decide)) ?_
  refine sk_S.iload_n (i := 2) (dd DX2_dayByDraws 14 rfl) rfl rfl ?_
  refine sk_S.iadd (dd DX2_dayByDraws 15 rfl) ?_
  refine sk_S.bipush (v := 99) (dd DX2_dayByDraws 16 rfl) (by decide) ?_
  refine sk_S.icmp_gt (tgt := 35) (dd DX2_dayByDraws 17 rfl) (by decide) (fun c25 => ?_) (fun c25 => ?_)
  · have hS : drS g = (upd g 1 (zN (zN (g 1)))) := if_neg (fun e => absurd e (by rw [← hR2.so hf4]; exact Int32.not_le.mpr c25))
    have hR3 : RQ 1 18 k2 (drS g) := by rw [hS]; exact hR2
    have hG3 : RG (drS g) := by rw [hS]; exact hG2
    have hz3 : k2 1 14 = (zN (zN (g 1))) := hR3.zz.trans (by rw [hS]; exact upd_eq)
    have o3 := o2
    revert hR3 o3 hz3
    generalize k2 = k3
    intro hR3 hz3 o3
    refine sk_S.aload_n (i := 0) (dd DX2_dayByDraws 23 rfl) rfl rfl ?_
    refine sk_S.aload_n (i := 0) (dd DX2_dayByDraws 24 rfl) rfl rfl ?_
    refine sk_S.callV (dd DX2_dayByDraws 25 rfl) rfl kX2_124 (cC_draw hz3) se_1 (by decide) rfl rfl rfl rfl (Nat.le_of_ble_eq_true rfl) (fun r37 h37 q37 => ?_)
    obtain ⟨rfl, rfl⟩ := q37
    show sk_S _ _ _ _ _ _ (.int _ :: _) _ _
    refine sk_S.bipush (v := 10) (dd DX2_dayByDraws 26 rfl) (by decide) ?_
    refine sk_S.irem (dd DX2_dayByDraws 27 rfl) (by decide) ?_
    refine sk_S.putf (dd DX2_dayByDraws 28 rfl) rfl pX2_67 se_1 (by decide) rfl rfl rfl ?_
    have eW : nI (dv (zN (zN (zN (g 1))))) - nI (dv (zN (zN (zN (g 1))))) / 10 * 10 = nI (dv (zN (zN (zN (g 1)))) % 10) := rem_10 (by have := (ushr8_dv (zN (zN (zN (g 1))))).2; omega)
    have hR4 : RQ 1 18 (sk_u (sk_u k3 1 14 (zN (zN (zN (g 1))))) 1 7 (nI (dv (zN (zN (zN (g 1)))) % 10))) (drR g) := (hR3.u_q (p := 1) (x := (zN (zN (zN (g 1))))) (by decide)).u_q (p := 3) (by decide)
    have hG4 : RG (drR g) := hG3.u1.u3 ⟨_, Nat.mod_lt _ (by decide), rfl⟩
    rw [eW]
    refine sk_S.aload_n (i := 0) (dd DX2_dayByDraws 29 rfl) rfl rfl ?_
    refine sk_S.callV (dd DX2_dayByDraws 30 rfl) rfl kX2_131 (cQ_settle hR4 hG4) se_1 (by decide) rfl rfl rfl rfl (Nat.le_of_ble_eq_true rfl) (fun r47 h47 q47 => ?_)
    obtain ⟨o47, hR47, rfl⟩ := q47
    show sk_S _ _ _ _ _ _ (.int _ :: _) _ _
    refine sk_S.iret (dd DX2_dayByDraws 31 rfl) rfl rfl ?_
    exact ⟨((o3.u (by decide)).u (by decide)).tr o47, hR47, rfl⟩
  · refine sk_S.aload_n (i := 0) (dd DX2_dayByDraws 18 rfl) rfl rfl ?_
    refine sk_S.iload_n (i := 1) (dd DX2_dayByDraws 19 rfl) rfl rfl ?_
    refine sk_S.iload_n (i := 2) (dd DX2_dayByDraws 20 rfl) rfl rfl ?_
    refine sk_S.callV (dd DX2_dayByDraws 21 rfl) rfl kX2_128 (cQ_promise hf4 ⟨drN g, by omega, rfl⟩ hR2 hG2) se_1 (by decide) rfl rfl rfl rfl (Nat.le_of_ble_eq_true rfl) (fun r31 h31 q31 => ?_)
    obtain ⟨o31, hR31, rfl⟩ := q31
    have hs99 : (upd g 1 (zN (zN (g 1)))) (9 + drF g) + nI (drN g) ≤ 99 := by rw [← hR2.so hf4]; exact Int32.not_lt.mp c25
    have hs31 := hG2.sum hf4 (by omega) hs99
    have hS : drS g = sellR (upd g 1 (zN (zN (g 1)))) (drF g) (nI (drN g)) := if_pos hs99
    show sk_S _ _ _ _ _ _ (.int _ :: _) _ _
    refine sk_S.pop (dd DX2_dayByDraws 22 rfl) rfl ?_
    have hR3 : RQ 1 18 h31 (drS g) := by rw [hS]; exact hR31
    have hG3 : RG (drS g) := by rw [hS]; exact sell_RG hG2 hf4 hs31
    have hz3 : h31 1 14 = (zN (zN (g 1))) := hR3.zz.trans (by rw [hS]; exact (sellR_no hf4 (by decide)).trans upd_eq)
    have o3 : sk_o [1, 18, 34, 35] h h31 := o2.tr o31
    revert hR3 o3 hz3
    generalize h31 = k3
    intro hR3 hz3 o3
    refine sk_S.aload_n (i := 0) (dd DX2_dayByDraws 23 rfl) rfl rfl ?_
    refine sk_S.aload_n (i := 0) (dd DX2_dayByDraws 24 rfl) rfl rfl ?_
    refine sk_S.callV (dd DX2_dayByDraws 25 rfl) rfl kX2_124 (cC_draw hz3) se_1 (by decide) rfl rfl rfl rfl (Nat.le_of_ble_eq_true rfl) (fun r37 h37 q37 => ?_)
    obtain ⟨rfl, rfl⟩ := q37
    show sk_S _ _ _ _ _ _ (.int _ :: _) _ _
    refine sk_S.bipush (v := 10) (dd DX2_dayByDraws 26 rfl) (by decide) ?_
    refine sk_S.irem (dd DX2_dayByDraws 27 rfl) (by decide) ?_
    refine sk_S.putf (dd DX2_dayByDraws 28 rfl) rfl pX2_67 se_1 (by decide) rfl rfl rfl ?_
    have eW : nI (dv (zN (zN (zN (g 1))))) - nI (dv (zN (zN (zN (g 1))))) / 10 * 10 = nI (dv (zN (zN (zN (g 1)))) % 10) := rem_10 (by have := (ushr8_dv (zN (zN (zN (g 1))))).2; omega)
    have hR4 : RQ 1 18 (sk_u (sk_u k3 1 14 (zN (zN (zN (g 1))))) 1 7 (nI (dv (zN (zN (zN (g 1)))) % 10))) (drR g) := (hR3.u_q (p := 1) (x := (zN (zN (zN (g 1))))) (by decide)).u_q (p := 3) (by decide)
    have hG4 : RG (drR g) := hG3.u1.u3 ⟨_, Nat.mod_lt _ (by decide), rfl⟩
    rw [eW]
    refine sk_S.aload_n (i := 0) (dd DX2_dayByDraws 29 rfl) rfl rfl ?_
    refine sk_S.callV (dd DX2_dayByDraws 30 rfl) rfl kX2_131 (cQ_settle hR4 hG4) se_1 (by decide) rfl rfl rfl rfl (Nat.le_of_ble_eq_true rfl) (fun r47 h47 q47 => ?_)
    obtain ⟨o47, hR47, rfl⟩ := q47
    show sk_S _ _ _ _ _ _ (.int _ :: _) _ _
    refine sk_S.iret (dd DX2_dayByDraws 31 rfl) rfl rfl ?_
    exact ⟨((o3.u (by decide)).u (by decide)).tr o47, hR47, rfl⟩
end C3
