section LW
abbrev ML_law : sk_m := (x, cL_law, 4, ret)
set_option maxRecDepth 100000 in
set_option maxHeartbeats 4000000 in
theorem lz_boat {l : Launch} {E : sk_V} {d : Nat} {h : sk_M} {Q : Option Value → sk_M → Prop} {i : Nat} (hI : i + 6 ≤ sk_L E) (hL : sk_L E < 2147483648) (H : Inv h) (kk : ∀ h2, Inv h2 → sk_S l E (d + 201) ML_law 1307 [some (.ref 67), some (.ref 0), some (.ref 54), some (.int (nI i))] [] h2 Q) : sk_S l E (d + 201) ML_law 196 [some (.ref 67), some (.ref 0), some (.ref 54), some (.int (nI i))] [] h Q := by
  refine sk_S.aload_n (i := 1) (dd DL_law_p1 22 rfl) rfl rfl ?_
  refine sk_S.aload_n (i := 0) (dd DL_law_p1 23 rfl) rfl rfl ?_
  refine sk_S.iload_n (i := 3) (dd DL_law_p1 24 rfl) rfl rfl ?_
  refine sk_S.iconst (v := 1) (dd DL_law_p1 25 rfl) (by decide) ?_
  refine sk_S.iadd (dd DL_law_p1 26 rfl) ?_
  refine sk_S.roald (dd DL_law_p1 27 rfl) rfl (sk_ix_nI (k := i + 1) (nI_add i 1) (by omega) hL) rfl ?_
  refine sk_S.callV (dd DL_law_p1 28 rfl) rfl kL_13 (st_boat H) se_0 (by decide) rfl rfl rfl rfl (Nat.le_of_ble_eq_true rfl) (fun r202 h202 q202 => ?_)
  obtain ⟨v1, rfl, k1⟩ := q202
  show sk_S _ _ _ _ _ _ (.int _ :: _) _ _
  refine sk_S.pop (dd DL_law_p1 29 rfl) rfl ?_
  refine sk_S.aload_n (i := 2) (dd DL_law_p1 30 rfl) rfl rfl ?_
  refine sk_S.aload_n (i := 0) (dd DL_law_p1 31 rfl) rfl rfl ?_
  refine sk_S.iload_n (i := 3) (dd DL_law_p1 32 rfl) rfl rfl ?_
  refine sk_S.iconst (v := 1) (dd DL_law_p1 33 rfl) (by decide) ?_
  refine sk_S.iadd (dd DL_law_p1 34 rfl) ?_
  refine sk_S.roald (dd DL_law_p1 35 rfl) rfl (sk_ix_nI (k := i + 1) (nI_add i 1) (by omega) hL) rfl ?_
  refine sk_S.callV (dd DL_law_p1 36 rfl) rfl kL_17 k1 se_54 (by decide) rfl rfl rfl rfl (Nat.le_of_ble_eq_true rfl) (fun r212 h212 q212 => ?_)
  obtain ⟨w1, rfl, H2, e2⟩ := q212
  show sk_S _ _ _ _ _ _ (.int _ :: _) _ _
  refine sk_S.pop (dd DL_law_p1 37 rfl) rfl ?_
  refine sk_S.goto (tgt := 1307) (dd DL_law_p1 38 rfl) (by decide) ?_
  exact kk _ H2
set_option maxRecDepth 100000 in
set_option maxHeartbeats 4000000 in
theorem lz_boatIs {l : Launch} {E : sk_V} {d : Nat} {h : sk_M} {Q : Option Value → sk_M → Prop} {i : Nat} (hI : i + 6 ≤ sk_L E) (hL : sk_L E < 2147483648) (H : Inv h) (kk : ∀ h2, Inv h2 → sk_S l E (d + 201) ML_law 1307 [some (.ref 67), some (.ref 0), some (.ref 54), some (.int (nI i))] [] h2 Q) : sk_S l E (d + 201) ML_law 219 [some (.ref 67), some (.ref 0), some (.ref 54), some (.int (nI i))] [] h Q := by
  refine sk_S.aload_n (i := 1) (dd DL_law_p1 39 rfl) rfl rfl ?_
  refine sk_S.aload_n (i := 0) (dd DL_law_p1 40 rfl) rfl rfl ?_
  refine sk_S.iload_n (i := 3) (dd DL_law_p1 41 rfl) rfl rfl ?_
  refine sk_S.iconst (v := 1) (dd DL_law_p1 42 rfl) (by decide) ?_
  refine sk_S.iadd (dd DL_law_p1 43 rfl) ?_
  refine sk_S.roald (dd DL_law_p1 44 rfl) rfl (sk_ix_nI (k := i + 1) (nI_add i 1) (by omega) hL) rfl ?_
  refine sk_S.aload_n (i := 0) (dd DL_law_p1 45 rfl) rfl rfl ?_
  refine sk_S.iload_n (i := 3) (dd DL_law_p1 46 rfl) rfl rfl ?_
  refine sk_S.iconst (v := 2) (dd DL_law_p1 47 rfl) (by decide) ?_
  refine sk_S.iadd (dd DL_law_p1 48 rfl) ?_
  refine sk_S.roald (dd DL_law_p1 49 rfl) rfl (sk_ix_nI (k := i + 2) (nI_add i 2) (by omega) hL) rfl ?_
  refine sk_S.callV (dd DL_law_p1 50 rfl) rfl kL_18 (st_boatIs H) se_0 (by decide) rfl rfl rfl rfl (Nat.le_of_ble_eq_true rfl) (fun r230 h230 q230 => ?_)
  obtain ⟨v1, rfl, k1⟩ := q230
  show sk_S _ _ _ _ _ _ (.int _ :: _) _ _
  refine sk_S.pop (dd DL_law_p1 51 rfl) rfl ?_
  refine sk_S.aload_n (i := 2) (dd DL_law_p1 52 rfl) rfl rfl ?_
  refine sk_S.aload_n (i := 0) (dd DL_law_p1 53 rfl) rfl rfl ?_
  refine sk_S.iload_n (i := 3) (dd DL_law_p1 54 rfl) rfl rfl ?_
  refine sk_S.iconst (v := 1) (dd DL_law_p1 55 rfl) (by decide) ?_
  refine sk_S.iadd (dd DL_law_p1 56 rfl) ?_
  refine sk_S.roald (dd DL_law_p1 57 rfl) rfl (sk_ix_nI (k := i + 1) (nI_add i 1) (by omega) hL) rfl ?_
  refine sk_S.aload_n (i := 0) (dd DL_law_p1 58 rfl) rfl rfl ?_
  refine sk_S.iload_n (i := 3) (dd DL_law_p1 59 rfl) rfl rfl ?_
  refine sk_S.iconst (v := 2) (dd DL_law_p1 60 rfl) (by decide) ?_
  refine sk_S.iadd (dd DL_law_p1 61 rfl) ?_
  refine sk_S.roald (dd DL_law_p1 62 rfl) rfl (sk_ix_nI (k := i + 2) (nI_add i 2) (by omega) hL) rfl ?_
  refine sk_S.callV (dd DL_law_p1 63 rfl) rfl kL_22 k1 se_54 (by decide) rfl rfl rfl rfl (Nat.le_of_ble_eq_true rfl) (fun r245 h245 q245 => ?_)
  obtain ⟨w1, rfl, H2, e2⟩ := q245
  show sk_S _ _ _ _ _ _ (.int _ :: _) _ _
  refine sk_S.pop (dd DL_law_p1 64 rfl) rfl ?_
  refine sk_S.goto (tgt := 1307) (dd DL_law_p1 65 rfl) (by decide) ?_
  exact kk _ H2
set_option maxRecDepth 100000 in
set_option maxHeartbeats 4000000 in
theorem lz_become {l : Launch} {E : sk_V} {d : Nat} {h : sk_M} {Q : Option Value → sk_M → Prop} {i : Nat} (hI : i + 6 ≤ sk_L E) (hL : sk_L E < 2147483648) (H : Inv h) (kk : ∀ h2, Inv h2 → sk_S l E (d + 201) ML_law 1307 [some (.ref 67), some (.ref 0), some (.ref 54), some (.int (nI i))] [] h2 Q) : sk_S l E (d + 201) ML_law 252 [some (.ref 67), some (.ref 0), some (.ref 54), some (.int (nI i))] [] h Q := by
  refine sk_S.aload_n (i := 1) (dd DL_law_p1 66 rfl) rfl rfl ?_
  refine sk_S.aload_n (i := 0) (dd DL_law_p1 67 rfl) rfl rfl ?_
  refine sk_S.iload_n (i := 3) (dd DL_law_p1 68 rfl) rfl rfl ?_
  refine sk_S.iconst (v := 1) (dd DL_law_p1 69 rfl) (by decide) ?_
  refine sk_S.iadd (dd DL_law_p1 70 rfl) ?_
  refine sk_S.roald (dd DL_law_p1 71 rfl) rfl (sk_ix_nI (k := i + 1) (nI_add i 1) (by omega) hL) rfl ?_
  refine sk_S.aload_n (i := 0) (dd DL_law_p1 72 rfl) rfl rfl ?_
  refine sk_S.iload_n (i := 3) (dd DL_law_p1 73 rfl) rfl rfl ?_
  refine sk_S.iconst (v := 2) (dd DL_law_p1 74 rfl) (by decide) ?_
  refine sk_S.iadd (dd DL_law_p1 75 rfl) ?_
  refine sk_S.roald (dd DL_law_p1 76 rfl) rfl (sk_ix_nI (k := i + 2) (nI_add i 2) (by omega) hL) rfl ?_
  refine sk_S.callV (dd DL_law_p1 77 rfl) rfl kL_23 (st_become H) se_0 (by decide) rfl rfl rfl rfl (Nat.le_of_ble_eq_true rfl) (fun r263 h263 q263 => ?_)
  obtain ⟨v1, rfl, k1⟩ := q263
  show sk_S _ _ _ _ _ _ (.int _ :: _) _ _
  refine sk_S.pop (dd DL_law_p1 78 rfl) rfl ?_
  refine sk_S.aload_n (i := 2) (dd DL_law_p1 79 rfl) rfl rfl ?_
  refine sk_S.aload_n (i := 0) (dd DL_law_p1 80 rfl) rfl rfl ?_
  refine sk_S.iload_n (i := 3) (dd DL_law_p1 81 rfl) rfl rfl ?_
  refine sk_S.iconst (v := 1) (dd DL_law_p1 82 rfl) (by decide) ?_
  refine sk_S.iadd (dd DL_law_p1 83 rfl) ?_
  refine sk_S.roald (dd DL_law_p1 84 rfl) rfl (sk_ix_nI (k := i + 1) (nI_add i 1) (by omega) hL) rfl ?_
  refine sk_S.aload_n (i := 0) (dd DL_law_p1 85 rfl) rfl rfl ?_
  refine sk_S.iload_n (i := 3) (dd DL_law_p1 86 rfl) rfl rfl ?_
  refine sk_S.iconst (v := 2) (dd DL_law_p1 87 rfl) (by decide) ?_
  refine sk_S.iadd (dd DL_law_p1 88 rfl) ?_
  refine sk_S.roald (dd DL_law_p1 89 rfl) rfl (sk_ix_nI (k := i + 2) (nI_add i 2) (by omega) hL) rfl ?_
  refine sk_S.callV (dd DL_law_p1 90 rfl) rfl kL_26 k1 se_54 (by decide) rfl rfl rfl rfl (Nat.le_of_ble_eq_true rfl) (fun r278 h278 q278 => ?_)
  obtain ⟨w1, rfl, H2, e2⟩ := q278
  show sk_S _ _ _ _ _ _ (.int _ :: _) _ _
  refine sk_S.pop (dd DL_law_p1 91 rfl) rfl ?_
  refine sk_S.goto (tgt := 1307) (dd DL_law_p1 92 rfl) (by decide) ?_
  exact kk _ H2
set_option maxRecDepth 100000 in
set_option maxHeartbeats 4000000 in
theorem lz_as {l : Launch} {E : sk_V} {d : Nat} {h : sk_M} {Q : Option Value → sk_M → Prop} {i : Nat} (hI : i + 6 ≤ sk_L E) (hL : sk_L E < 2147483648) (H : Inv h) (kk : ∀ h2, Inv h2 → sk_S l E (d + 201) ML_law 1307 [some (.ref 67), some (.ref 0), some (.ref 54), some (.int (nI i))] [] h2 Q) : sk_S l E (d + 201) ML_law 285 [some (.ref 67), some (.ref 0), some (.ref 54), some (.int (nI i))] [] h Q := by
  refine sk_S.aload_n (i := 1) (dd DL_law_p1 93 rfl) rfl rfl ?_
  refine sk_S.aload_n (i := 0) (dd DL_law_p1 94 rfl) rfl rfl ?_
  refine sk_S.iload_n (i := 3) (dd DL_law_p1 95 rfl) rfl rfl ?_
  refine sk_S.iconst (v := 1) (dd DL_law_p1 96 rfl) (by decide) ?_
  refine sk_S.iadd (dd DL_law_p1 97 rfl) ?_
  refine sk_S.roald (dd DL_law_p1 98 rfl) rfl (sk_ix_nI (k := i + 1) (nI_add i 1) (by omega) hL) rfl ?_
  refine sk_S.aload_n (i := 0) (dd DL_law_p1 99 rfl) rfl rfl ?_
  refine sk_S.iload_n (i := 3) (dd DL_law_p2 0 rfl) rfl rfl ?_
  refine sk_S.iconst (v := 2) (dd DL_law_p2 1 rfl) (by decide) ?_
  refine sk_S.iadd (dd DL_law_p2 2 rfl) ?_
  refine sk_S.roald (dd DL_law_p2 3 rfl) rfl (sk_ix_nI (k := i + 2) (nI_add i 2) (by omega) hL) rfl ?_
  refine sk_S.callV (dd DL_law_p2 4 rfl) rfl kL_27 (st_as H) se_0 (by decide) rfl rfl rfl rfl (Nat.le_of_ble_eq_true rfl) (fun r296 h296 q296 => ?_)
  obtain ⟨v1, rfl, k1⟩ := q296
  show sk_S _ _ _ _ _ _ (.int _ :: _) _ _
  refine sk_S.pop (dd DL_law_p2 5 rfl) rfl ?_
  refine sk_S.aload_n (i := 2) (dd DL_law_p2 6 rfl) rfl rfl ?_
  refine sk_S.aload_n (i := 0) (dd DL_law_p2 7 rfl) rfl rfl ?_
  refine sk_S.iload_n (i := 3) (dd DL_law_p2 8 rfl) rfl rfl ?_
  refine sk_S.iconst (v := 1) (dd DL_law_p2 9 rfl) (by decide) ?_
  refine sk_S.iadd (dd DL_law_p2 10 rfl) ?_
  refine sk_S.roald (dd DL_law_p2 11 rfl) rfl (sk_ix_nI (k := i + 1) (nI_add i 1) (by omega) hL) rfl ?_
  refine sk_S.aload_n (i := 0) (dd DL_law_p2 12 rfl) rfl rfl ?_
  refine sk_S.iload_n (i := 3) (dd DL_law_p2 13 rfl) rfl rfl ?_
  refine sk_S.iconst (v := 2) (dd DL_law_p2 14 rfl) (by decide) ?_
  refine sk_S.iadd (dd DL_law_p2 15 rfl) ?_
  refine sk_S.roald (dd DL_law_p2 16 rfl) rfl (sk_ix_nI (k := i + 2) (nI_add i 2) (by omega) hL) rfl ?_
  refine sk_S.callV (dd DL_law_p2 17 rfl) rfl kL_30 k1 se_54 (by decide) rfl rfl rfl rfl (Nat.le_of_ble_eq_true rfl) (fun r311 h311 q311 => ?_)
  obtain ⟨w1, rfl, H2, e2⟩ := q311
  show sk_S _ _ _ _ _ _ (.int _ :: _) _ _
  refine sk_S.pop (dd DL_law_p2 18 rfl) rfl ?_
  refine sk_S.goto (tgt := 1307) (dd DL_law_p2 19 rfl) (by decide) ?_
  exact kk _ H2
set_option maxRecDepth 100000 in
set_option maxHeartbeats 4000000 in
theorem lz_lose {l : Launch} {E : sk_V} {d : Nat} {h : sk_M} {Q : Option Value → sk_M → Prop} {i : Nat} (hI : i + 6 ≤ sk_L E) (hL : sk_L E < 2147483648) (H : Inv h) (kk : ∀ h2, Inv h2 → sk_S l E (d + 201) ML_law 1307 [some (.ref 67), some (.ref 0), some (.ref 54), some (.int (nI i))] [] h2 Q) : sk_S l E (d + 201) ML_law 318 [some (.ref 67), some (.ref 0), some (.ref 54), some (.int (nI i))] [] h Q := by
  refine sk_S.aload_n (i := 1) (dd DL_law_p2 20 rfl) rfl rfl ?_
  refine sk_S.aload_n (i := 0) (dd DL_law_p2 21 rfl) rfl rfl ?_
  refine sk_S.iload_n (i := 3) (dd DL_law_p2 22 rfl) rfl rfl ?_
  refine sk_S.iconst (v := 1) (dd DL_law_p2 23 rfl) (by decide) ?_
  refine sk_S.iadd (dd DL_law_p2 24 rfl) ?_
  refine sk_S.roald (dd DL_law_p2 25 rfl) rfl (sk_ix_nI (k := i + 1) (nI_add i 1) (by omega) hL) rfl ?_
  refine sk_S.aload_n (i := 0) (dd DL_law_p2 26 rfl) rfl rfl ?_
  refine sk_S.iload_n (i := 3) (dd DL_law_p2 27 rfl) rfl rfl ?_
  refine sk_S.iconst (v := 2) (dd DL_law_p2 28 rfl) (by decide) ?_
  refine sk_S.iadd (dd DL_law_p2 29 rfl) ?_
  refine sk_S.roald (dd DL_law_p2 30 rfl) rfl (sk_ix_nI (k := i + 2) (nI_add i 2) (by omega) hL) rfl ?_
  refine sk_S.callV (dd DL_law_p2 31 rfl) rfl kL_31 (st_lose H) se_0 (by decide) rfl rfl rfl rfl (Nat.le_of_ble_eq_true rfl) (fun r329 h329 q329 => ?_)
  obtain ⟨v1, rfl, k1⟩ := q329
  show sk_S _ _ _ _ _ _ (.int _ :: _) _ _
  refine sk_S.pop (dd DL_law_p2 32 rfl) rfl ?_
  refine sk_S.aload_n (i := 2) (dd DL_law_p2 33 rfl) rfl rfl ?_
  refine sk_S.aload_n (i := 0) (dd DL_law_p2 34 rfl) rfl rfl ?_
  refine sk_S.iload_n (i := 3) (dd DL_law_p2 35 rfl) rfl rfl ?_
  refine sk_S.iconst (v := 1) (dd DL_law_p2 36 rfl) (by decide) ?_
  refine sk_S.iadd (dd DL_law_p2 37 rfl) ?_
  refine sk_S.roald (dd DL_law_p2 38 rfl) rfl (sk_ix_nI (k := i + 1) (nI_add i 1) (by omega) hL) rfl ?_
  refine sk_S.aload_n (i := 0) (dd DL_law_p2 39 rfl) rfl rfl ?_
  refine sk_S.iload_n (i := 3) (dd DL_law_p2 40 rfl) rfl rfl ?_
  refine sk_S.iconst (v := 2) (dd DL_law_p2 41 rfl) (by decide) ?_
  refine sk_S.iadd (dd DL_law_p2 42 rfl) ?_
  refine sk_S.roald (dd DL_law_p2 43 rfl) rfl (sk_ix_nI (k := i + 2) (nI_add i 2) (by omega) hL) rfl ?_
  refine sk_S.callV (dd DL_law_p2 44 rfl) rfl kL_34 k1 se_54 (by decide) rfl rfl rfl rfl (Nat.le_of_ble_eq_true rfl) (fun r344 h344 q344 => ?_)
  obtain ⟨w1, rfl, H2, e2⟩ := q344
  show sk_S _ _ _ _ _ _ (.int _ :: _) _ _
  refine sk_S.pop (dd DL_law_p2 45 rfl) rfl ?_
  refine sk_S.goto (tgt := 1307) (dd DL_law_p2 46 rfl) (by decide) ?_
  exact kk _ H2
set_option maxRecDepth 100000 in
set_option maxHeartbeats 4000000 in
theorem lz_rises {l : Launch} {E : sk_V} {d : Nat} {h : sk_M} {Q : Option Value → sk_M → Prop} {i : Nat} (hI : i + 6 ≤ sk_L E) (hL : sk_L E < 2147483648) (H : Inv h) (kk : ∀ h2, Inv h2 → sk_S l E (d + 201) ML_law 1307 [some (.ref 67), some (.ref 0), some (.ref 54), some (.int (nI i))] [] h2 Q) : sk_S l E (d + 201) ML_law 351 [some (.ref 67), some (.ref 0), some (.ref 54), some (.int (nI i))] [] h Q := by
  refine sk_S.aload_n (i := 1) (dd DL_law_p2 47 rfl) rfl rfl ?_
  refine sk_S.aload_n (i := 0) (dd DL_law_p2 48 rfl) rfl rfl ?_
  refine sk_S.iload_n (i := 3) (dd DL_law_p2 49 rfl) rfl rfl ?_
  refine sk_S.iconst (v := 1) (dd DL_law_p2 50 rfl) (by decide) ?_
  refine sk_S.iadd (dd DL_law_p2 51 rfl) ?_
  refine sk_S.roald (dd DL_law_p2 52 rfl) rfl (sk_ix_nI (k := i + 1) (nI_add i 1) (by omega) hL) rfl ?_
  refine sk_S.callV (dd DL_law_p2 53 rfl) rfl kL_35 (st_rises H) se_0 (by decide) rfl rfl rfl rfl (Nat.le_of_ble_eq_true rfl) (fun r357 h357 q357 => ?_)
  obtain ⟨v1, rfl, k1⟩ := q357
  show sk_S _ _ _ _ _ _ (.int _ :: _) _ _
  refine sk_S.pop (dd DL_law_p2 54 rfl) rfl ?_
  refine sk_S.aload_n (i := 2) (dd DL_law_p2 55 rfl) rfl rfl ?_
  refine sk_S.aload_n (i := 0) (dd DL_law_p2 56 rfl) rfl rfl ?_
  refine sk_S.iload_n (i := 3) (dd DL_law_p2 57 rfl) rfl rfl ?_
  refine sk_S.iconst (v := 1) (dd DL_law_p2 58 rfl) (by decide) ?_
  refine sk_S.iadd (dd DL_law_p2 59 rfl) ?_
  refine sk_S.roald (dd DL_law_p2 60 rfl) rfl (sk_ix_nI (k := i + 1) (nI_add i 1) (by omega) hL) rfl ?_
  refine sk_S.callV (dd DL_law_p2 61 rfl) rfl kL_38 k1 se_54 (by decide) rfl rfl rfl rfl (Nat.le_of_ble_eq_true rfl) (fun r367 h367 q367 => ?_)
  obtain ⟨w1, rfl, H2, e2⟩ := q367
  show sk_S _ _ _ _ _ _ (.int _ :: _) _ _
  refine sk_S.pop (dd DL_law_p2 62 rfl) rfl ?_
  refine sk_S.goto (tgt := 1307) (dd DL_law_p2 63 rfl) (by decide) ?_
  exact kk _ H2
set_option maxRecDepth 100000 in
set_option maxHeartbeats 4000000 in
theorem lz_price {l : Launch} {E : sk_V} {d : Nat} {h : sk_M} {Q : Option Value → sk_M → Prop} {i : Nat} (hI : i + 6 ≤ sk_L E) (hL : sk_L E < 2147483648) (H : Inv h) (kk : ∀ h2, Inv h2 → sk_S l E (d + 201) ML_law 1307 [some (.ref 67), some (.ref 0), some (.ref 54), some (.int (nI i))] [] h2 Q) : sk_S l E (d + 201) ML_law 374 [some (.ref 67), some (.ref 0), some (.ref 54), some (.int (nI i))] [] h Q := by
  refine sk_S.aload_n (i := 1) (dd DL_law_p2 64 rfl) rfl rfl ?_
  refine sk_S.aload_n (i := 0) (dd DL_law_p2 65 rfl) rfl rfl ?_
  refine sk_S.iload_n (i := 3) (dd DL_law_p2 66 rfl) rfl rfl ?_
  refine sk_S.iconst (v := 1) (dd DL_law_p2 67 rfl) (by decide) ?_
  refine sk_S.iadd (dd DL_law_p2 68 rfl) ?_
  refine sk_S.roald (dd DL_law_p2 69 rfl) rfl (sk_ix_nI (k := i + 1) (nI_add i 1) (by omega) hL) rfl ?_
  refine sk_S.aload_n (i := 0) (dd DL_law_p2 70 rfl) rfl rfl ?_
  refine sk_S.iload_n (i := 3) (dd DL_law_p2 71 rfl) rfl rfl ?_
  refine sk_S.iconst (v := 2) (dd DL_law_p2 72 rfl) (by decide) ?_
  refine sk_S.iadd (dd DL_law_p2 73 rfl) ?_
  refine sk_S.roald (dd DL_law_p2 74 rfl) rfl (sk_ix_nI (k := i + 2) (nI_add i 2) (by omega) hL) rfl ?_
  refine sk_S.callV (dd DL_law_p2 75 rfl) rfl kL_39 (st_price H) se_0 (by decide) rfl rfl rfl rfl (Nat.le_of_ble_eq_true rfl) (fun r385 h385 q385 => ?_)
  obtain ⟨v1, rfl, k1⟩ := q385
  show sk_S _ _ _ _ _ _ (.int _ :: _) _ _
  refine sk_S.pop (dd DL_law_p2 76 rfl) rfl ?_
  refine sk_S.aload_n (i := 2) (dd DL_law_p2 77 rfl) rfl rfl ?_
  refine sk_S.aload_n (i := 0) (dd DL_law_p2 78 rfl) rfl rfl ?_
  refine sk_S.iload_n (i := 3) (dd DL_law_p2 79 rfl) rfl rfl ?_
  refine sk_S.iconst (v := 1) (dd DL_law_p2 80 rfl) (by decide) ?_
  refine sk_S.iadd (dd DL_law_p2 81 rfl) ?_
  refine sk_S.roald (dd DL_law_p2 82 rfl) rfl (sk_ix_nI (k := i + 1) (nI_add i 1) (by omega) hL) rfl ?_
  refine sk_S.aload_n (i := 0) (dd DL_law_p2 83 rfl) rfl rfl ?_
  refine sk_S.iload_n (i := 3) (dd DL_law_p2 84 rfl) rfl rfl ?_
  refine sk_S.iconst (v := 2) (dd DL_law_p2 85 rfl) (by decide) ?_
  refine sk_S.iadd (dd DL_law_p2 86 rfl) ?_
  refine sk_S.roald (dd DL_law_p2 87 rfl) rfl (sk_ix_nI (k := i + 2) (nI_add i 2) (by omega) hL) rfl ?_
  refine sk_S.callV (dd DL_law_p2 88 rfl) rfl kL_42 k1 se_54 (by decide) rfl rfl rfl rfl (Nat.le_of_ble_eq_true rfl) (fun r400 h400 q400 => ?_)
  obtain ⟨w1, rfl, H2, e2⟩ := q400
  show sk_S _ _ _ _ _ _ (.int _ :: _) _ _
  refine sk_S.pop (dd DL_law_p2 89 rfl) rfl ?_
  refine sk_S.goto (tgt := 1307) (dd DL_law_p2 90 rfl) (by decide) ?_
  exact kk _ H2
set_option maxRecDepth 100000 in
set_option maxHeartbeats 4000000 in
theorem lz_sell {l : Launch} {E : sk_V} {d : Nat} {h : sk_M} {Q : Option Value → sk_M → Prop} {i : Nat} (hI : i + 6 ≤ sk_L E) (hL : sk_L E < 2147483648) (H : Inv h) (kk : ∀ h2, Inv h2 → sk_S l E (d + 201) ML_law 1307 [some (.ref 67), some (.ref 0), some (.ref 54), some (.int (nI i))] [] h2 Q) : sk_S l E (d + 201) ML_law 407 [some (.ref 67), some (.ref 0), some (.ref 54), some (.int (nI i))] [] h Q := by
  refine sk_S.aload_n (i := 1) (dd DL_law_p2 91 rfl) rfl rfl ?_
  refine sk_S.aload_n (i := 0) (dd DL_law_p2 92 rfl) rfl rfl ?_
  refine sk_S.iload_n (i := 3) (dd DL_law_p2 93 rfl) rfl rfl ?_
  refine sk_S.iconst (v := 1) (dd DL_law_p2 94 rfl) (by decide) ?_
  refine sk_S.iadd (dd DL_law_p2 95 rfl) ?_
  refine sk_S.roald (dd DL_law_p2 96 rfl) rfl (sk_ix_nI (k := i + 1) (nI_add i 1) (by omega) hL) rfl ?_
  refine sk_S.aload_n (i := 0) (dd DL_law_p2 97 rfl) rfl rfl ?_
  refine sk_S.iload_n (i := 3) (dd DL_law_p2 98 rfl) rfl rfl ?_
  refine sk_S.iconst (v := 2) (dd DL_law_p2 99 rfl) (by decide) ?_
  refine sk_S.iadd (dd DL_law_p3 0 rfl) ?_
  refine sk_S.roald (dd DL_law_p3 1 rfl) rfl (sk_ix_nI (k := i + 2) (nI_add i 2) (by omega) hL) rfl ?_
  refine sk_S.callV (dd DL_law_p3 2 rfl) rfl kL_43 (st_sell H) se_0 (by decide) rfl rfl rfl rfl (Nat.le_of_ble_eq_true rfl) (fun r418 h418 q418 => ?_)
  obtain ⟨v1, rfl, k1⟩ := q418
  show sk_S _ _ _ _ _ _ (.int _ :: _) _ _
  refine sk_S.pop (dd DL_law_p3 3 rfl) rfl ?_
  refine sk_S.aload_n (i := 2) (dd DL_law_p3 4 rfl) rfl rfl ?_
  refine sk_S.aload_n (i := 0) (dd DL_law_p3 5 rfl) rfl rfl ?_
  refine sk_S.iload_n (i := 3) (dd DL_law_p3 6 rfl) rfl rfl ?_
  refine sk_S.iconst (v := 1) (dd DL_law_p3 7 rfl) (by decide) ?_
  refine sk_S.iadd (dd DL_law_p3 8 rfl) ?_
  refine sk_S.roald (dd DL_law_p3 9 rfl) rfl (sk_ix_nI (k := i + 1) (nI_add i 1) (by omega) hL) rfl ?_
  refine sk_S.aload_n (i := 0) (dd DL_law_p3 10 rfl) rfl rfl ?_
  refine sk_S.iload_n (i := 3) (dd DL_law_p3 11 rfl) rfl rfl ?_
  refine sk_S.iconst (v := 2) (dd DL_law_p3 12 rfl) (by decide) ?_
  refine sk_S.iadd (dd DL_law_p3 13 rfl) ?_
  refine sk_S.roald (dd DL_law_p3 14 rfl) rfl (sk_ix_nI (k := i + 2) (nI_add i 2) (by omega) hL) rfl ?_
  refine sk_S.callV (dd DL_law_p3 15 rfl) rfl kL_46 k1 se_54 (by decide) rfl rfl rfl rfl (Nat.le_of_ble_eq_true rfl) (fun r433 h433 q433 => ?_)
  obtain ⟨w1, rfl, H2, e2⟩ := q433
  show sk_S _ _ _ _ _ _ (.int _ :: _) _ _
  refine sk_S.pop (dd DL_law_p3 16 rfl) rfl ?_
  refine sk_S.goto (tgt := 1307) (dd DL_law_p3 17 rfl) (by decide) ?_
  exact kk _ H2
set_option maxRecDepth 100000 in
set_option maxHeartbeats 4000000 in
theorem lz_feed {l : Launch} {E : sk_V} {d : Nat} {h : sk_M} {Q : Option Value → sk_M → Prop} {i : Nat} (hI : i + 6 ≤ sk_L E) (hL : sk_L E < 2147483648) (H : Inv h) (kk : ∀ h2, Inv h2 → sk_S l E (d + 201) ML_law 1307 [some (.ref 67), some (.ref 0), some (.ref 54), some (.int (nI i))] [] h2 Q) : sk_S l E (d + 201) ML_law 440 [some (.ref 67), some (.ref 0), some (.ref 54), some (.int (nI i))] [] h Q := by
  refine sk_S.aload_n (i := 1) (dd DL_law_p3 18 rfl) rfl rfl ?_
  refine sk_S.aload_n (i := 0) (dd DL_law_p3 19 rfl) rfl rfl ?_
  refine sk_S.iload_n (i := 3) (dd DL_law_p3 20 rfl) rfl rfl ?_
  refine sk_S.iconst (v := 1) (dd DL_law_p3 21 rfl) (by decide) ?_
  refine sk_S.iadd (dd DL_law_p3 22 rfl) ?_
  refine sk_S.roald (dd DL_law_p3 23 rfl) rfl (sk_ix_nI (k := i + 1) (nI_add i 1) (by omega) hL) rfl ?_
  refine sk_S.i2l (dd DL_law_p3 24 rfl) ?_
  refine sk_S.bipush (v := 32) (dd DL_law_p3 25 rfl) (by decide) ?_
  refine sk_S.lshl (dd DL_law_p3 26 rfl) ?_
  refine sk_S.aload_n (i := 0) (dd DL_law_p3 27 rfl) rfl rfl ?_
  refine sk_S.iload_n (i := 3) (dd DL_law_p3 28 rfl) rfl rfl ?_
  refine sk_S.iconst (v := 2) (dd DL_law_p3 29 rfl) (by decide) ?_
  refine sk_S.iadd (dd DL_law_p3 30 rfl) ?_
  refine sk_S.roald (dd DL_law_p3 31 rfl) rfl (sk_ix_nI (k := i + 2) (nI_add i 2) (by omega) hL) rfl ?_
  refine sk_S.i2l (dd DL_law_p3 32 rfl) ?_
  refine sk_S.ldc2 (dd DL_law_p3 33 rfl) rfl cnL_47 ?_
  refine sk_S.land (dd DL_law_p3 34 rfl) ?_
  refine sk_S.lor (dd DL_law_p3 35 rfl) ?_
  refine sk_S.aload_n (i := 0) (dd DL_law_p3 36 rfl) rfl rfl ?_
  refine sk_S.iload_n (i := 3) (dd DL_law_p3 37 rfl) rfl rfl ?_
  refine sk_S.iconst (v := 3) (dd DL_law_p3 38 rfl) (by decide) ?_
  refine sk_S.iadd (dd DL_law_p3 39 rfl) ?_
  refine sk_S.roald (dd DL_law_p3 40 rfl) rfl (sk_ix_nI (k := i + 3) (nI_add i 3) (by omega) hL) rfl ?_
  refine sk_S.callV (dd DL_law_p3 41 rfl) rfl kL_49 (st_feed H) se_0 (by decide) rfl rfl rfl rfl (Nat.le_of_ble_eq_true rfl) (fun r466 h466 q466 => ?_)
  obtain ⟨v1, rfl, k1⟩ := q466
  show sk_S _ _ _ _ _ _ (.int _ :: _) _ _
  refine sk_S.pop (dd DL_law_p3 42 rfl) rfl ?_
  refine sk_S.aload_n (i := 2) (dd DL_law_p3 43 rfl) rfl rfl ?_
  refine sk_S.aload_n (i := 0) (dd DL_law_p3 44 rfl) rfl rfl ?_
  refine sk_S.iload_n (i := 3) (dd DL_law_p3 45 rfl) rfl rfl ?_
  refine sk_S.iconst (v := 1) (dd DL_law_p3 46 rfl) (by decide) ?_
  refine sk_S.iadd (dd DL_law_p3 47 rfl) ?_
  refine sk_S.roald (dd DL_law_p3 48 rfl) rfl (sk_ix_nI (k := i + 1) (nI_add i 1) (by omega) hL) rfl ?_
  refine sk_S.i2l (dd DL_law_p3 49 rfl) ?_
  refine sk_S.bipush (v := 32) (dd DL_law_p3 50 rfl) (by decide) ?_
  refine sk_S.lshl (dd DL_law_p3 51 rfl) ?_
  refine sk_S.aload_n (i := 0) (dd DL_law_p3 52 rfl) rfl rfl ?_
  refine sk_S.iload_n (i := 3) (dd DL_law_p3 53 rfl) rfl rfl ?_
  refine sk_S.iconst (v := 2) (dd DL_law_p3 54 rfl) (by decide) ?_
  refine sk_S.iadd (dd DL_law_p3 55 rfl) ?_
  refine sk_S.roald (dd DL_law_p3 56 rfl) rfl (sk_ix_nI (k := i + 2) (nI_add i 2) (by omega) hL) rfl ?_
  refine sk_S.i2l (dd DL_law_p3 57 rfl) ?_
  refine sk_S.ldc2 (dd DL_law_p3 58 rfl) rfl cnL_47 ?_
  refine sk_S.land (dd DL_law_p3 59 rfl) ?_
  refine sk_S.lor (dd DL_law_p3 60 rfl) ?_
  refine sk_S.aload_n (i := 0) (dd DL_law_p3 61 rfl) rfl rfl ?_
  refine sk_S.iload_n (i := 3) (dd DL_law_p3 62 rfl) rfl rfl ?_
  refine sk_S.iconst (v := 3) (dd DL_law_p3 63 rfl) (by decide) ?_
  refine sk_S.iadd (dd DL_law_p3 64 rfl) ?_
  refine sk_S.roald (dd DL_law_p3 65 rfl) rfl (sk_ix_nI (k := i + 3) (nI_add i 3) (by omega) hL) rfl ?_
  refine sk_S.callV (dd DL_law_p3 66 rfl) rfl kL_53 k1 se_54 (by decide) rfl rfl rfl rfl (Nat.le_of_ble_eq_true rfl) (fun r496 h496 q496 => ?_)
  obtain ⟨w1, rfl, H2, e2⟩ := q496
  show sk_S _ _ _ _ _ _ (.int _ :: _) _ _
  refine sk_S.pop (dd DL_law_p3 67 rfl) rfl ?_
  refine sk_S.goto (tgt := 1307) (dd DL_law_p3 68 rfl) (by decide) ?_
  exact kk _ H2
set_option maxRecDepth 100000 in
set_option maxHeartbeats 4000000 in
theorem lz_text {l : Launch} {E : sk_V} {d : Nat} {h : sk_M} {Q : Option Value → sk_M → Prop} {i : Nat} (hI : i + 6 ≤ sk_L E) (hL : sk_L E < 2147483648) (H : Inv h) (kk : ∀ h2, Inv h2 → sk_S l E (d + 201) ML_law 1307 [some (.ref 67), some (.ref 0), some (.ref 54), some (.int (nI i))] [] h2 Q) : sk_S l E (d + 201) ML_law 503 [some (.ref 67), some (.ref 0), some (.ref 54), some (.int (nI i))] [] h Q := by
  refine sk_S.aload_n (i := 1) (dd DL_law_p3 69 rfl) rfl rfl ?_
  refine sk_S.aload_n (i := 0) (dd DL_law_p3 70 rfl) rfl rfl ?_
  refine sk_S.iload_n (i := 3) (dd DL_law_p3 71 rfl) rfl rfl ?_
  refine sk_S.iconst (v := 1) (dd DL_law_p3 72 rfl) (by decide) ?_
  refine sk_S.iadd (dd DL_law_p3 73 rfl) ?_
  refine sk_S.roald (dd DL_law_p3 74 rfl) rfl (sk_ix_nI (k := i + 1) (nI_add i 1) (by omega) hL) rfl ?_
  refine sk_S.callV (dd DL_law_p3 75 rfl) rfl kL_54 (st_text H) se_0 (by decide) rfl rfl rfl rfl (Nat.le_of_ble_eq_true rfl) (fun r509 h509 q509 => ?_)
  obtain ⟨v1, rfl, k1⟩ := q509
  show sk_S _ _ _ _ _ _ (.int _ :: _) _ _
  refine sk_S.pop (dd DL_law_p3 76 rfl) rfl ?_
  refine sk_S.aload_n (i := 2) (dd DL_law_p3 77 rfl) rfl rfl ?_
  refine sk_S.aload_n (i := 0) (dd DL_law_p3 78 rfl) rfl rfl ?_
  refine sk_S.iload_n (i := 3) (dd DL_law_p3 79 rfl) rfl rfl ?_
  refine sk_S.iconst (v := 1) (dd DL_law_p3 80 rfl) (by decide) ?_
  refine sk_S.iadd (dd DL_law_p3 81 rfl) ?_
  refine sk_S.roald (dd DL_law_p3 82 rfl) rfl (sk_ix_nI (k := i + 1) (nI_add i 1) (by omega) hL) rfl ?_
  refine sk_S.callV (dd DL_law_p3 83 rfl) rfl kL_57 k1 se_54 (by decide) rfl rfl rfl rfl (Nat.le_of_ble_eq_true rfl) (fun r519 h519 q519 => ?_)
  obtain ⟨w1, rfl, H2, e2⟩ := q519
  show sk_S _ _ _ _ _ _ (.int _ :: _) _ _
  refine sk_S.pop (dd DL_law_p3 84 rfl) rfl ?_
  refine sk_S.goto (tgt := 1307) (dd DL_law_p3 85 rfl) (by decide) ?_
  exact kk _ H2
set_option maxRecDepth 100000 in
set_option maxHeartbeats 4000000 in
theorem lz_untell {l : Launch} {E : sk_V} {d : Nat} {h : sk_M} {Q : Option Value → sk_M → Prop} {i : Nat} (hI : i + 6 ≤ sk_L E) (hL : sk_L E < 2147483648) (H : Inv h) (kk : ∀ h2, Inv h2 → sk_S l E (d + 201) ML_law 1307 [some (.ref 67), some (.ref 0), some (.ref 54), some (.int (nI i))] [] h2 Q) : sk_S l E (d + 201) ML_law 526 [some (.ref 67), some (.ref 0), some (.ref 54), some (.int (nI i))] [] h Q := by
  refine sk_S.aload_n (i := 1) (dd DL_law_p3 86 rfl) rfl rfl ?_
  refine sk_S.aload_n (i := 0) (dd DL_law_p3 87 rfl) rfl rfl ?_
  refine sk_S.iload_n (i := 3) (dd DL_law_p3 88 rfl) rfl rfl ?_
  refine sk_S.iconst (v := 1) (dd DL_law_p3 89 rfl) (by decide) ?_
  refine sk_S.iadd (dd DL_law_p3 90 rfl) ?_
  refine sk_S.roald (dd DL_law_p3 91 rfl) rfl (sk_ix_nI (k := i + 1) (nI_add i 1) (by omega) hL) rfl ?_
  refine sk_S.callV (dd DL_law_p3 92 rfl) rfl kL_58 (st_untell H) se_0 (by decide) rfl rfl rfl rfl (Nat.le_of_ble_eq_true rfl) (fun r532 h532 q532 => ?_)
  obtain ⟨v1, rfl, k1⟩ := q532
  show sk_S _ _ _ _ _ _ (.int _ :: _) _ _
  refine sk_S.pop (dd DL_law_p3 93 rfl) rfl ?_
  refine sk_S.aload_n (i := 2) (dd DL_law_p3 94 rfl) rfl rfl ?_
  refine sk_S.aload_n (i := 0) (dd DL_law_p3 95 rfl) rfl rfl ?_
  refine sk_S.iload_n (i := 3) (dd DL_law_p3 96 rfl) rfl rfl ?_
  refine sk_S.iconst (v := 1) (dd DL_law_p3 97 rfl) (by decide) ?_
  refine sk_S.iadd (dd DL_law_p3 98 rfl) ?_
  refine sk_S.roald (dd DL_law_p3 99 rfl) rfl (sk_ix_nI (k := i + 1) (nI_add i 1) (by omega) hL) rfl ?_
  refine sk_S.callV (dd DL_law_p4 0 rfl) rfl kL_61 k1 se_54 (by decide) rfl rfl rfl rfl (Nat.le_of_ble_eq_true rfl) (fun r542 h542 q542 => ?_)
  obtain ⟨w1, rfl, H2, e2⟩ := q542
  show sk_S _ _ _ _ _ _ (.int _ :: _) _ _
  refine sk_S.pop (dd DL_law_p4 1 rfl) rfl ?_
  refine sk_S.goto (tgt := 1307) (dd DL_law_p4 2 rfl) (by decide) ?_
  exact kk _ H2
set_option maxRecDepth 100000 in
set_option maxHeartbeats 4000000 in
theorem lz_law {l : Launch} {E : sk_V} {d : Nat} {h : sk_M} {Q : Option Value → sk_M → Prop} {i : Nat} (hI : i + 6 ≤ sk_L E) (hL : sk_L E < 2147483648) (H : Inv h) (kk : ∀ h2, Inv h2 → sk_S l E (d + 201) ML_law 1307 [some (.ref 67), some (.ref 0), some (.ref 54), some (.int (nI i))] [] h2 Q) : sk_S l E (d + 201) ML_law 549 [some (.ref 67), some (.ref 0), some (.ref 54), some (.int (nI i))] [] h Q := by
  refine sk_S.aload_n (i := 1) (dd DL_law_p4 3 rfl) rfl rfl ?_
  refine sk_S.aload_n (i := 0) (dd DL_law_p4 4 rfl) rfl rfl ?_
  refine sk_S.iload_n (i := 3) (dd DL_law_p4 5 rfl) rfl rfl ?_
  refine sk_S.iconst (v := 1) (dd DL_law_p4 6 rfl) (by decide) ?_
  refine sk_S.iadd (dd DL_law_p4 7 rfl) ?_
  refine sk_S.roald (dd DL_law_p4 8 rfl) rfl (sk_ix_nI (k := i + 1) (nI_add i 1) (by omega) hL) rfl ?_
  refine sk_S.aload_n (i := 0) (dd DL_law_p4 9 rfl) rfl rfl ?_
  refine sk_S.iload_n (i := 3) (dd DL_law_p4 10 rfl) rfl rfl ?_
  refine sk_S.iconst (v := 2) (dd DL_law_p4 11 rfl) (by decide) ?_
  refine sk_S.iadd (dd DL_law_p4 12 rfl) ?_
  refine sk_S.roald (dd DL_law_p4 13 rfl) rfl (sk_ix_nI (k := i + 2) (nI_add i 2) (by omega) hL) rfl ?_
  refine sk_S.aload_n (i := 0) (dd DL_law_p4 14 rfl) rfl rfl ?_
  refine sk_S.iload_n (i := 3) (dd DL_law_p4 15 rfl) rfl rfl ?_
  refine sk_S.iconst (v := 3) (dd DL_law_p4 16 rfl) (by decide) ?_
  refine sk_S.iadd (dd DL_law_p4 17 rfl) ?_
  refine sk_S.roald (dd DL_law_p4 18 rfl) rfl (sk_ix_nI (k := i + 3) (nI_add i 3) (by omega) hL) rfl ?_
  refine sk_S.aload_n (i := 0) (dd DL_law_p4 19 rfl) rfl rfl ?_
  refine sk_S.iload_n (i := 3) (dd DL_law_p4 20 rfl) rfl rfl ?_
  refine sk_S.iconst (v := 4) (dd DL_law_p4 21 rfl) (by decide) ?_
  refine sk_S.iadd (dd DL_law_p4 22 rfl) ?_
  refine sk_S.roald (dd DL_law_p4 23 rfl) rfl (sk_ix_nI (k := i + 4) (nI_add i 4) (by omega) hL) rfl ?_
  refine sk_S.callV (dd DL_law_p4 24 rfl) rfl kL_62 (st_law H) se_0 (by decide) rfl rfl rfl rfl (Nat.le_of_ble_eq_true rfl) (fun r570 h570 q570 => ?_)
  obtain ⟨v1, rfl, k1⟩ := q570
  show sk_S _ _ _ _ _ _ (.int _ :: _) _ _
  refine sk_S.pop (dd DL_law_p4 25 rfl) rfl ?_
  refine sk_S.aload_n (i := 2) (dd DL_law_p4 26 rfl) rfl rfl ?_
  refine sk_S.aload_n (i := 0) (dd DL_law_p4 27 rfl) rfl rfl ?_
  refine sk_S.iload_n (i := 3) (dd DL_law_p4 28 rfl) rfl rfl ?_
  refine sk_S.iconst (v := 1) (dd DL_law_p4 29 rfl) (by decide) ?_
  refine sk_S.iadd (dd DL_law_p4 30 rfl) ?_
  refine sk_S.roald (dd DL_law_p4 31 rfl) rfl (sk_ix_nI (k := i + 1) (nI_add i 1) (by omega) hL) rfl ?_
  refine sk_S.aload_n (i := 0) (dd DL_law_p4 32 rfl) rfl rfl ?_
  refine sk_S.iload_n (i := 3) (dd DL_law_p4 33 rfl) rfl rfl ?_
  refine sk_S.iconst (v := 2) (dd DL_law_p4 34 rfl) (by decide) ?_
  refine sk_S.iadd (dd DL_law_p4 35 rfl) ?_
  refine sk_S.roald (dd DL_law_p4 36 rfl) rfl (sk_ix_nI (k := i + 2) (nI_add i 2) (by omega) hL) rfl ?_
  refine sk_S.aload_n (i := 0) (dd DL_law_p4 37 rfl) rfl rfl ?_
  refine sk_S.iload_n (i := 3) (dd DL_law_p4 38 rfl) rfl rfl ?_
  refine sk_S.iconst (v := 3) (dd DL_law_p4 39 rfl) (by decide) ?_
  refine sk_S.iadd (dd DL_law_p4 40 rfl) ?_
  refine sk_S.roald (dd DL_law_p4 41 rfl) rfl (sk_ix_nI (k := i + 3) (nI_add i 3) (by omega) hL) rfl ?_
  refine sk_S.aload_n (i := 0) (dd DL_law_p4 42 rfl) rfl rfl ?_
  refine sk_S.iload_n (i := 3) (dd DL_law_p4 43 rfl) rfl rfl ?_
  refine sk_S.iconst (v := 4) (dd DL_law_p4 44 rfl) (by decide) ?_
  refine sk_S.iadd (dd DL_law_p4 45 rfl) ?_
  refine sk_S.roald (dd DL_law_p4 46 rfl) rfl (sk_ix_nI (k := i + 4) (nI_add i 4) (by omega) hL) rfl ?_
  refine sk_S.callV (dd DL_law_p4 47 rfl) rfl kL_66 k1 se_54 (by decide) rfl rfl rfl rfl (Nat.le_of_ble_eq_true rfl) (fun r595 h595 q595 => ?_)
  obtain ⟨w1, rfl, H2, e2⟩ := q595
  show sk_S _ _ _ _ _ _ (.int _ :: _) _ _
  refine sk_S.pop (dd DL_law_p4 48 rfl) rfl ?_
  refine sk_S.goto (tgt := 1307) (dd DL_law_p4 49 rfl) (by decide) ?_
  exact kk _ H2
set_option maxRecDepth 100000 in
set_option maxHeartbeats 4000000 in
theorem lz_tally {l : Launch} {E : sk_V} {d : Nat} {h : sk_M} {Q : Option Value → sk_M → Prop} {i : Nat} (hI : i + 6 ≤ sk_L E) (hL : sk_L E < 2147483648) (H : Inv h) (kk : ∀ h2, Inv h2 → sk_S l E (d + 201) ML_law 1307 [some (.ref 67), some (.ref 0), some (.ref 54), some (.int (nI i))] [] h2 Q) : sk_S l E (d + 201) ML_law 602 [some (.ref 67), some (.ref 0), some (.ref 54), some (.int (nI i))] [] h Q := by
  refine sk_S.aload_n (i := 1) (dd DL_law_p4 50 rfl) rfl rfl ?_
  refine sk_S.callV (dd DL_law_p4 51 rfl) rfl kL_67 (st_tally H) se_0 (by decide) rfl rfl rfl rfl (Nat.le_of_ble_eq_true rfl) (fun r603 h603 q603 => ?_)
  obtain ⟨v1, rfl, k1⟩ := q603
  show sk_S _ _ _ _ _ _ (.int _ :: _) _ _
  refine sk_S.pop (dd DL_law_p4 52 rfl) rfl ?_
  refine sk_S.aload_n (i := 2) (dd DL_law_p4 53 rfl) rfl rfl ?_
  refine sk_S.callV (dd DL_law_p4 54 rfl) rfl kL_71 k1 se_54 (by decide) rfl rfl rfl rfl (Nat.le_of_ble_eq_true rfl) (fun r608 h608 q608 => ?_)
  obtain ⟨w1, rfl, H2, e2⟩ := q608
  show sk_S _ _ _ _ _ _ (.int _ :: _) _ _
  refine sk_S.pop (dd DL_law_p4 55 rfl) rfl ?_
  refine sk_S.goto (tgt := 1307) (dd DL_law_p4 56 rfl) (by decide) ?_
  exact kk _ H2
set_option maxRecDepth 100000 in
set_option maxHeartbeats 4000000 in
theorem lz_loose {l : Launch} {E : sk_V} {d : Nat} {h : sk_M} {Q : Option Value → sk_M → Prop} {i : Nat} (hI : i + 6 ≤ sk_L E) (hL : sk_L E < 2147483648) (H : Inv h) (kk : ∀ h2, Inv h2 → sk_S l E (d + 201) ML_law 1307 [some (.ref 67), some (.ref 0), some (.ref 54), some (.int (nI i))] [] h2 Q) : sk_S l E (d + 201) ML_law 615 [some (.ref 67), some (.ref 0), some (.ref 54), some (.int (nI i))] [] h Q := by
  refine sk_S.aload_n (i := 1) (dd DL_law_p4 57 rfl) rfl rfl ?_
  refine sk_S.aload_n (i := 0) (dd DL_law_p4 58 rfl) rfl rfl ?_
  refine sk_S.iload_n (i := 3) (dd DL_law_p4 59 rfl) rfl rfl ?_
  refine sk_S.iconst (v := 1) (dd DL_law_p4 60 rfl) (by decide) ?_
  refine sk_S.iadd (dd DL_law_p4 61 rfl) ?_
  refine sk_S.roald (dd DL_law_p4 62 rfl) rfl (sk_ix_nI (k := i + 1) (nI_add i 1) (by omega) hL) rfl ?_
  refine sk_S.callV (dd DL_law_p4 63 rfl) rfl kL_72 (st_loose H) se_0 (by decide) rfl rfl rfl rfl (Nat.le_of_ble_eq_true rfl) (fun r621 h621 q621 => ?_)
  obtain ⟨v1, rfl, k1⟩ := q621
  show sk_S _ _ _ _ _ _ (.int _ :: _) _ _
  refine sk_S.pop (dd DL_law_p4 64 rfl) rfl ?_
  refine sk_S.aload_n (i := 2) (dd DL_law_p4 65 rfl) rfl rfl ?_
  refine sk_S.aload_n (i := 0) (dd DL_law_p4 66 rfl) rfl rfl ?_
  refine sk_S.iload_n (i := 3) (dd DL_law_p4 67 rfl) rfl rfl ?_
  refine sk_S.iconst (v := 1) (dd DL_law_p4 68 rfl) (by decide) ?_
  refine sk_S.iadd (dd DL_law_p4 69 rfl) ?_
  refine sk_S.roald (dd DL_law_p4 70 rfl) rfl (sk_ix_nI (k := i + 1) (nI_add i 1) (by omega) hL) rfl ?_
  refine sk_S.callV (dd DL_law_p4 71 rfl) rfl kL_75 k1 se_54 (by decide) rfl rfl rfl rfl (Nat.le_of_ble_eq_true rfl) (fun r631 h631 q631 => ?_)
  obtain ⟨w1, rfl, H2, e2⟩ := q631
  show sk_S _ _ _ _ _ _ (.int _ :: _) _ _
  refine sk_S.pop (dd DL_law_p4 72 rfl) rfl ?_
  refine sk_S.goto (tgt := 1307) (dd DL_law_p4 73 rfl) (by decide) ?_
  exact kk _ H2
set_option maxRecDepth 100000 in
set_option maxHeartbeats 4000000 in
theorem lz_seed {l : Launch} {E : sk_V} {d : Nat} {h : sk_M} {Q : Option Value → sk_M → Prop} {i : Nat} (hI : i + 6 ≤ sk_L E) (hL : sk_L E < 2147483648) (H : Inv h) (kk : ∀ h2, Inv h2 → sk_S l E (d + 201) ML_law 1307 [some (.ref 67), some (.ref 0), some (.ref 54), some (.int (nI i))] [] h2 Q) : sk_S l E (d + 201) ML_law 638 [some (.ref 67), some (.ref 0), some (.ref 54), some (.int (nI i))] [] h Q := by
  refine sk_S.aload_n (i := 1) (dd DL_law_p4 74 rfl) rfl rfl ?_
  refine sk_S.aload_n (i := 0) (dd DL_law_p4 75 rfl) rfl rfl ?_
  refine sk_S.iload_n (i := 3) (dd DL_law_p4 76 rfl) rfl rfl ?_
  refine sk_S.iconst (v := 1) (dd DL_law_p4 77 rfl) (by decide) ?_
  refine sk_S.iadd (dd DL_law_p4 78 rfl) ?_
  refine sk_S.roald (dd DL_law_p4 79 rfl) rfl (sk_ix_nI (k := i + 1) (nI_add i 1) (by omega) hL) rfl ?_
  refine sk_S.callV (dd DL_law_p4 80 rfl) rfl kL_76 (st_seed H) se_0 (by decide) rfl rfl rfl rfl (Nat.le_of_ble_eq_true rfl) (fun r644 h644 q644 => ?_)
  obtain ⟨v1, rfl, k1⟩ := q644
  show sk_S _ _ _ _ _ _ (.int _ :: _) _ _
  refine sk_S.pop (dd DL_law_p4 81 rfl) rfl ?_
  refine sk_S.aload_n (i := 2) (dd DL_law_p4 82 rfl) rfl rfl ?_
  refine sk_S.aload_n (i := 0) (dd DL_law_p4 83 rfl) rfl rfl ?_
  refine sk_S.iload_n (i := 3) (dd DL_law_p4 84 rfl) rfl rfl ?_
  refine sk_S.iconst (v := 1) (dd DL_law_p4 85 rfl) (by decide) ?_
  refine sk_S.iadd (dd DL_law_p4 86 rfl) ?_
  refine sk_S.roald (dd DL_law_p4 87 rfl) rfl (sk_ix_nI (k := i + 1) (nI_add i 1) (by omega) hL) rfl ?_
  refine sk_S.callV (dd DL_law_p4 88 rfl) rfl kL_79 k1 se_54 (by decide) rfl rfl rfl rfl (Nat.le_of_ble_eq_true rfl) (fun r654 h654 q654 => ?_)
  obtain ⟨w1, rfl, H2, e2⟩ := q654
  show sk_S _ _ _ _ _ _ (.int _ :: _) _ _
  refine sk_S.pop (dd DL_law_p4 89 rfl) rfl ?_
  refine sk_S.goto (tgt := 1307) (dd DL_law_p4 90 rfl) (by decide) ?_
  exact kk _ H2
set_option maxRecDepth 100000 in
set_option maxHeartbeats 4000000 in
theorem lz_catches {l : Launch} {E : sk_V} {d : Nat} {h : sk_M} {Q : Option Value → sk_M → Prop} {i : Nat} (hI : i + 6 ≤ sk_L E) (hL : sk_L E < 2147483648) (H : Inv h) (kk : ∀ h2, Inv h2 → sk_S l E (d + 201) ML_law 1307 [some (.ref 67), some (.ref 0), some (.ref 54), some (.int (nI i))] [] h2 Q) : sk_S l E (d + 201) ML_law 661 [some (.ref 67), some (.ref 0), some (.ref 54), some (.int (nI i))] [] h Q := by
  refine sk_S.aload_n (i := 1) (dd DL_law_p4 91 rfl) rfl rfl ?_
  refine sk_S.aload_n (i := 0) (dd DL_law_p4 92 rfl) rfl rfl ?_
  refine sk_S.iload_n (i := 3) (dd DL_law_p4 93 rfl) rfl rfl ?_
  refine sk_S.iconst (v := 1) (dd DL_law_p4 94 rfl) (by decide) ?_
  refine sk_S.iadd (dd DL_law_p4 95 rfl) ?_
  refine sk_S.roald (dd DL_law_p4 96 rfl) rfl (sk_ix_nI (k := i + 1) (nI_add i 1) (by omega) hL) rfl ?_
  refine sk_S.callV (dd DL_law_p4 97 rfl) rfl kL_80 (st_catches H) se_0 (by decide) rfl rfl rfl rfl (Nat.le_of_ble_eq_true rfl) (fun r667 h667 q667 => ?_)
  obtain ⟨v1, rfl, k1⟩ := q667
  show sk_S _ _ _ _ _ _ (.int _ :: _) _ _
  refine sk_S.pop (dd DL_law_p4 98 rfl) rfl ?_
  refine sk_S.aload_n (i := 2) (dd DL_law_p4 99 rfl) rfl rfl ?_
  refine sk_S.aload_n (i := 0) (dd DL_law_p5 0 rfl) rfl rfl ?_
  refine sk_S.iload_n (i := 3) (dd DL_law_p5 1 rfl) rfl rfl ?_
  refine sk_S.iconst (v := 1) (dd DL_law_p5 2 rfl) (by decide) ?_
  refine sk_S.iadd (dd DL_law_p5 3 rfl) ?_
  refine sk_S.roald (dd DL_law_p5 4 rfl) rfl (sk_ix_nI (k := i + 1) (nI_add i 1) (by omega) hL) rfl ?_
  refine sk_S.callV (dd DL_law_p5 5 rfl) rfl kL_83 k1 se_54 (by decide) rfl rfl rfl rfl (Nat.le_of_ble_eq_true rfl) (fun r677 h677 q677 => ?_)
  obtain ⟨w1, rfl, H2, e2⟩ := q677
  show sk_S _ _ _ _ _ _ (.int _ :: _) _ _
  refine sk_S.pop (dd DL_law_p5 6 rfl) rfl ?_
  refine sk_S.goto (tgt := 1307) (dd DL_law_p5 7 rfl) (by decide) ?_
  exact kk _ H2
set_option maxRecDepth 100000 in
set_option maxHeartbeats 4000000 in
theorem lz_safe {l : Launch} {E : sk_V} {d : Nat} {h : sk_M} {Q : Option Value → sk_M → Prop} {i : Nat} (hI : i + 6 ≤ sk_L E) (hL : sk_L E < 2147483648) (H : Inv h) (kk : ∀ h2, Inv h2 → sk_S l E (d + 201) ML_law 1307 [some (.ref 67), some (.ref 0), some (.ref 54), some (.int (nI i))] [] h2 Q) : sk_S l E (d + 201) ML_law 684 [some (.ref 67), some (.ref 0), some (.ref 54), some (.int (nI i))] [] h Q := by
  refine sk_S.aload_n (i := 1) (dd DL_law_p5 8 rfl) rfl rfl ?_
  refine sk_S.aload_n (i := 0) (dd DL_law_p5 9 rfl) rfl rfl ?_
  refine sk_S.iload_n (i := 3) (dd DL_law_p5 10 rfl) rfl rfl ?_
  refine sk_S.iconst (v := 1) (dd DL_law_p5 11 rfl) (by decide) ?_
  refine sk_S.iadd (dd DL_law_p5 12 rfl) ?_
  refine sk_S.roald (dd DL_law_p5 13 rfl) rfl (sk_ix_nI (k := i + 1) (nI_add i 1) (by omega) hL) rfl ?_
  refine sk_S.callV (dd DL_law_p5 14 rfl) rfl kL_84 (st_safe H) se_0 (by decide) rfl rfl rfl rfl (Nat.le_of_ble_eq_true rfl) (fun r690 h690 q690 => ?_)
  obtain ⟨v1, rfl, k1⟩ := q690
  show sk_S _ _ _ _ _ _ (.int _ :: _) _ _
  refine sk_S.pop (dd DL_law_p5 15 rfl) rfl ?_
  refine sk_S.aload_n (i := 2) (dd DL_law_p5 16 rfl) rfl rfl ?_
  refine sk_S.aload_n (i := 0) (dd DL_law_p5 17 rfl) rfl rfl ?_
  refine sk_S.iload_n (i := 3) (dd DL_law_p5 18 rfl) rfl rfl ?_
  refine sk_S.iconst (v := 1) (dd DL_law_p5 19 rfl) (by decide) ?_
  refine sk_S.iadd (dd DL_law_p5 20 rfl) ?_
  refine sk_S.roald (dd DL_law_p5 21 rfl) rfl (sk_ix_nI (k := i + 1) (nI_add i 1) (by omega) hL) rfl ?_
  refine sk_S.callV (dd DL_law_p5 22 rfl) rfl kL_87 k1 se_54 (by decide) rfl rfl rfl rfl (Nat.le_of_ble_eq_true rfl) (fun r700 h700 q700 => ?_)
  obtain ⟨w1, rfl, H2, e2⟩ := q700
  show sk_S _ _ _ _ _ _ (.int _ :: _) _ _
  refine sk_S.pop (dd DL_law_p5 23 rfl) rfl ?_
  refine sk_S.goto (tgt := 1307) (dd DL_law_p5 24 rfl) (by decide) ?_
  exact kk _ H2
set_option maxRecDepth 100000 in
set_option maxHeartbeats 4000000 in
theorem lz_best {l : Launch} {E : sk_V} {d : Nat} {h : sk_M} {Q : Option Value → sk_M → Prop} {i : Nat} (hI : i + 6 ≤ sk_L E) (hL : sk_L E < 2147483648) (H : Inv h) (kk : ∀ h2, Inv h2 → sk_S l E (d + 201) ML_law 1307 [some (.ref 67), some (.ref 0), some (.ref 54), some (.int (nI i))] [] h2 Q) : sk_S l E (d + 201) ML_law 707 [some (.ref 67), some (.ref 0), some (.ref 54), some (.int (nI i))] [] h Q := by
  refine sk_S.aload_n (i := 1) (dd DL_law_p5 25 rfl) rfl rfl ?_
  refine sk_S.aload_n (i := 0) (dd DL_law_p5 26 rfl) rfl rfl ?_
  refine sk_S.iload_n (i := 3) (dd DL_law_p5 27 rfl) rfl rfl ?_
  refine sk_S.iconst (v := 1) (dd DL_law_p5 28 rfl) (by decide) ?_
  refine sk_S.iadd (dd DL_law_p5 29 rfl) ?_
  refine sk_S.roald (dd DL_law_p5 30 rfl) rfl (sk_ix_nI (k := i + 1) (nI_add i 1) (by omega) hL) rfl ?_
  refine sk_S.aload_n (i := 0) (dd DL_law_p5 31 rfl) rfl rfl ?_
  refine sk_S.iload_n (i := 3) (dd DL_law_p5 32 rfl) rfl rfl ?_
  refine sk_S.iconst (v := 2) (dd DL_law_p5 33 rfl) (by decide) ?_
  refine sk_S.iadd (dd DL_law_p5 34 rfl) ?_
  refine sk_S.roald (dd DL_law_p5 35 rfl) rfl (sk_ix_nI (k := i + 2) (nI_add i 2) (by omega) hL) rfl ?_
  refine sk_S.callV (dd DL_law_p5 36 rfl) rfl kL_88 (st_best H) se_0 (by decide) rfl rfl rfl rfl (Nat.le_of_ble_eq_true rfl) (fun r718 h718 q718 => ?_)
  obtain ⟨v1, rfl, k1⟩ := q718
  show sk_S _ _ _ _ _ _ (.int _ :: _) _ _
  refine sk_S.pop (dd DL_law_p5 37 rfl) rfl ?_
  refine sk_S.aload_n (i := 2) (dd DL_law_p5 38 rfl) rfl rfl ?_
  refine sk_S.aload_n (i := 0) (dd DL_law_p5 39 rfl) rfl rfl ?_
  refine sk_S.iload_n (i := 3) (dd DL_law_p5 40 rfl) rfl rfl ?_
  refine sk_S.iconst (v := 1) (dd DL_law_p5 41 rfl) (by decide) ?_
  refine sk_S.iadd (dd DL_law_p5 42 rfl) ?_
  refine sk_S.roald (dd DL_law_p5 43 rfl) rfl (sk_ix_nI (k := i + 1) (nI_add i 1) (by omega) hL) rfl ?_
  refine sk_S.aload_n (i := 0) (dd DL_law_p5 44 rfl) rfl rfl ?_
  refine sk_S.iload_n (i := 3) (dd DL_law_p5 45 rfl) rfl rfl ?_
  refine sk_S.iconst (v := 2) (dd DL_law_p5 46 rfl) (by decide) ?_
  refine sk_S.iadd (dd DL_law_p5 47 rfl) ?_
  refine sk_S.roald (dd DL_law_p5 48 rfl) rfl (sk_ix_nI (k := i + 2) (nI_add i 2) (by omega) hL) rfl ?_
  refine sk_S.callV (dd DL_law_p5 49 rfl) rfl kL_91 k1 se_54 (by decide) rfl rfl rfl rfl (Nat.le_of_ble_eq_true rfl) (fun r733 h733 q733 => ?_)
  obtain ⟨w1, rfl, H2, e2⟩ := q733
  show sk_S _ _ _ _ _ _ (.int _ :: _) _ _
  refine sk_S.pop (dd DL_law_p5 50 rfl) rfl ?_
  refine sk_S.goto (tgt := 1307) (dd DL_law_p5 51 rfl) (by decide) ?_
  exact kk _ H2
set_option maxRecDepth 100000 in
set_option maxHeartbeats 4000000 in
theorem lz_agrees {l : Launch} {E : sk_V} {d : Nat} {h : sk_M} {Q : Option Value → sk_M → Prop} {i : Nat} (hI : i + 6 ≤ sk_L E) (hL : sk_L E < 2147483648) (H : Inv h) (kk : ∀ h2, Inv h2 → sk_S l E (d + 201) ML_law 1307 [some (.ref 67), some (.ref 0), some (.ref 54), some (.int (nI i))] [] h2 Q) : sk_S l E (d + 201) ML_law 740 [some (.ref 67), some (.ref 0), some (.ref 54), some (.int (nI i))] [] h Q := by
  refine sk_S.aload_n (i := 1) (dd DL_law_p5 52 rfl) rfl rfl ?_
  refine sk_S.aload_n (i := 0) (dd DL_law_p5 53 rfl) rfl rfl ?_
  refine sk_S.iload_n (i := 3) (dd DL_law_p5 54 rfl) rfl rfl ?_
  refine sk_S.iconst (v := 1) (dd DL_law_p5 55 rfl) (by decide) ?_
  refine sk_S.iadd (dd DL_law_p5 56 rfl) ?_
  refine sk_S.roald (dd DL_law_p5 57 rfl) rfl (sk_ix_nI (k := i + 1) (nI_add i 1) (by omega) hL) rfl ?_
  refine sk_S.aload_n (i := 0) (dd DL_law_p5 58 rfl) rfl rfl ?_
  refine sk_S.iload_n (i := 3) (dd DL_law_p5 59 rfl) rfl rfl ?_
  refine sk_S.iconst (v := 2) (dd DL_law_p5 60 rfl) (by decide) ?_
  refine sk_S.iadd (dd DL_law_p5 61 rfl) ?_
  refine sk_S.roald (dd DL_law_p5 62 rfl) rfl (sk_ix_nI (k := i + 2) (nI_add i 2) (by omega) hL) rfl ?_
  refine sk_S.callV (dd DL_law_p5 63 rfl) rfl kL_92 (st_agrees H) se_0 (by decide) rfl rfl rfl rfl (Nat.le_of_ble_eq_true rfl) (fun r751 h751 q751 => ?_)
  obtain ⟨v1, rfl, k1⟩ := q751
  show sk_S _ _ _ _ _ _ (.int _ :: _) _ _
  refine sk_S.pop (dd DL_law_p5 64 rfl) rfl ?_
  refine sk_S.aload_n (i := 2) (dd DL_law_p5 65 rfl) rfl rfl ?_
  refine sk_S.aload_n (i := 0) (dd DL_law_p5 66 rfl) rfl rfl ?_
  refine sk_S.iload_n (i := 3) (dd DL_law_p5 67 rfl) rfl rfl ?_
  refine sk_S.iconst (v := 1) (dd DL_law_p5 68 rfl) (by decide) ?_
  refine sk_S.iadd (dd DL_law_p5 69 rfl) ?_
  refine sk_S.roald (dd DL_law_p5 70 rfl) rfl (sk_ix_nI (k := i + 1) (nI_add i 1) (by omega) hL) rfl ?_
  refine sk_S.aload_n (i := 0) (dd DL_law_p5 71 rfl) rfl rfl ?_
  refine sk_S.iload_n (i := 3) (dd DL_law_p5 72 rfl) rfl rfl ?_
  refine sk_S.iconst (v := 2) (dd DL_law_p5 73 rfl) (by decide) ?_
  refine sk_S.iadd (dd DL_law_p5 74 rfl) ?_
  refine sk_S.roald (dd DL_law_p5 75 rfl) rfl (sk_ix_nI (k := i + 2) (nI_add i 2) (by omega) hL) rfl ?_
  refine sk_S.callV (dd DL_law_p5 76 rfl) rfl kL_95 k1 se_54 (by decide) rfl rfl rfl rfl (Nat.le_of_ble_eq_true rfl) (fun r766 h766 q766 => ?_)
  obtain ⟨w1, rfl, H2, e2⟩ := q766
  show sk_S _ _ _ _ _ _ (.int _ :: _) _ _
  refine sk_S.pop (dd DL_law_p5 77 rfl) rfl ?_
  refine sk_S.goto (tgt := 1307) (dd DL_law_p5 78 rfl) (by decide) ?_
  exact kk _ H2
set_option maxRecDepth 100000 in
set_option maxHeartbeats 4000000 in
theorem lz_needs {l : Launch} {E : sk_V} {d : Nat} {h : sk_M} {Q : Option Value → sk_M → Prop} {i : Nat} (hI : i + 6 ≤ sk_L E) (hL : sk_L E < 2147483648) (H : Inv h) (kk : ∀ h2, Inv h2 → sk_S l E (d + 201) ML_law 1307 [some (.ref 67), some (.ref 0), some (.ref 54), some (.int (nI i))] [] h2 Q) : sk_S l E (d + 201) ML_law 773 [some (.ref 67), some (.ref 0), some (.ref 54), some (.int (nI i))] [] h Q := by
  refine sk_S.aload_n (i := 1) (dd DL_law_p5 79 rfl) rfl rfl ?_
  refine sk_S.aload_n (i := 0) (dd DL_law_p5 80 rfl) rfl rfl ?_
  refine sk_S.iload_n (i := 3) (dd DL_law_p5 81 rfl) rfl rfl ?_
  refine sk_S.iconst (v := 1) (dd DL_law_p5 82 rfl) (by decide) ?_
  refine sk_S.iadd (dd DL_law_p5 83 rfl) ?_
  refine sk_S.roald (dd DL_law_p5 84 rfl) rfl (sk_ix_nI (k := i + 1) (nI_add i 1) (by omega) hL) rfl ?_
  refine sk_S.callV (dd DL_law_p5 85 rfl) rfl kL_96 (st_needs H) se_0 (by decide) rfl rfl rfl rfl (Nat.le_of_ble_eq_true rfl) (fun r779 h779 q779 => ?_)
  obtain ⟨v1, rfl, k1⟩ := q779
  show sk_S _ _ _ _ _ _ (.int _ :: _) _ _
  refine sk_S.pop (dd DL_law_p5 86 rfl) rfl ?_
  refine sk_S.aload_n (i := 2) (dd DL_law_p5 87 rfl) rfl rfl ?_
  refine sk_S.aload_n (i := 0) (dd DL_law_p5 88 rfl) rfl rfl ?_
  refine sk_S.iload_n (i := 3) (dd DL_law_p5 89 rfl) rfl rfl ?_
  refine sk_S.iconst (v := 1) (dd DL_law_p5 90 rfl) (by decide) ?_
  refine sk_S.iadd (dd DL_law_p5 91 rfl) ?_
  refine sk_S.roald (dd DL_law_p5 92 rfl) rfl (sk_ix_nI (k := i + 1) (nI_add i 1) (by omega) hL) rfl ?_
  refine sk_S.callV (dd DL_law_p5 93 rfl) rfl kL_99 k1 se_54 (by decide) rfl rfl rfl rfl (Nat.le_of_ble_eq_true rfl) (fun r789 h789 q789 => ?_)
  obtain ⟨w1, rfl, H2, e2⟩ := q789
  show sk_S _ _ _ _ _ _ (.int _ :: _) _ _
  refine sk_S.pop (dd DL_law_p5 94 rfl) rfl ?_
  refine sk_S.goto (tgt := 1307) (dd DL_law_p5 95 rfl) (by decide) ?_
  exact kk _ H2
set_option maxRecDepth 100000 in
set_option maxHeartbeats 4000000 in
theorem lz_soonest {l : Launch} {E : sk_V} {d : Nat} {h : sk_M} {Q : Option Value → sk_M → Prop} {i : Nat} (hI : i + 6 ≤ sk_L E) (hL : sk_L E < 2147483648) (H : Inv h) (kk : ∀ h2, Inv h2 → sk_S l E (d + 201) ML_law 1307 [some (.ref 67), some (.ref 0), some (.ref 54), some (.int (nI i))] [] h2 Q) : sk_S l E (d + 201) ML_law 796 [some (.ref 67), some (.ref 0), some (.ref 54), some (.int (nI i))] [] h Q := by
  refine sk_S.aload_n (i := 1) (dd DL_law_p5 96 rfl) rfl rfl ?_
  refine sk_S.aload_n (i := 0) (dd DL_law_p5 97 rfl) rfl rfl ?_
  refine sk_S.iload_n (i := 3) (dd DL_law_p5 98 rfl) rfl rfl ?_
  refine sk_S.iconst (v := 1) (dd DL_law_p5 99 rfl) (by decide) ?_
  refine sk_S.iadd (dd DL_law_p6 0 rfl) ?_
  refine sk_S.roald (dd DL_law_p6 1 rfl) rfl (sk_ix_nI (k := i + 1) (nI_add i 1) (by omega) hL) rfl ?_
  refine sk_S.aload_n (i := 0) (dd DL_law_p6 2 rfl) rfl rfl ?_
  refine sk_S.iload_n (i := 3) (dd DL_law_p6 3 rfl) rfl rfl ?_
  refine sk_S.iconst (v := 2) (dd DL_law_p6 4 rfl) (by decide) ?_
  refine sk_S.iadd (dd DL_law_p6 5 rfl) ?_
  refine sk_S.roald (dd DL_law_p6 6 rfl) rfl (sk_ix_nI (k := i + 2) (nI_add i 2) (by omega) hL) rfl ?_
  refine sk_S.callV (dd DL_law_p6 7 rfl) rfl kL_100 (st_soonest H) se_0 (by decide) rfl rfl rfl rfl (Nat.le_of_ble_eq_true rfl) (fun r807 h807 q807 => ?_)
  obtain ⟨v1, rfl, k1⟩ := q807
  show sk_S _ _ _ _ _ _ (.int _ :: _) _ _
  refine sk_S.pop (dd DL_law_p6 8 rfl) rfl ?_
  refine sk_S.aload_n (i := 2) (dd DL_law_p6 9 rfl) rfl rfl ?_
  refine sk_S.aload_n (i := 0) (dd DL_law_p6 10 rfl) rfl rfl ?_
  refine sk_S.iload_n (i := 3) (dd DL_law_p6 11 rfl) rfl rfl ?_
  refine sk_S.iconst (v := 1) (dd DL_law_p6 12 rfl) (by decide) ?_
  refine sk_S.iadd (dd DL_law_p6 13 rfl) ?_
  refine sk_S.roald (dd DL_law_p6 14 rfl) rfl (sk_ix_nI (k := i + 1) (nI_add i 1) (by omega) hL) rfl ?_
  refine sk_S.aload_n (i := 0) (dd DL_law_p6 15 rfl) rfl rfl ?_
  refine sk_S.iload_n (i := 3) (dd DL_law_p6 16 rfl) rfl rfl ?_
  refine sk_S.iconst (v := 2) (dd DL_law_p6 17 rfl) (by decide) ?_
  refine sk_S.iadd (dd DL_law_p6 18 rfl) ?_
  refine sk_S.roald (dd DL_law_p6 19 rfl) rfl (sk_ix_nI (k := i + 2) (nI_add i 2) (by omega) hL) rfl ?_
  refine sk_S.callV (dd DL_law_p6 20 rfl) rfl kL_103 k1 se_54 (by decide) rfl rfl rfl rfl (Nat.le_of_ble_eq_true rfl) (fun r822 h822 q822 => ?_)
  obtain ⟨w1, rfl, H2, e2⟩ := q822
  show sk_S _ _ _ _ _ _ (.int _ :: _) _ _
  refine sk_S.pop (dd DL_law_p6 21 rfl) rfl ?_
  refine sk_S.goto (tgt := 1307) (dd DL_law_p6 22 rfl) (by decide) ?_
  exact kk _ H2
set_option maxRecDepth 100000 in
set_option maxHeartbeats 4000000 in
theorem lz_odds {l : Launch} {E : sk_V} {d : Nat} {h : sk_M} {Q : Option Value → sk_M → Prop} {i : Nat} (hI : i + 6 ≤ sk_L E) (hL : sk_L E < 2147483648) (H : Inv h) (kk : ∀ h2, Inv h2 → sk_S l E (d + 201) ML_law 1307 [some (.ref 67), some (.ref 0), some (.ref 54), some (.int (nI i))] [] h2 Q) : sk_S l E (d + 201) ML_law 829 [some (.ref 67), some (.ref 0), some (.ref 54), some (.int (nI i))] [] h Q := by
  refine sk_S.aload_n (i := 1) (dd DL_law_p6 23 rfl) rfl rfl ?_
  refine sk_S.aload_n (i := 0) (dd DL_law_p6 24 rfl) rfl rfl ?_
  refine sk_S.iload_n (i := 3) (dd DL_law_p6 25 rfl) rfl rfl ?_
  refine sk_S.iconst (v := 1) (dd DL_law_p6 26 rfl) (by decide) ?_
  refine sk_S.iadd (dd DL_law_p6 27 rfl) ?_
  refine sk_S.roald (dd DL_law_p6 28 rfl) rfl (sk_ix_nI (k := i + 1) (nI_add i 1) (by omega) hL) rfl ?_
  refine sk_S.aload_n (i := 0) (dd DL_law_p6 29 rfl) rfl rfl ?_
  refine sk_S.iload_n (i := 3) (dd DL_law_p6 30 rfl) rfl rfl ?_
  refine sk_S.iconst (v := 2) (dd DL_law_p6 31 rfl) (by decide) ?_
  refine sk_S.iadd (dd DL_law_p6 32 rfl) ?_
  refine sk_S.roald (dd DL_law_p6 33 rfl) rfl (sk_ix_nI (k := i + 2) (nI_add i 2) (by omega) hL) rfl ?_
  refine sk_S.aload_n (i := 0) (dd DL_law_p6 34 rfl) rfl rfl ?_
  refine sk_S.iload_n (i := 3) (dd DL_law_p6 35 rfl) rfl rfl ?_
  refine sk_S.iconst (v := 3) (dd DL_law_p6 36 rfl) (by decide) ?_
  refine sk_S.iadd (dd DL_law_p6 37 rfl) ?_
  refine sk_S.roald (dd DL_law_p6 38 rfl) rfl (sk_ix_nI (k := i + 3) (nI_add i 3) (by omega) hL) rfl ?_
  refine sk_S.callV (dd DL_law_p6 39 rfl) rfl kL_104 (st_odds H) se_0 (by decide) rfl rfl rfl rfl (Nat.le_of_ble_eq_true rfl) (fun r845 h845 q845 => ?_)
  obtain ⟨v1, rfl, k1⟩ := q845
  show sk_S _ _ _ _ _ _ (.int _ :: _) _ _
  refine sk_S.pop (dd DL_law_p6 40 rfl) rfl ?_
  refine sk_S.aload_n (i := 2) (dd DL_law_p6 41 rfl) rfl rfl ?_
  refine sk_S.aload_n (i := 0) (dd DL_law_p6 42 rfl) rfl rfl ?_
  refine sk_S.iload_n (i := 3) (dd DL_law_p6 43 rfl) rfl rfl ?_
  refine sk_S.iconst (v := 1) (dd DL_law_p6 44 rfl) (by decide) ?_
  refine sk_S.iadd (dd DL_law_p6 45 rfl) ?_
  refine sk_S.roald (dd DL_law_p6 46 rfl) rfl (sk_ix_nI (k := i + 1) (nI_add i 1) (by omega) hL) rfl ?_
  refine sk_S.aload_n (i := 0) (dd DL_law_p6 47 rfl) rfl rfl ?_
  refine sk_S.iload_n (i := 3) (dd DL_law_p6 48 rfl) rfl rfl ?_
  refine sk_S.iconst (v := 2) (dd DL_law_p6 49 rfl) (by decide) ?_
  refine sk_S.iadd (dd DL_law_p6 50 rfl) ?_
  refine sk_S.roald (dd DL_law_p6 51 rfl) rfl (sk_ix_nI (k := i + 2) (nI_add i 2) (by omega) hL) rfl ?_
  refine sk_S.aload_n (i := 0) (dd DL_law_p6 52 rfl) rfl rfl ?_
  refine sk_S.iload_n (i := 3) (dd DL_law_p6 53 rfl) rfl rfl ?_
  refine sk_S.iconst (v := 3) (dd DL_law_p6 54 rfl) (by decide) ?_
  refine sk_S.iadd (dd DL_law_p6 55 rfl) ?_
  refine sk_S.roald (dd DL_law_p6 56 rfl) rfl (sk_ix_nI (k := i + 3) (nI_add i 3) (by omega) hL) rfl ?_
  refine sk_S.callV (dd DL_law_p6 57 rfl) rfl kL_108 k1 se_54 (by decide) rfl rfl rfl rfl (Nat.le_of_ble_eq_true rfl) (fun r865 h865 q865 => ?_)
  obtain ⟨w1, rfl, H2, e2⟩ := q865
  show sk_S _ _ _ _ _ _ (.int _ :: _) _ _
  refine sk_S.pop (dd DL_law_p6 58 rfl) rfl ?_
  refine sk_S.goto (tgt := 1307) (dd DL_law_p6 59 rfl) (by decide) ?_
  exact kk _ H2
set_option maxRecDepth 100000 in
set_option maxHeartbeats 4000000 in
theorem lz_mean {l : Launch} {E : sk_V} {d : Nat} {h : sk_M} {Q : Option Value → sk_M → Prop} {i : Nat} (hI : i + 6 ≤ sk_L E) (hL : sk_L E < 2147483648) (H : Inv h) (kk : ∀ h2, Inv h2 → sk_S l E (d + 201) ML_law 1307 [some (.ref 67), some (.ref 0), some (.ref 54), some (.int (nI i))] [] h2 Q) : sk_S l E (d + 201) ML_law 872 [some (.ref 67), some (.ref 0), some (.ref 54), some (.int (nI i))] [] h Q := by
  refine sk_S.aload_n (i := 1) (dd DL_law_p6 60 rfl) rfl rfl ?_
  refine sk_S.aload_n (i := 0) (dd DL_law_p6 61 rfl) rfl rfl ?_
  refine sk_S.iload_n (i := 3) (dd DL_law_p6 62 rfl) rfl rfl ?_
  refine sk_S.iconst (v := 1) (dd DL_law_p6 63 rfl) (by decide) ?_
  refine sk_S.iadd (dd DL_law_p6 64 rfl) ?_
  refine sk_S.roald (dd DL_law_p6 65 rfl) rfl (sk_ix_nI (k := i + 1) (nI_add i 1) (by omega) hL) rfl ?_
  refine sk_S.aload_n (i := 0) (dd DL_law_p6 66 rfl) rfl rfl ?_
  refine sk_S.iload_n (i := 3) (dd DL_law_p6 67 rfl) rfl rfl ?_
  refine sk_S.iconst (v := 2) (dd DL_law_p6 68 rfl) (by decide) ?_
  refine sk_S.iadd (dd DL_law_p6 69 rfl) ?_
  refine sk_S.roald (dd DL_law_p6 70 rfl) rfl (sk_ix_nI (k := i + 2) (nI_add i 2) (by omega) hL) rfl ?_
  refine sk_S.callV (dd DL_law_p6 71 rfl) rfl kL_109 (st_mean H) se_0 (by decide) rfl rfl rfl rfl (Nat.le_of_ble_eq_true rfl) (fun r883 h883 q883 => ?_)
  obtain ⟨v1, rfl, k1⟩ := q883
  show sk_S _ _ _ _ _ _ (.int _ :: _) _ _
  refine sk_S.pop (dd DL_law_p6 72 rfl) rfl ?_
  refine sk_S.aload_n (i := 2) (dd DL_law_p6 73 rfl) rfl rfl ?_
  refine sk_S.aload_n (i := 0) (dd DL_law_p6 74 rfl) rfl rfl ?_
  refine sk_S.iload_n (i := 3) (dd DL_law_p6 75 rfl) rfl rfl ?_
  refine sk_S.iconst (v := 1) (dd DL_law_p6 76 rfl) (by decide) ?_
  refine sk_S.iadd (dd DL_law_p6 77 rfl) ?_
  refine sk_S.roald (dd DL_law_p6 78 rfl) rfl (sk_ix_nI (k := i + 1) (nI_add i 1) (by omega) hL) rfl ?_
  refine sk_S.aload_n (i := 0) (dd DL_law_p6 79 rfl) rfl rfl ?_
  refine sk_S.iload_n (i := 3) (dd DL_law_p6 80 rfl) rfl rfl ?_
  refine sk_S.iconst (v := 2) (dd DL_law_p6 81 rfl) (by decide) ?_
  refine sk_S.iadd (dd DL_law_p6 82 rfl) ?_
  refine sk_S.roald (dd DL_law_p6 83 rfl) rfl (sk_ix_nI (k := i + 2) (nI_add i 2) (by omega) hL) rfl ?_
  refine sk_S.callV (dd DL_law_p6 84 rfl) rfl kL_112 k1 se_54 (by decide) rfl rfl rfl rfl (Nat.le_of_ble_eq_true rfl) (fun r898 h898 q898 => ?_)
  obtain ⟨w1, rfl, H2, e2⟩ := q898
  show sk_S _ _ _ _ _ _ (.int _ :: _) _ _
  refine sk_S.pop (dd DL_law_p6 85 rfl) rfl ?_
  refine sk_S.goto (tgt := 1307) (dd DL_law_p6 86 rfl) (by decide) ?_
  exact kk _ H2
set_option maxRecDepth 100000 in
set_option maxHeartbeats 4000000 in
theorem lz_fits {l : Launch} {E : sk_V} {d : Nat} {h : sk_M} {Q : Option Value → sk_M → Prop} {i : Nat} (hI : i + 6 ≤ sk_L E) (hL : sk_L E < 2147483648) (H : Inv h) (kk : ∀ h2, Inv h2 → sk_S l E (d + 201) ML_law 1307 [some (.ref 67), some (.ref 0), some (.ref 54), some (.int (nI i))] [] h2 Q) : sk_S l E (d + 201) ML_law 905 [some (.ref 67), some (.ref 0), some (.ref 54), some (.int (nI i))] [] h Q := by
  refine sk_S.aload_n (i := 1) (dd DL_law_p6 87 rfl) rfl rfl ?_
  refine sk_S.aload_n (i := 0) (dd DL_law_p6 88 rfl) rfl rfl ?_
  refine sk_S.iload_n (i := 3) (dd DL_law_p6 89 rfl) rfl rfl ?_
  refine sk_S.iconst (v := 1) (dd DL_law_p6 90 rfl) (by decide) ?_
  refine sk_S.iadd (dd DL_law_p6 91 rfl) ?_
  refine sk_S.roald (dd DL_law_p6 92 rfl) rfl (sk_ix_nI (k := i + 1) (nI_add i 1) (by omega) hL) rfl ?_
  refine sk_S.aload_n (i := 0) (dd DL_law_p6 93 rfl) rfl rfl ?_
  refine sk_S.iload_n (i := 3) (dd DL_law_p6 94 rfl) rfl rfl ?_
  refine sk_S.iconst (v := 2) (dd DL_law_p6 95 rfl) (by decide) ?_
  refine sk_S.iadd (dd DL_law_p6 96 rfl) ?_
  refine sk_S.roald (dd DL_law_p6 97 rfl) rfl (sk_ix_nI (k := i + 2) (nI_add i 2) (by omega) hL) rfl ?_
  refine sk_S.callV (dd DL_law_p6 98 rfl) rfl kL_113 (st_fits H) se_0 (by decide) rfl rfl rfl rfl (Nat.le_of_ble_eq_true rfl) (fun r916 h916 q916 => ?_)
  obtain ⟨v1, rfl, k1⟩ := q916
  show sk_S _ _ _ _ _ _ (.int _ :: _) _ _
  refine sk_S.pop (dd DL_law_p6 99 rfl) rfl ?_
  refine sk_S.aload_n (i := 2) (dd DL_law_p7 0 rfl) rfl rfl ?_
  refine sk_S.aload_n (i := 0) (dd DL_law_p7 1 rfl) rfl rfl ?_
  refine sk_S.iload_n (i := 3) (dd DL_law_p7 2 rfl) rfl rfl ?_
  refine sk_S.iconst (v := 1) (dd DL_law_p7 3 rfl) (by decide) ?_
  refine sk_S.iadd (dd DL_law_p7 4 rfl) ?_
  refine sk_S.roald (dd DL_law_p7 5 rfl) rfl (sk_ix_nI (k := i + 1) (nI_add i 1) (by omega) hL) rfl ?_
  refine sk_S.aload_n (i := 0) (dd DL_law_p7 6 rfl) rfl rfl ?_
  refine sk_S.iload_n (i := 3) (dd DL_law_p7 7 rfl) rfl rfl ?_
  refine sk_S.iconst (v := 2) (dd DL_law_p7 8 rfl) (by decide) ?_
  refine sk_S.iadd (dd DL_law_p7 9 rfl) ?_
  refine sk_S.roald (dd DL_law_p7 10 rfl) rfl (sk_ix_nI (k := i + 2) (nI_add i 2) (by omega) hL) rfl ?_
  refine sk_S.callV (dd DL_law_p7 11 rfl) rfl kL_116 k1 se_54 (by decide) rfl rfl rfl rfl (Nat.le_of_ble_eq_true rfl) (fun r931 h931 q931 => ?_)
  obtain ⟨w1, rfl, H2⟩ := q931
  show sk_S _ _ _ _ _ _ (.int _ :: _) _ _
  refine sk_S.pop (dd DL_law_p7 12 rfl) rfl ?_
  refine sk_S.goto (tgt := 1307) (dd DL_law_p7 13 rfl) (by decide) ?_
  exact kk _ H2
set_option maxRecDepth 100000 in
set_option maxHeartbeats 4000000 in
theorem lz_voice {l : Launch} {E : sk_V} {d : Nat} {h : sk_M} {Q : Option Value → sk_M → Prop} {i : Nat} (hI : i + 6 ≤ sk_L E) (hL : sk_L E < 2147483648) (H : Inv h) (kk : ∀ h2, Inv h2 → sk_S l E (d + 201) ML_law 1307 [some (.ref 67), some (.ref 0), some (.ref 54), some (.int (nI i))] [] h2 Q) : sk_S l E (d + 201) ML_law 938 [some (.ref 67), some (.ref 0), some (.ref 54), some (.int (nI i))] [] h Q := by
  refine sk_S.aload_n (i := 1) (dd DL_law_p7 14 rfl) rfl rfl ?_
  refine sk_S.aload_n (i := 0) (dd DL_law_p7 15 rfl) rfl rfl ?_
  refine sk_S.iload_n (i := 3) (dd DL_law_p7 16 rfl) rfl rfl ?_
  refine sk_S.iconst (v := 1) (dd DL_law_p7 17 rfl) (by decide) ?_
  refine sk_S.iadd (dd DL_law_p7 18 rfl) ?_
  refine sk_S.roald (dd DL_law_p7 19 rfl) rfl (sk_ix_nI (k := i + 1) (nI_add i 1) (by omega) hL) rfl ?_
  refine sk_S.aload_n (i := 0) (dd DL_law_p7 20 rfl) rfl rfl ?_
  refine sk_S.iload_n (i := 3) (dd DL_law_p7 21 rfl) rfl rfl ?_
  refine sk_S.iconst (v := 2) (dd DL_law_p7 22 rfl) (by decide) ?_
  refine sk_S.iadd (dd DL_law_p7 23 rfl) ?_
  refine sk_S.roald (dd DL_law_p7 24 rfl) rfl (sk_ix_nI (k := i + 2) (nI_add i 2) (by omega) hL) rfl ?_
  refine sk_S.aload_n (i := 0) (dd DL_law_p7 25 rfl) rfl rfl ?_
  refine sk_S.iload_n (i := 3) (dd DL_law_p7 26 rfl) rfl rfl ?_
  refine sk_S.iconst (v := 3) (dd DL_law_p7 27 rfl) (by decide) ?_
  refine sk_S.iadd (dd DL_law_p7 28 rfl) ?_
  refine sk_S.roald (dd DL_law_p7 29 rfl) rfl (sk_ix_nI (k := i + 3) (nI_add i 3) (by omega) hL) rfl ?_
  refine sk_S.callV (dd DL_law_p7 30 rfl) rfl kL_117 (st_voice H) se_0 (by decide) rfl rfl rfl rfl (Nat.le_of_ble_eq_true rfl) (fun r954 h954 q954 => ?_)
  obtain ⟨v1, rfl, k1⟩ := q954
  show sk_S _ _ _ _ _ _ (.int _ :: _) _ _
  refine sk_S.pop (dd DL_law_p7 31 rfl) rfl ?_
  refine sk_S.aload_n (i := 2) (dd DL_law_p7 32 rfl) rfl rfl ?_
  refine sk_S.aload_n (i := 0) (dd DL_law_p7 33 rfl) rfl rfl ?_
  refine sk_S.iload_n (i := 3) (dd DL_law_p7 34 rfl) rfl rfl ?_
  refine sk_S.iconst (v := 1) (dd DL_law_p7 35 rfl) (by decide) ?_
  refine sk_S.iadd (dd DL_law_p7 36 rfl) ?_
  refine sk_S.roald (dd DL_law_p7 37 rfl) rfl (sk_ix_nI (k := i + 1) (nI_add i 1) (by omega) hL) rfl ?_
  refine sk_S.aload_n (i := 0) (dd DL_law_p7 38 rfl) rfl rfl ?_
  refine sk_S.iload_n (i := 3) (dd DL_law_p7 39 rfl) rfl rfl ?_
  refine sk_S.iconst (v := 2) (dd DL_law_p7 40 rfl) (by decide) ?_
  refine sk_S.iadd (dd DL_law_p7 41 rfl) ?_
  refine sk_S.roald (dd DL_law_p7 42 rfl) rfl (sk_ix_nI (k := i + 2) (nI_add i 2) (by omega) hL) rfl ?_
  refine sk_S.aload_n (i := 0) (dd DL_law_p7 43 rfl) rfl rfl ?_
  refine sk_S.iload_n (i := 3) (dd DL_law_p7 44 rfl) rfl rfl ?_
  refine sk_S.iconst (v := 3) (dd DL_law_p7 45 rfl) (by decide) ?_
  refine sk_S.iadd (dd DL_law_p7 46 rfl) ?_
  refine sk_S.roald (dd DL_law_p7 47 rfl) rfl (sk_ix_nI (k := i + 3) (nI_add i 3) (by omega) hL) rfl ?_
  refine sk_S.callV (dd DL_law_p7 48 rfl) rfl kL_120 k1 se_54 (by decide) rfl rfl rfl rfl (Nat.le_of_ble_eq_true rfl) (fun r974 h974 q974 => ?_)
  obtain ⟨w1, rfl, H2, e2⟩ := q974
  show sk_S _ _ _ _ _ _ (.int _ :: _) _ _
  refine sk_S.pop (dd DL_law_p7 49 rfl) rfl ?_
  refine sk_S.goto (tgt := 1307) (dd DL_law_p7 50 rfl) (by decide) ?_
  exact kk _ H2
set_option maxRecDepth 100000 in
set_option maxHeartbeats 4000000 in
theorem lz_body {l : Launch} {E : sk_V} {d : Nat} {h : sk_M} {Q : Option Value → sk_M → Prop} {i : Nat} (hI : i + 6 ≤ sk_L E) (hL : sk_L E < 2147483648) (H : Inv h) (kk : ∀ h2, Inv h2 → sk_S l E (d + 201) ML_law 1307 [some (.ref 67), some (.ref 0), some (.ref 54), some (.int (nI i))] [] h2 Q) : sk_S l E (d + 201) ML_law 981 [some (.ref 67), some (.ref 0), some (.ref 54), some (.int (nI i))] [] h Q := by
  refine sk_S.aload_n (i := 1) (dd DL_law_p7 51 rfl) rfl rfl ?_
  refine sk_S.aload_n (i := 0) (dd DL_law_p7 52 rfl) rfl rfl ?_
  refine sk_S.iload_n (i := 3) (dd DL_law_p7 53 rfl) rfl rfl ?_
  refine sk_S.iconst (v := 1) (dd DL_law_p7 54 rfl) (by decide) ?_
  refine sk_S.iadd (dd DL_law_p7 55 rfl) ?_
  refine sk_S.roald (dd DL_law_p7 56 rfl) rfl (sk_ix_nI (k := i + 1) (nI_add i 1) (by omega) hL) rfl ?_
  refine sk_S.callV (dd DL_law_p7 57 rfl) rfl kL_121 (st_body H) se_0 (by decide) rfl rfl rfl rfl (Nat.le_of_ble_eq_true rfl) (fun r987 h987 q987 => ?_)
  obtain ⟨v1, rfl, k1⟩ := q987
  show sk_S _ _ _ _ _ _ (.int _ :: _) _ _
  refine sk_S.pop (dd DL_law_p7 58 rfl) rfl ?_
  refine sk_S.aload_n (i := 2) (dd DL_law_p7 59 rfl) rfl rfl ?_
  refine sk_S.aload_n (i := 0) (dd DL_law_p7 60 rfl) rfl rfl ?_
  refine sk_S.iload_n (i := 3) (dd DL_law_p7 61 rfl) rfl rfl ?_
  refine sk_S.iconst (v := 1) (dd DL_law_p7 62 rfl) (by decide) ?_
  refine sk_S.iadd (dd DL_law_p7 63 rfl) ?_
  refine sk_S.roald (dd DL_law_p7 64 rfl) rfl (sk_ix_nI (k := i + 1) (nI_add i 1) (by omega) hL) rfl ?_
  refine sk_S.callV (dd DL_law_p7 65 rfl) rfl kL_124 k1 se_54 (by decide) rfl rfl rfl rfl (Nat.le_of_ble_eq_true rfl) (fun r997 h997 q997 => ?_)
  obtain ⟨w1, rfl, H2, e2⟩ := q997
  show sk_S _ _ _ _ _ _ (.int _ :: _) _ _
  refine sk_S.pop (dd DL_law_p7 66 rfl) rfl ?_
  refine sk_S.goto (tgt := 1307) (dd DL_law_p7 67 rfl) (by decide) ?_
  exact kk _ H2
set_option maxRecDepth 100000 in
set_option maxHeartbeats 4000000 in
theorem lz_sheet {l : Launch} {E : sk_V} {d : Nat} {h : sk_M} {Q : Option Value → sk_M → Prop} {i : Nat} (hI : i + 6 ≤ sk_L E) (hL : sk_L E < 2147483648) (H : Inv h) (kk : ∀ h2, Inv h2 → sk_S l E (d + 201) ML_law 1307 [some (.ref 67), some (.ref 0), some (.ref 54), some (.int (nI i))] [] h2 Q) : sk_S l E (d + 201) ML_law 1004 [some (.ref 67), some (.ref 0), some (.ref 54), some (.int (nI i))] [] h Q := by
  refine sk_S.aload_n (i := 1) (dd DL_law_p7 68 rfl) rfl rfl ?_
  refine sk_S.aload_n (i := 0) (dd DL_law_p7 69 rfl) rfl rfl ?_
  refine sk_S.iload_n (i := 3) (dd DL_law_p7 70 rfl) rfl rfl ?_
  refine sk_S.iconst (v := 1) (dd DL_law_p7 71 rfl) (by decide) ?_
  refine sk_S.iadd (dd DL_law_p7 72 rfl) ?_
  refine sk_S.roald (dd DL_law_p7 73 rfl) rfl (sk_ix_nI (k := i + 1) (nI_add i 1) (by omega) hL) rfl ?_
  refine sk_S.aload_n (i := 0) (dd DL_law_p7 74 rfl) rfl rfl ?_
  refine sk_S.iload_n (i := 3) (dd DL_law_p7 75 rfl) rfl rfl ?_
  refine sk_S.iconst (v := 2) (dd DL_law_p7 76 rfl) (by decide) ?_
  refine sk_S.iadd (dd DL_law_p7 77 rfl) ?_
  refine sk_S.roald (dd DL_law_p7 78 rfl) rfl (sk_ix_nI (k := i + 2) (nI_add i 2) (by omega) hL) rfl ?_
  refine sk_S.aload_n (i := 0) (dd DL_law_p7 79 rfl) rfl rfl ?_
  refine sk_S.iload_n (i := 3) (dd DL_law_p7 80 rfl) rfl rfl ?_
  refine sk_S.iconst (v := 3) (dd DL_law_p7 81 rfl) (by decide) ?_
  refine sk_S.iadd (dd DL_law_p7 82 rfl) ?_
  refine sk_S.roald (dd DL_law_p7 83 rfl) rfl (sk_ix_nI (k := i + 3) (nI_add i 3) (by omega) hL) rfl ?_
  refine sk_S.callV (dd DL_law_p7 84 rfl) rfl kL_125 (st_sheet H) se_0 (by decide) rfl rfl rfl rfl (Nat.le_of_ble_eq_true rfl) (fun r1020 h1020 q1020 => ?_)
  obtain ⟨v1, rfl, k1⟩ := q1020
  show sk_S _ _ _ _ _ _ (.int _ :: _) _ _
  refine sk_S.pop (dd DL_law_p7 85 rfl) rfl ?_
  refine sk_S.aload_n (i := 2) (dd DL_law_p7 86 rfl) rfl rfl ?_
  refine sk_S.aload_n (i := 0) (dd DL_law_p7 87 rfl) rfl rfl ?_
  refine sk_S.iload_n (i := 3) (dd DL_law_p7 88 rfl) rfl rfl ?_
  refine sk_S.iconst (v := 1) (dd DL_law_p7 89 rfl) (by decide) ?_
  refine sk_S.iadd (dd DL_law_p7 90 rfl) ?_
  refine sk_S.roald (dd DL_law_p7 91 rfl) rfl (sk_ix_nI (k := i + 1) (nI_add i 1) (by omega) hL) rfl ?_
  refine sk_S.aload_n (i := 0) (dd DL_law_p7 92 rfl) rfl rfl ?_
  refine sk_S.iload_n (i := 3) (dd DL_law_p7 93 rfl) rfl rfl ?_
  refine sk_S.iconst (v := 2) (dd DL_law_p7 94 rfl) (by decide) ?_
  refine sk_S.iadd (dd DL_law_p7 95 rfl) ?_
  refine sk_S.roald (dd DL_law_p7 96 rfl) rfl (sk_ix_nI (k := i + 2) (nI_add i 2) (by omega) hL) rfl ?_
  refine sk_S.aload_n (i := 0) (dd DL_law_p7 97 rfl) rfl rfl ?_
  refine sk_S.iload_n (i := 3) (dd DL_law_p7 98 rfl) rfl rfl ?_
  refine sk_S.iconst (v := 3) (dd DL_law_p7 99 rfl) (by decide) ?_
  refine sk_S.iadd (dd DL_law_p8 0 rfl) ?_
  refine sk_S.roald (dd DL_law_p8 1 rfl) rfl (sk_ix_nI (k := i + 3) (nI_add i 3) (by omega) hL) rfl ?_
  refine sk_S.callV (dd DL_law_p8 2 rfl) rfl kL_128 k1 se_54 (by decide) rfl rfl rfl rfl (Nat.le_of_ble_eq_true rfl) (fun r1040 h1040 q1040 => ?_)
  obtain ⟨w1, rfl, H2, e2⟩ := q1040
  show sk_S _ _ _ _ _ _ (.int _ :: _) _ _
  refine sk_S.pop (dd DL_law_p8 3 rfl) rfl ?_
  refine sk_S.goto (tgt := 1307) (dd DL_law_p8 4 rfl) (by decide) ?_
  exact kk _ H2
set_option maxRecDepth 100000 in
set_option maxHeartbeats 4000000 in
theorem lz_put {l : Launch} {E : sk_V} {d : Nat} {h : sk_M} {Q : Option Value → sk_M → Prop} {i : Nat} (hI : i + 6 ≤ sk_L E) (hL : sk_L E < 2147483648) (H : Inv h) (kk : ∀ h2, Inv h2 → sk_S l E (d + 201) ML_law 1307 [some (.ref 67), some (.ref 0), some (.ref 54), some (.int (nI i))] [] h2 Q) : sk_S l E (d + 201) ML_law 1047 [some (.ref 67), some (.ref 0), some (.ref 54), some (.int (nI i))] [] h Q := by
  refine sk_S.aload_n (i := 1) (dd DL_law_p8 5 rfl) rfl rfl ?_
  refine sk_S.aload_n (i := 0) (dd DL_law_p8 6 rfl) rfl rfl ?_
  refine sk_S.iload_n (i := 3) (dd DL_law_p8 7 rfl) rfl rfl ?_
  refine sk_S.iconst (v := 1) (dd DL_law_p8 8 rfl) (by decide) ?_
  refine sk_S.iadd (dd DL_law_p8 9 rfl) ?_
  refine sk_S.roald (dd DL_law_p8 10 rfl) rfl (sk_ix_nI (k := i + 1) (nI_add i 1) (by omega) hL) rfl ?_
  refine sk_S.aload_n (i := 0) (dd DL_law_p8 11 rfl) rfl rfl ?_
  refine sk_S.iload_n (i := 3) (dd DL_law_p8 12 rfl) rfl rfl ?_
  refine sk_S.iconst (v := 2) (dd DL_law_p8 13 rfl) (by decide) ?_
  refine sk_S.iadd (dd DL_law_p8 14 rfl) ?_
  refine sk_S.roald (dd DL_law_p8 15 rfl) rfl (sk_ix_nI (k := i + 2) (nI_add i 2) (by omega) hL) rfl ?_
  refine sk_S.aload_n (i := 0) (dd DL_law_p8 16 rfl) rfl rfl ?_
  refine sk_S.iload_n (i := 3) (dd DL_law_p8 17 rfl) rfl rfl ?_
  refine sk_S.iconst (v := 3) (dd DL_law_p8 18 rfl) (by decide) ?_
  refine sk_S.iadd (dd DL_law_p8 19 rfl) ?_
  refine sk_S.roald (dd DL_law_p8 20 rfl) rfl (sk_ix_nI (k := i + 3) (nI_add i 3) (by omega) hL) rfl ?_
  refine sk_S.callV (dd DL_law_p8 21 rfl) rfl kL_129 (st_put H) se_0 (by decide) rfl rfl rfl rfl (Nat.le_of_ble_eq_true rfl) (fun r1063 h1063 q1063 => ?_)
  obtain ⟨v1, rfl, k1⟩ := q1063
  show sk_S _ _ _ _ _ _ (.int _ :: _) _ _
  refine sk_S.pop (dd DL_law_p8 22 rfl) rfl ?_
  refine sk_S.aload_n (i := 2) (dd DL_law_p8 23 rfl) rfl rfl ?_
  refine sk_S.aload_n (i := 0) (dd DL_law_p8 24 rfl) rfl rfl ?_
  refine sk_S.iload_n (i := 3) (dd DL_law_p8 25 rfl) rfl rfl ?_
  refine sk_S.iconst (v := 1) (dd DL_law_p8 26 rfl) (by decide) ?_
  refine sk_S.iadd (dd DL_law_p8 27 rfl) ?_
  refine sk_S.roald (dd DL_law_p8 28 rfl) rfl (sk_ix_nI (k := i + 1) (nI_add i 1) (by omega) hL) rfl ?_
  refine sk_S.aload_n (i := 0) (dd DL_law_p8 29 rfl) rfl rfl ?_
  refine sk_S.iload_n (i := 3) (dd DL_law_p8 30 rfl) rfl rfl ?_
  refine sk_S.iconst (v := 2) (dd DL_law_p8 31 rfl) (by decide) ?_
  refine sk_S.iadd (dd DL_law_p8 32 rfl) ?_
  refine sk_S.roald (dd DL_law_p8 33 rfl) rfl (sk_ix_nI (k := i + 2) (nI_add i 2) (by omega) hL) rfl ?_
  refine sk_S.aload_n (i := 0) (dd DL_law_p8 34 rfl) rfl rfl ?_
  refine sk_S.iload_n (i := 3) (dd DL_law_p8 35 rfl) rfl rfl ?_
  refine sk_S.iconst (v := 3) (dd DL_law_p8 36 rfl) (by decide) ?_
  refine sk_S.iadd (dd DL_law_p8 37 rfl) ?_
  refine sk_S.roald (dd DL_law_p8 38 rfl) rfl (sk_ix_nI (k := i + 3) (nI_add i 3) (by omega) hL) rfl ?_
  refine sk_S.callV (dd DL_law_p8 39 rfl) rfl kL_132 k1 se_54 (by decide) rfl rfl rfl rfl (Nat.le_of_ble_eq_true rfl) (fun r1083 h1083 q1083 => ?_)
  obtain ⟨w1, rfl, H2, e2⟩ := q1083
  show sk_S _ _ _ _ _ _ (.int _ :: _) _ _
  refine sk_S.pop (dd DL_law_p8 40 rfl) rfl ?_
  refine sk_S.goto (tgt := 1307) (dd DL_law_p8 41 rfl) (by decide) ?_
  exact kk _ H2
set_option maxRecDepth 100000 in
set_option maxHeartbeats 4000000 in
theorem lz_move {l : Launch} {E : sk_V} {d : Nat} {h : sk_M} {Q : Option Value → sk_M → Prop} {i : Nat} (hI : i + 6 ≤ sk_L E) (hL : sk_L E < 2147483648) (H : Inv h) (kk : ∀ h2, Inv h2 → sk_S l E (d + 201) ML_law 1307 [some (.ref 67), some (.ref 0), some (.ref 54), some (.int (nI i))] [] h2 Q) : sk_S l E (d + 201) ML_law 1090 [some (.ref 67), some (.ref 0), some (.ref 54), some (.int (nI i))] [] h Q := by
  refine sk_S.aload_n (i := 1) (dd DL_law_p8 42 rfl) rfl rfl ?_
  refine sk_S.aload_n (i := 0) (dd DL_law_p8 43 rfl) rfl rfl ?_
  refine sk_S.iload_n (i := 3) (dd DL_law_p8 44 rfl) rfl rfl ?_
  refine sk_S.iconst (v := 1) (dd DL_law_p8 45 rfl) (by decide) ?_
  refine sk_S.iadd (dd DL_law_p8 46 rfl) ?_
  refine sk_S.roald (dd DL_law_p8 47 rfl) rfl (sk_ix_nI (k := i + 1) (nI_add i 1) (by omega) hL) rfl ?_
  refine sk_S.aload_n (i := 0) (dd DL_law_p8 48 rfl) rfl rfl ?_
  refine sk_S.iload_n (i := 3) (dd DL_law_p8 49 rfl) rfl rfl ?_
  refine sk_S.iconst (v := 2) (dd DL_law_p8 50 rfl) (by decide) ?_
  refine sk_S.iadd (dd DL_law_p8 51 rfl) ?_
  refine sk_S.roald (dd DL_law_p8 52 rfl) rfl (sk_ix_nI (k := i + 2) (nI_add i 2) (by omega) hL) rfl ?_
  refine sk_S.aload_n (i := 0) (dd DL_law_p8 53 rfl) rfl rfl ?_
  refine sk_S.iload_n (i := 3) (dd DL_law_p8 54 rfl) rfl rfl ?_
  refine sk_S.iconst (v := 3) (dd DL_law_p8 55 rfl) (by decide) ?_
  refine sk_S.iadd (dd DL_law_p8 56 rfl) ?_
  refine sk_S.roald (dd DL_law_p8 57 rfl) rfl (sk_ix_nI (k := i + 3) (nI_add i 3) (by omega) hL) rfl ?_
  refine sk_S.aload_n (i := 0) (dd DL_law_p8 58 rfl) rfl rfl ?_
  refine sk_S.iload_n (i := 3) (dd DL_law_p8 59 rfl) rfl rfl ?_
  refine sk_S.iconst (v := 4) (dd DL_law_p8 60 rfl) (by decide) ?_
  refine sk_S.iadd (dd DL_law_p8 61 rfl) ?_
  refine sk_S.roald (dd DL_law_p8 62 rfl) rfl (sk_ix_nI (k := i + 4) (nI_add i 4) (by omega) hL) rfl ?_
  refine sk_S.aload_n (i := 0) (dd DL_law_p8 63 rfl) rfl rfl ?_
  refine sk_S.iload_n (i := 3) (dd DL_law_p8 64 rfl) rfl rfl ?_
  refine sk_S.iconst (v := 5) (dd DL_law_p8 65 rfl) (by decide) ?_
  refine sk_S.iadd (dd DL_law_p8 66 rfl) ?_
  refine sk_S.roald (dd DL_law_p8 67 rfl) rfl (sk_ix_nI (k := i + 5) (nI_add i 5) (by omega) hL) rfl ?_
  refine sk_S.callV (dd DL_law_p8 68 rfl) rfl kL_133 (st_move H) se_0 (by decide) rfl rfl rfl rfl (Nat.le_of_ble_eq_true rfl) (fun r1116 h1116 q1116 => ?_)
  obtain ⟨v1, rfl, k1⟩ := q1116
  show sk_S _ _ _ _ _ _ (.int _ :: _) _ _
  refine sk_S.pop (dd DL_law_p8 69 rfl) rfl ?_
  refine sk_S.aload_n (i := 2) (dd DL_law_p8 70 rfl) rfl rfl ?_
  refine sk_S.aload_n (i := 0) (dd DL_law_p8 71 rfl) rfl rfl ?_
  refine sk_S.iload_n (i := 3) (dd DL_law_p8 72 rfl) rfl rfl ?_
  refine sk_S.iconst (v := 1) (dd DL_law_p8 73 rfl) (by decide) ?_
  refine sk_S.iadd (dd DL_law_p8 74 rfl) ?_
  refine sk_S.roald (dd DL_law_p8 75 rfl) rfl (sk_ix_nI (k := i + 1) (nI_add i 1) (by omega) hL) rfl ?_
  refine sk_S.aload_n (i := 0) (dd DL_law_p8 76 rfl) rfl rfl ?_
  refine sk_S.iload_n (i := 3) (dd DL_law_p8 77 rfl) rfl rfl ?_
  refine sk_S.iconst (v := 2) (dd DL_law_p8 78 rfl) (by decide) ?_
  refine sk_S.iadd (dd DL_law_p8 79 rfl) ?_
  refine sk_S.roald (dd DL_law_p8 80 rfl) rfl (sk_ix_nI (k := i + 2) (nI_add i 2) (by omega) hL) rfl ?_
  refine sk_S.aload_n (i := 0) (dd DL_law_p8 81 rfl) rfl rfl ?_
  refine sk_S.iload_n (i := 3) (dd DL_law_p8 82 rfl) rfl rfl ?_
  refine sk_S.iconst (v := 3) (dd DL_law_p8 83 rfl) (by decide) ?_
  refine sk_S.iadd (dd DL_law_p8 84 rfl) ?_
  refine sk_S.roald (dd DL_law_p8 85 rfl) rfl (sk_ix_nI (k := i + 3) (nI_add i 3) (by omega) hL) rfl ?_
  refine sk_S.aload_n (i := 0) (dd DL_law_p8 86 rfl) rfl rfl ?_
  refine sk_S.iload_n (i := 3) (dd DL_law_p8 87 rfl) rfl rfl ?_
  refine sk_S.iconst (v := 4) (dd DL_law_p8 88 rfl) (by decide) ?_
  refine sk_S.iadd (dd DL_law_p8 89 rfl) ?_
  refine sk_S.roald (dd DL_law_p8 90 rfl) rfl (sk_ix_nI (k := i + 4) (nI_add i 4) (by omega) hL) rfl ?_
  refine sk_S.aload_n (i := 0) (dd DL_law_p8 91 rfl) rfl rfl ?_
  refine sk_S.iload_n (i := 3) (dd DL_law_p8 92 rfl) rfl rfl ?_
  refine sk_S.iconst (v := 5) (dd DL_law_p8 93 rfl) (by decide) ?_
  refine sk_S.iadd (dd DL_law_p8 94 rfl) ?_
  refine sk_S.roald (dd DL_law_p8 95 rfl) rfl (sk_ix_nI (k := i + 5) (nI_add i 5) (by omega) hL) rfl ?_
  refine sk_S.callV (dd DL_law_p8 96 rfl) rfl kL_137 k1 se_54 (by decide) rfl rfl rfl rfl (Nat.le_of_ble_eq_true rfl) (fun r1146 h1146 q1146 => ?_)
  obtain ⟨w1, rfl, H2, e2⟩ := q1146
  show sk_S _ _ _ _ _ _ (.int _ :: _) _ _
  refine sk_S.pop (dd DL_law_p8 97 rfl) rfl ?_
  refine sk_S.goto (tgt := 1307) (dd DL_law_p8 98 rfl) (by decide) ?_
  exact kk _ H2
set_option maxRecDepth 100000 in
set_option maxHeartbeats 4000000 in
theorem lz_prices {l : Launch} {E : sk_V} {d : Nat} {h : sk_M} {Q : Option Value → sk_M → Prop} {i : Nat} (hI : i + 6 ≤ sk_L E) (hL : sk_L E < 2147483648) (H : Inv h) (kk : ∀ h2, Inv h2 → sk_S l E (d + 201) ML_law 1307 [some (.ref 67), some (.ref 0), some (.ref 54), some (.int (nI i))] [] h2 Q) : sk_S l E (d + 201) ML_law 1153 [some (.ref 67), some (.ref 0), some (.ref 54), some (.int (nI i))] [] h Q := by
  refine sk_S.aload_n (i := 1) (dd DL_law_p8 99 rfl) rfl rfl ?_
  refine sk_S.aload_n (i := 0) (dd DL_law_p9 0 rfl) rfl rfl ?_
  refine sk_S.iload_n (i := 3) (dd DL_law_p9 1 rfl) rfl rfl ?_
  refine sk_S.iconst (v := 1) (dd DL_law_p9 2 rfl) (by decide) ?_
  refine sk_S.iadd (dd DL_law_p9 3 rfl) ?_
  refine sk_S.roald (dd DL_law_p9 4 rfl) rfl (sk_ix_nI (k := i + 1) (nI_add i 1) (by omega) hL) rfl ?_
  refine sk_S.callV (dd DL_law_p9 5 rfl) rfl kL_138 (st_prices H) se_0 (by decide) rfl rfl rfl rfl (Nat.le_of_ble_eq_true rfl) (fun r1159 h1159 q1159 => ?_)
  obtain ⟨v1, rfl, k1⟩ := q1159
  show sk_S _ _ _ _ _ _ (.int _ :: _) _ _
  refine sk_S.pop (dd DL_law_p9 6 rfl) rfl ?_
  refine sk_S.aload_n (i := 2) (dd DL_law_p9 7 rfl) rfl rfl ?_
  refine sk_S.aload_n (i := 0) (dd DL_law_p9 8 rfl) rfl rfl ?_
  refine sk_S.iload_n (i := 3) (dd DL_law_p9 9 rfl) rfl rfl ?_
  refine sk_S.iconst (v := 1) (dd DL_law_p9 10 rfl) (by decide) ?_
  refine sk_S.iadd (dd DL_law_p9 11 rfl) ?_
  refine sk_S.roald (dd DL_law_p9 12 rfl) rfl (sk_ix_nI (k := i + 1) (nI_add i 1) (by omega) hL) rfl ?_
  refine sk_S.callV (dd DL_law_p9 13 rfl) rfl kL_141 k1 se_54 (by decide) rfl rfl rfl rfl (Nat.le_of_ble_eq_true rfl) (fun r1169 h1169 q1169 => ?_)
  obtain ⟨w1, rfl, H2, e2⟩ := q1169
  show sk_S _ _ _ _ _ _ (.int _ :: _) _ _
  refine sk_S.pop (dd DL_law_p9 14 rfl) rfl ?_
  refine sk_S.goto (tgt := 1307) (dd DL_law_p9 15 rfl) (by decide) ?_
  exact kk _ H2
set_option maxRecDepth 100000 in
set_option maxHeartbeats 4000000 in
theorem lz_judge {l : Launch} {E : sk_V} {d : Nat} {h : sk_M} {Q : Option Value → sk_M → Prop} {i : Nat} (hI : i + 6 ≤ sk_L E) (hL : sk_L E < 2147483648) (H : Inv h) (kk : ∀ h2, Inv h2 → sk_S l E (d + 201) ML_law 1307 [some (.ref 67), some (.ref 0), some (.ref 54), some (.int (nI i))] [] h2 Q) : sk_S l E (d + 201) ML_law 1176 [some (.ref 67), some (.ref 0), some (.ref 54), some (.int (nI i))] [] h Q := by
  refine sk_S.aload_n (i := 1) (dd DL_law_p9 16 rfl) rfl rfl ?_
  refine sk_S.aload_n (i := 0) (dd DL_law_p9 17 rfl) rfl rfl ?_
  refine sk_S.iload_n (i := 3) (dd DL_law_p9 18 rfl) rfl rfl ?_
  refine sk_S.iconst (v := 1) (dd DL_law_p9 19 rfl) (by decide) ?_
  refine sk_S.iadd (dd DL_law_p9 20 rfl) ?_
  refine sk_S.roald (dd DL_law_p9 21 rfl) rfl (sk_ix_nI (k := i + 1) (nI_add i 1) (by omega) hL) rfl ?_
  refine sk_S.callV (dd DL_law_p9 22 rfl) rfl kL_142 (st_judge H) se_0 (by decide) rfl rfl rfl rfl (Nat.le_of_ble_eq_true rfl) (fun r1182 h1182 q1182 => ?_)
  obtain ⟨v1, rfl, k1⟩ := q1182
  show sk_S _ _ _ _ _ _ (.int _ :: _) _ _
  refine sk_S.pop (dd DL_law_p9 23 rfl) rfl ?_
  refine sk_S.aload_n (i := 2) (dd DL_law_p9 24 rfl) rfl rfl ?_
  refine sk_S.aload_n (i := 0) (dd DL_law_p9 25 rfl) rfl rfl ?_
  refine sk_S.iload_n (i := 3) (dd DL_law_p9 26 rfl) rfl rfl ?_
  refine sk_S.iconst (v := 1) (dd DL_law_p9 27 rfl) (by decide) ?_
  refine sk_S.iadd (dd DL_law_p9 28 rfl) ?_
  refine sk_S.roald (dd DL_law_p9 29 rfl) rfl (sk_ix_nI (k := i + 1) (nI_add i 1) (by omega) hL) rfl ?_
  refine sk_S.callV (dd DL_law_p9 30 rfl) rfl kL_145 k1 se_54 (by decide) rfl rfl rfl rfl (Nat.le_of_ble_eq_true rfl) (fun r1192 h1192 q1192 => ?_)
  obtain ⟨w1, rfl, H2⟩ := q1192
  show sk_S _ _ _ _ _ _ (.int _ :: _) _ _
  refine sk_S.pop (dd DL_law_p9 31 rfl) rfl ?_
  refine sk_S.goto (tgt := 1307) (dd DL_law_p9 32 rfl) (by decide) ?_
  exact kk _ H2
set_option maxRecDepth 100000 in
set_option maxHeartbeats 4000000 in
theorem lz_image {l : Launch} {E : sk_V} {d : Nat} {h : sk_M} {Q : Option Value → sk_M → Prop} {i : Nat} (hI : i + 6 ≤ sk_L E) (hL : sk_L E < 2147483648) (H : Inv h) (kk : ∀ h2, Inv h2 → sk_S l E (d + 201) ML_law 1307 [some (.ref 67), some (.ref 0), some (.ref 54), some (.int (nI i))] [] h2 Q) : sk_S l E (d + 201) ML_law 1199 [some (.ref 67), some (.ref 0), some (.ref 54), some (.int (nI i))] [] h Q := by
  refine sk_S.aload_n (i := 1) (dd DL_law_p9 33 rfl) rfl rfl ?_
  refine sk_S.callV (dd DL_law_p9 34 rfl) rfl kL_146 (st_image H) se_0 (by decide) rfl rfl rfl rfl (Nat.le_of_ble_eq_true rfl) (fun r1200 h1200 q1200 => ?_)
  obtain ⟨v1, rfl, k1⟩ := q1200
  show sk_S _ _ _ _ _ _ (.int _ :: _) _ _
  refine sk_S.pop (dd DL_law_p9 35 rfl) rfl ?_
  refine sk_S.aload_n (i := 2) (dd DL_law_p9 36 rfl) rfl rfl ?_
  refine sk_S.callV (dd DL_law_p9 37 rfl) rfl kL_149 k1 se_54 (by decide) rfl rfl rfl rfl (Nat.le_of_ble_eq_true rfl) (fun r1205 h1205 q1205 => ?_)
  obtain ⟨w1, rfl, H2, e2⟩ := q1205
  show sk_S _ _ _ _ _ _ (.int _ :: _) _ _
  refine sk_S.pop (dd DL_law_p9 38 rfl) rfl ?_
  refine sk_S.goto (tgt := 1307) (dd DL_law_p9 39 rfl) (by decide) ?_
  exact kk _ H2
set_option maxRecDepth 100000 in
set_option maxHeartbeats 4000000 in
theorem lz_restore {l : Launch} {E : sk_V} {d : Nat} {h : sk_M} {Q : Option Value → sk_M → Prop} {i : Nat} (hI : i + 6 ≤ sk_L E) (hL : sk_L E < 2147483648) (H : Inv h) (kk : ∀ h2, Inv h2 → sk_S l E (d + 201) ML_law 1307 [some (.ref 67), some (.ref 0), some (.ref 54), some (.int (nI i))] [] h2 Q) : sk_S l E (d + 201) ML_law 1212 [some (.ref 67), some (.ref 0), some (.ref 54), some (.int (nI i))] [] h Q := by
  refine sk_S.aload_n (i := 1) (dd DL_law_p9 40 rfl) rfl rfl ?_
  refine sk_S.callV (dd DL_law_p9 41 rfl) rfl kL_150 (st_restore H) se_0 (by decide) rfl rfl rfl rfl (Nat.le_of_ble_eq_true rfl) (fun r1213 h1213 q1213 => ?_)
  obtain ⟨v1, rfl, k1⟩ := q1213
  show sk_S _ _ _ _ _ _ (.int _ :: _) _ _
  refine sk_S.pop (dd DL_law_p9 42 rfl) rfl ?_
  refine sk_S.aload_n (i := 2) (dd DL_law_p9 43 rfl) rfl rfl ?_
  refine sk_S.callV (dd DL_law_p9 44 rfl) rfl kL_153 k1 se_54 (by decide) rfl rfl rfl rfl (Nat.le_of_ble_eq_true rfl) (fun r1218 h1218 q1218 => ?_)
  obtain ⟨w1, rfl, H2, e2⟩ := q1218
  show sk_S _ _ _ _ _ _ (.int _ :: _) _ _
  refine sk_S.pop (dd DL_law_p9 45 rfl) rfl ?_
  refine sk_S.goto (tgt := 1307) (dd DL_law_p9 46 rfl) (by decide) ?_
  exact kk _ H2
set_option maxRecDepth 100000 in
set_option maxHeartbeats 4000000 in
theorem lz_tell {l : Launch} {E : sk_V} {d : Nat} {h : sk_M} {Q : Option Value → sk_M → Prop} {i : Nat} (hI : i + 6 ≤ sk_L E) (hL : sk_L E < 2147483648) (H : Inv h) (kk : ∀ h2, Inv h2 → sk_S l E (d + 201) ML_law 1307 [some (.ref 67), some (.ref 0), some (.ref 54), some (.int (nI i))] [] h2 Q) : sk_S l E (d + 201) ML_law 1225 [some (.ref 67), some (.ref 0), some (.ref 54), some (.int (nI i))] [] h Q := by
  refine sk_S.aload_n (i := 1) (dd DL_law_p9 47 rfl) rfl rfl ?_
  refine sk_S.aload_n (i := 0) (dd DL_law_p9 48 rfl) rfl rfl ?_
  refine sk_S.iload_n (i := 3) (dd DL_law_p9 49 rfl) rfl rfl ?_
  refine sk_S.iconst (v := 1) (dd DL_law_p9 50 rfl) (by decide) ?_
  refine sk_S.iadd (dd DL_law_p9 51 rfl) ?_
  refine sk_S.roald (dd DL_law_p9 52 rfl) rfl (sk_ix_nI (k := i + 1) (nI_add i 1) (by omega) hL) rfl ?_
  refine sk_S.callV (dd DL_law_p9 53 rfl) rfl kL_154 (st_tell H) se_0 (by decide) rfl rfl rfl rfl (Nat.le_of_ble_eq_true rfl) (fun r1231 h1231 q1231 => ?_)
  obtain ⟨v1, rfl, k1⟩ := q1231
  show sk_S _ _ _ _ _ _ (.int _ :: _) _ _
  refine sk_S.pop (dd DL_law_p9 54 rfl) rfl ?_
  refine sk_S.aload_n (i := 2) (dd DL_law_p9 55 rfl) rfl rfl ?_
  refine sk_S.aload_n (i := 0) (dd DL_law_p9 56 rfl) rfl rfl ?_
  refine sk_S.iload_n (i := 3) (dd DL_law_p9 57 rfl) rfl rfl ?_
  refine sk_S.iconst (v := 1) (dd DL_law_p9 58 rfl) (by decide) ?_
  refine sk_S.iadd (dd DL_law_p9 59 rfl) ?_
  refine sk_S.roald (dd DL_law_p9 60 rfl) rfl (sk_ix_nI (k := i + 1) (nI_add i 1) (by omega) hL) rfl ?_
  refine sk_S.callV (dd DL_law_p9 61 rfl) rfl kL_157 k1 se_54 (by decide) rfl rfl rfl rfl (Nat.le_of_ble_eq_true rfl) (fun r1241 h1241 q1241 => ?_)
  obtain ⟨w1, rfl, H2, e2⟩ := q1241
  show sk_S _ _ _ _ _ _ (.int _ :: _) _ _
  refine sk_S.pop (dd DL_law_p9 62 rfl) rfl ?_
  refine sk_S.goto (tgt := 1307) (dd DL_law_p9 63 rfl) (by decide) ?_
  exact kk _ H2
set_option maxRecDepth 100000 in
set_option maxHeartbeats 4000000 in
theorem lz_check {l : Launch} {E : sk_V} {d : Nat} {h : sk_M} {Q : Option Value → sk_M → Prop} {i : Nat} (hI : i + 6 ≤ sk_L E) (hL : sk_L E < 2147483648) (H : Inv h) (kk : ∀ h2, Inv h2 → sk_S l E (d + 201) ML_law 1307 [some (.ref 67), some (.ref 0), some (.ref 54), some (.int (nI i))] [] h2 Q) : sk_S l E (d + 201) ML_law 1248 [some (.ref 67), some (.ref 0), some (.ref 54), some (.int (nI i))] [] h Q := by
  refine sk_S.aload_n (i := 1) (dd DL_law_p9 64 rfl) rfl rfl ?_
  refine sk_S.callV (dd DL_law_p9 65 rfl) rfl kL_158 (st_check H) se_0 (by decide) rfl rfl rfl rfl (Nat.le_of_ble_eq_true rfl) (fun r1249 h1249 q1249 => ?_)
  obtain ⟨v1, rfl, k1⟩ := q1249
  show sk_S _ _ _ _ _ _ (.int _ :: _) _ _
  refine sk_S.pop (dd DL_law_p9 66 rfl) rfl ?_
  refine sk_S.aload_n (i := 2) (dd DL_law_p9 67 rfl) rfl rfl ?_
  refine sk_S.callV (dd DL_law_p9 68 rfl) rfl kL_161 k1 se_54 (by decide) rfl rfl rfl rfl (Nat.le_of_ble_eq_true rfl) (fun r1254 h1254 q1254 => ?_)
  obtain ⟨w1, rfl, H2, e2⟩ := q1254
  show sk_S _ _ _ _ _ _ (.int _ :: _) _ _
  refine sk_S.pop (dd DL_law_p9 69 rfl) rfl ?_
  refine sk_S.goto (tgt := 1307) (dd DL_law_p9 70 rfl) (by decide) ?_
  exact kk _ H2
set_option maxRecDepth 100000 in
set_option maxHeartbeats 4000000 in
theorem lz_count {l : Launch} {E : sk_V} {d : Nat} {h : sk_M} {Q : Option Value → sk_M → Prop} {i : Nat} (hI : i + 6 ≤ sk_L E) (hL : sk_L E < 2147483648) (H : Inv h) (kk : ∀ h2, Inv h2 → sk_S l E (d + 201) ML_law 1307 [some (.ref 67), some (.ref 0), some (.ref 54), some (.int (nI i))] [] h2 Q) : sk_S l E (d + 201) ML_law 1261 [some (.ref 67), some (.ref 0), some (.ref 54), some (.int (nI i))] [] h Q := by
  refine sk_S.aload_n (i := 1) (dd DL_law_p9 71 rfl) rfl rfl ?_
  refine sk_S.aload_n (i := 0) (dd DL_law_p9 72 rfl) rfl rfl ?_
  refine sk_S.iload_n (i := 3) (dd DL_law_p9 73 rfl) rfl rfl ?_
  refine sk_S.iconst (v := 1) (dd DL_law_p9 74 rfl) (by decide) ?_
  refine sk_S.iadd (dd DL_law_p9 75 rfl) ?_
  refine sk_S.roald (dd DL_law_p9 76 rfl) rfl (sk_ix_nI (k := i + 1) (nI_add i 1) (by omega) hL) rfl ?_
  refine sk_S.callV (dd DL_law_p9 77 rfl) rfl kL_162 (st_count H) se_0 (by decide) rfl rfl rfl rfl (Nat.le_of_ble_eq_true rfl) (fun r1267 h1267 q1267 => ?_)
  obtain ⟨v1, rfl, k1⟩ := q1267
  show sk_S _ _ _ _ _ _ (.int _ :: _) _ _
  refine sk_S.aload_n (i := 2) (dd DL_law_p9 78 rfl) rfl rfl ?_
  refine sk_S.aload_n (i := 0) (dd DL_law_p9 79 rfl) rfl rfl ?_
  refine sk_S.iload_n (i := 3) (dd DL_law_p9 80 rfl) rfl rfl ?_
  refine sk_S.iconst (v := 1) (dd DL_law_p9 81 rfl) (by decide) ?_
  refine sk_S.iadd (dd DL_law_p9 82 rfl) ?_
  refine sk_S.roald (dd DL_law_p9 83 rfl) rfl (sk_ix_nI (k := i + 1) (nI_add i 1) (by omega) hL) rfl ?_
  refine sk_S.callV (dd DL_law_p9 84 rfl) rfl kL_165 k1 se_54 (by decide) rfl rfl rfl rfl (Nat.le_of_ble_eq_true rfl) (fun r1276 h1276 q1276 => ?_)
  obtain ⟨w1, rfl, H2, e2⟩ := q1276
  show sk_S _ _ _ _ _ _ (.int _ :: _) _ _
  refine sk_S.icmp_eq (tgt := 1307) (dd DL_law_p9 85 rfl) (by decide) (fun c1279 => ?_) (fun c1279 => absurd e2 c1279)
  exact kk _ H2
set_option maxRecDepth 100000 in
set_option maxHeartbeats 4000000 in
theorem lz_told {l : Launch} {E : sk_V} {d : Nat} {h : sk_M} {Q : Option Value → sk_M → Prop} {i : Nat} (hI : i + 6 ≤ sk_L E) (hL : sk_L E < 2147483648) (H : Inv h) (kk : ∀ h2, Inv h2 → sk_S l E (d + 201) ML_law 1307 [some (.ref 67), some (.ref 0), some (.ref 54), some (.int (nI i))] [] h2 Q) : sk_S l E (d + 201) ML_law 1284 [some (.ref 67), some (.ref 0), some (.ref 54), some (.int (nI i))] [] h Q := by
  refine sk_S.aload_n (i := 1) (dd DL_law_p9 88 rfl) rfl rfl ?_
  refine sk_S.aload_n (i := 0) (dd DL_law_p9 89 rfl) rfl rfl ?_
  refine sk_S.iload_n (i := 3) (dd DL_law_p9 90 rfl) rfl rfl ?_
  refine sk_S.iconst (v := 1) (dd DL_law_p9 91 rfl) (by decide) ?_
  refine sk_S.iadd (dd DL_law_p9 92 rfl) ?_
  refine sk_S.roald (dd DL_law_p9 93 rfl) rfl (sk_ix_nI (k := i + 1) (nI_add i 1) (by omega) hL) rfl ?_
  refine sk_S.callV (dd DL_law_p9 94 rfl) rfl kL_166 (st_told H) se_0 (by decide) rfl rfl rfl rfl (Nat.le_of_ble_eq_true rfl) (fun r1290 h1290 q1290 => ?_)
  obtain ⟨v1, rfl, k1⟩ := q1290
  show sk_S _ _ _ _ _ _ (.int _ :: _) _ _
  refine sk_S.pop (dd DL_law_p9 95 rfl) rfl ?_
  refine sk_S.aload_n (i := 2) (dd DL_law_p9 96 rfl) rfl rfl ?_
  refine sk_S.aload_n (i := 0) (dd DL_law_p9 97 rfl) rfl rfl ?_
  refine sk_S.iload_n (i := 3) (dd DL_law_p9 98 rfl) rfl rfl ?_
  refine sk_S.iconst (v := 1) (dd DL_law_p9 99 rfl) (by decide) ?_
  refine sk_S.iadd (dd DL_law_p10 0 rfl) ?_
  refine sk_S.roald (dd DL_law_p10 1 rfl) rfl (sk_ix_nI (k := i + 1) (nI_add i 1) (by omega) hL) rfl ?_
  refine sk_S.callV (dd DL_law_p10 2 rfl) rfl kL_169 k1 se_54 (by decide) rfl rfl rfl rfl (Nat.le_of_ble_eq_true rfl) (fun r1300 h1300 q1300 => ?_)
  obtain ⟨w1, rfl, H2⟩ := q1300
  show sk_S _ _ _ _ _ _ (.int _ :: _) _ _
  refine sk_S.pop (dd DL_law_p10 3 rfl) rfl ?_
  refine sk_S.goto (tgt := 1307) (dd DL_law_p10 4 rfl) (by decide) ?_
  exact kk _ H2
set_option maxRecDepth 100000 in
set_option maxHeartbeats 4000000 in
theorem lz_turn {l : Launch} {E : sk_V} {d : Nat} {h : sk_M} {Q : Option Value → sk_M → Prop} {i : Nat} (hI : i + 6 ≤ sk_L E) (hL : sk_L E < 2147483648) (H : Inv h) (kk : ∀ h2, Inv h2 → sk_S l E (d + 201) ML_law 1307 [some (.ref 67), some (.ref 0), some (.ref 54), some (.int (nI i))] [] h2 Q) : sk_S l E (d + 201) ML_law 27 [some (.ref 67), some (.ref 0), some (.ref 54), some (.int (nI i))] [] h Q := by
  refine sk_S.aload_n (i := 0) (dd DL_law_p1 16 rfl) rfl rfl ?_
  refine sk_S.iload_n (i := 3) (dd DL_law_p1 17 rfl) rfl rfl ?_
  refine sk_S.roald (dd DL_law_p1 18 rfl) rfl (sk_ix_nI (k := i) rfl (by omega) hL) rfl ?_
  refine sk_S.bipush (v := 63) (dd DL_law_p1 19 rfl) (by decide) ?_
  refine sk_S.iand (dd DL_law_p1 20 rfl) ?_
  refine sk_S.tabL (dd DL_law_p1 21 rfl) rfl (by decide) (by decide) (by decide) (fun j33 hj33 e33 => ?_) (fun e33 => ?_)
  · rcases j33 with _ | _ | _ | _ | _ | _ | _ | _ | _ | _ | _ | _ | _ | _ | _ | _ | _ | _ | _ | _ | _ | _ | _ | _ | _ | _ | _ | _ | _ | _ | _ | _ | _ | _ | _ | _ | _ | j33
    · show sk_S _ _ _ _ 196 _ _ _ _
      replace e33 : _ = (0 : Int32) := e33
      exact lz_boat hI hL H kk
    · show sk_S _ _ _ _ 219 _ _ _ _
      replace e33 : _ = (1 : Int32) := e33
      exact lz_boatIs hI hL H kk
    · show sk_S _ _ _ _ 252 _ _ _ _
      replace e33 : _ = (2 : Int32) := e33
      exact lz_become hI hL H kk
    · show sk_S _ _ _ _ 285 _ _ _ _
      replace e33 : _ = (3 : Int32) := e33
      exact lz_as hI hL H kk
    · show sk_S _ _ _ _ 318 _ _ _ _
      replace e33 : _ = (4 : Int32) := e33
      exact lz_lose hI hL H kk
    · show sk_S _ _ _ _ 351 _ _ _ _
      replace e33 : _ = (5 : Int32) := e33
      exact lz_rises hI hL H kk
    · show sk_S _ _ _ _ 374 _ _ _ _
      replace e33 : _ = (6 : Int32) := e33
      exact lz_price hI hL H kk
    · show sk_S _ _ _ _ 407 _ _ _ _
      replace e33 : _ = (7 : Int32) := e33
      exact lz_sell hI hL H kk
    · show sk_S _ _ _ _ 440 _ _ _ _
      replace e33 : _ = (8 : Int32) := e33
      exact lz_feed hI hL H kk
    · show sk_S _ _ _ _ 503 _ _ _ _
      replace e33 : _ = (9 : Int32) := e33
      exact lz_text hI hL H kk
    · show sk_S _ _ _ _ 526 _ _ _ _
      replace e33 : _ = (10 : Int32) := e33
      exact lz_untell hI hL H kk
    · show sk_S _ _ _ _ 549 _ _ _ _
      replace e33 : _ = (11 : Int32) := e33
      exact lz_law hI hL H kk
    · show sk_S _ _ _ _ 602 _ _ _ _
      replace e33 : _ = (12 : Int32) := e33
      exact lz_tally hI hL H kk
    · show sk_S _ _ _ _ 615 _ _ _ _
      replace e33 : _ = (13 : Int32) := e33
      exact lz_loose hI hL H kk
    · show sk_S _ _ _ _ 638 _ _ _ _
      replace e33 : _ = (14 : Int32) := e33
      exact lz_seed hI hL H kk
    · show sk_S _ _ _ _ 661 _ _ _ _
      replace e33 : _ = (15 : Int32) := e33
      exact lz_catches hI hL H kk
    · show sk_S _ _ _ _ 684 _ _ _ _
      replace e33 : _ = (16 : Int32) := e33
      exact lz_safe hI hL H kk
    · show sk_S _ _ _ _ 707 _ _ _ _
      replace e33 : _ = (17 : Int32) := e33
      exact lz_best hI hL H kk
    · show sk_S _ _ _ _ 740 _ _ _ _
      replace e33 : _ = (18 : Int32) := e33
      exact lz_agrees hI hL H kk
    · show sk_S _ _ _ _ 773 _ _ _ _
      replace e33 : _ = (19 : Int32) := e33
      exact lz_needs hI hL H kk
    · show sk_S _ _ _ _ 796 _ _ _ _
      replace e33 : _ = (20 : Int32) := e33
      exact lz_soonest hI hL H kk
    · show sk_S _ _ _ _ 829 _ _ _ _
      replace e33 : _ = (21 : Int32) := e33
      exact lz_odds hI hL H kk
    · show sk_S _ _ _ _ 872 _ _ _ _
      replace e33 : _ = (22 : Int32) := e33
      exact lz_mean hI hL H kk
    · show sk_S _ _ _ _ 905 _ _ _ _
      replace e33 : _ = (23 : Int32) := e33
      exact lz_fits hI hL H kk
    · show sk_S _ _ _ _ 938 _ _ _ _
      replace e33 : _ = (24 : Int32) := e33
      exact lz_voice hI hL H kk
    · show sk_S _ _ _ _ 981 _ _ _ _
      replace e33 : _ = (25 : Int32) := e33
      exact lz_body hI hL H kk
    · show sk_S _ _ _ _ 1004 _ _ _ _
      replace e33 : _ = (26 : Int32) := e33
      exact lz_sheet hI hL H kk
    · show sk_S _ _ _ _ 1047 _ _ _ _
      replace e33 : _ = (27 : Int32) := e33
      exact lz_put hI hL H kk
    · show sk_S _ _ _ _ 1090 _ _ _ _
      replace e33 : _ = (28 : Int32) := e33
      exact lz_move hI hL H kk
    · show sk_S _ _ _ _ 1153 _ _ _ _
      replace e33 : _ = (29 : Int32) := e33
      exact lz_prices hI hL H kk
    · show sk_S _ _ _ _ 1176 _ _ _ _
      replace e33 : _ = (30 : Int32) := e33
      exact lz_judge hI hL H kk
    · show sk_S _ _ _ _ 1199 _ _ _ _
      replace e33 : _ = (31 : Int32) := e33
      exact lz_image hI hL H kk
    · show sk_S _ _ _ _ 1212 _ _ _ _
      replace e33 : _ = (32 : Int32) := e33
      exact lz_restore hI hL H kk
    · show sk_S _ _ _ _ 1225 _ _ _ _
      replace e33 : _ = (33 : Int32) := e33
      exact lz_tell hI hL H kk
    · show sk_S _ _ _ _ 1248 _ _ _ _
      replace e33 : _ = (34 : Int32) := e33
      exact lz_check hI hL H kk
    · show sk_S _ _ _ _ 1261 _ _ _ _
      replace e33 : _ = (35 : Int32) := e33
      exact lz_count hI hL H kk
    · show sk_S _ _ _ _ 1284 _ _ _ _
      replace e33 : _ = (36 : Int32) := e33
      exact lz_told hI hL H kk
    · exact absurd hj33 (by simp)
  · show sk_S _ _ _ _ 1307 _ _ _ _
    have e33_ := (⟨e33 0 (by decide), e33 1 (by decide), e33 2 (by decide), e33 3 (by decide), e33 4 (by decide), e33 5 (by decide), e33 6 (by decide), e33 7 (by decide), e33 8 (by decide), e33 9 (by decide), e33 10 (by decide), e33 11 (by decide), e33 12 (by decide), e33 13 (by decide), e33 14 (by decide), e33 15 (by decide), e33 16 (by decide), e33 17 (by decide), e33 18 (by decide), e33 19 (by decide), e33 20 (by decide), e33 21 (by decide), e33 22 (by decide), e33 23 (by decide), e33 24 (by decide), e33 25 (by decide), e33 26 (by decide), e33 27 (by decide), e33 28 (by decide), e33 29 (by decide), e33 30 (by decide), e33 31 (by decide), e33 32 (by decide), e33 33 (by decide), e33 34 (by decide), e33 35 (by decide), e33 36 (by decide)⟩ : ¬ _ = (0 : Int32) ∧ ¬ _ = (1 : Int32) ∧ ¬ _ = (2 : Int32) ∧ ¬ _ = (3 : Int32) ∧ ¬ _ = (4 : Int32) ∧ ¬ _ = (5 : Int32) ∧ ¬ _ = (6 : Int32) ∧ ¬ _ = (7 : Int32) ∧ ¬ _ = (8 : Int32) ∧ ¬ _ = (9 : Int32) ∧ ¬ _ = (10 : Int32) ∧ ¬ _ = (11 : Int32) ∧ ¬ _ = (12 : Int32) ∧ ¬ _ = (13 : Int32) ∧ ¬ _ = (14 : Int32) ∧ ¬ _ = (15 : Int32) ∧ ¬ _ = (16 : Int32) ∧ ¬ _ = (17 : Int32) ∧ ¬ _ = (18 : Int32) ∧ ¬ _ = (19 : Int32) ∧ ¬ _ = (20 : Int32) ∧ ¬ _ = (21 : Int32) ∧ ¬ _ = (22 : Int32) ∧ ¬ _ = (23 : Int32) ∧ ¬ _ = (24 : Int32) ∧ ¬ _ = (25 : Int32) ∧ ¬ _ = (26 : Int32) ∧ ¬ _ = (27 : Int32) ∧ ¬ _ = (28 : Int32) ∧ ¬ _ = (29 : Int32) ∧ ¬ _ = (30 : Int32) ∧ ¬ _ = (31 : Int32) ∧ ¬ _ = (32 : Int32) ∧ ¬ _ = (33 : Int32) ∧ ¬ _ = (34 : Int32) ∧ ¬ _ = (35 : Int32) ∧ ¬ _ = (36 : Int32))
    exact kk _ H
theorem lz_len {L i : Nat} (hL : L < 2147483648) : (Int32.ofNat L - 6 < nI i ↔ L < i + 6) ∨ 2147483648 ≤ i := by
  by_cases hi : i < 2147483648
  · refine Or.inl ?_
    rw [Int32.lt_iff_toInt_lt, nI_toInt hi]
    have e : (Int32.ofNat L - 6).toInt = (L : Int) - 6 := by
      have := sub_I (x := nI L) (m := 6) (by rw [nI_toInt hL]; omega) (by decide)
      rw [nI_toInt hL] at this
      exact this
    rw [e]
    omega
  · exact Or.inr (by omega)
set_option maxRecDepth 100000 in
set_option maxHeartbeats 4000000 in
theorem lz_next {l : Launch} {E : sk_V} {d : Nat} {h : sk_M} {Q : Option Value → sk_M → Prop} {i : Nat} (kk : sk_S l E (d + 201) ML_law 18 [some (.ref 67), some (.ref 0), some (.ref 54), some (.int (nI (i + 6)))] [] h Q) : sk_S l E (d + 201) ML_law 1307 [some (.ref 67), some (.ref 0), some (.ref 54), some (.int (nI i))] [] h Q := by
  refine sk_S.iinc (i := 3) (v := _ + 6) (dd DL_law_p10 5 rfl) rfl rfl rfl ?_
  refine sk_S.goto (tgt := 18) (dd DL_law_p10 6 rfl) (by decide) ?_
  show sk_S _ _ _ _ 18 [some (.ref 67), some (.ref 0), some (.ref 54), some (.int (nI i + 6))] [] _ _
  rw [show nI i + 6 = nI (i + 6) from nI_add i 6]
  exact kk
set_option maxRecDepth 100000 in
set_option maxHeartbeats 4000000 in
theorem lz_all {l : Launch} {E : sk_V} {d : Nat} (hL : sk_L E ≤ 3072) : ∀ (m i : Nat) (h : sk_M), sk_L E < i + m → i ≤ 4000 → Inv h → sk_S l E (d + 201) ML_law 18 [some (.ref 67), some (.ref 0), some (.ref 54), some (.int (nI i))] [] h (fun r h1 => some (.int 1) = r)
  | 0, i, h, hm, hi, H => by
    refine sk_S.iload_n (i := 3) (dd DL_law_p1 10 rfl) rfl rfl ?_
    refine sk_S.aload_n (i := 0) (dd DL_law_p1 11 rfl) rfl rfl ?_
    refine sk_S.rolen (dd DL_law_p1 12 rfl) rfl rfl ?_
    refine sk_S.bipush (v := 6) (dd DL_law_p1 13 rfl) (by decide) ?_
    refine sk_S.isub (dd DL_law_p1 14 rfl) ?_
    refine sk_S.icmp_gt (tgt := 1313) (dd DL_law_p1 15 rfl) (by decide) (fun c24 => ?_) (fun c24 => ?_)
    · refine sk_S.iconst (v := 1) (dd DL_law_p10 7 rfl) (by decide) ?_
      refine sk_S.iret (dd DL_law_p10 8 rfl) rfl rfl ?_
      rfl
    · have hI : i + 6 ≤ sk_L E := by
        rcases lz_len (L := sk_L E) (i := i) (by omega) with z | z
        · have y : ¬ sk_L E < i + 6 := fun y => c24 (z.mpr y)
          omega
        · exact absurd hm (by omega)
      exact absurd hI (by omega)
  | m + 1, i, h, hm, hi, H => by
    refine sk_S.iload_n (i := 3) (dd DL_law_p1 10 rfl) rfl rfl ?_
    refine sk_S.aload_n (i := 0) (dd DL_law_p1 11 rfl) rfl rfl ?_
    refine sk_S.rolen (dd DL_law_p1 12 rfl) rfl rfl ?_
    refine sk_S.bipush (v := 6) (dd DL_law_p1 13 rfl) (by decide) ?_
    refine sk_S.isub (dd DL_law_p1 14 rfl) ?_
    refine sk_S.icmp_gt (tgt := 1313) (dd DL_law_p1 15 rfl) (by decide) (fun c24 => ?_) (fun c24 => ?_)
    · refine sk_S.iconst (v := 1) (dd DL_law_p10 7 rfl) (by decide) ?_
      refine sk_S.iret (dd DL_law_p10 8 rfl) rfl rfl ?_
      rfl
    · have hI : i + 6 ≤ sk_L E := by
        rcases lz_len (L := sk_L E) (i := i) (by omega) with z | z
        · have y : ¬ sk_L E < i + 6 := fun y => c24 (z.mpr y)
          omega
        · exact absurd hm (by omega)
      exact lz_turn hI (by omega) H (fun h2 H2 => lz_next (lz_all hL m (i + 6) h2 (by omega) (by omega) H2))
theorem lz_loop {l : Launch} {E : sk_V} {d : Nat} {h : sk_M} (hL : sk_L E ≤ 3072) (H : Inv0 h) : sk_S l E (d + 201) ML_law 18 [some (.ref 67), some (.ref 0), some (.ref 54), some (.int (nI 0))] [] h (fun r h1 => some (.int 1) = r) := lz_all hL (sk_L E + 1) 0 h (by omega) (by omega) H.1
end LW
