section C2
theorem sk_S.V {l : Launch} {E : sk_V} {d : Nat} {M : sk_m} {pc : Nat} {L : List (Option Value)} {St : List Value} {h : sk_M} {Q : Option Value → sk_M → Prop} {x : Int32} (y : Int32) (e : x = y) (k : sk_S l E d M pc L (.int y :: St) h Q) : sk_S l E d M pc L (.int x :: St) h Q := e ▸ k
set_option maxRecDepth 100000 in
set_option maxHeartbeats 800000 in
theorem cg_1 {l : Launch} {E : sk_V} {d : Nat} {f : sk_M} {Q : Option Value → sk_M → Prop} {lo co qo : Nat} (hlo : sk_e lo = (1, 1, 4, [some co, some qo])) (hco : sk_e co = (0, 0, 60, [])) (hqo : sk_e qo = (0, 0, 60, [])) {a b c w : Int32} {n dep k : Nat} {x6 : Option Value} (hn : f lo 2 = nI n) (hn60 : n ≤ 60) (hk : k < n) (hd : dep ≤ k) (hw : f co k = w) (h0 : ¬ w < -3) (h1 : ¬ w < 0) (kk : sk_S l E (d + 1) MX1_gives 21 [some (.ref lo), some (.int a), some (.int b), some (.int c), some (.int (nI dep + 1)), some (.int (nI k + 1)), some (.int w)] [] (sk_u f qo dep w) Q) : sk_S l E (d + 1) MX1_gives 21 [some (.ref lo), some (.int a), some (.int b), some (.int c), some (.int (nI dep)), some (.int (nI k)), x6] [] f Q := by
  refine sk_S.iload (i := 5) (dd DX1_gives_p1 12 rfl) rfl ?_
  refine sk_S.aload_n (i := 0) (dd DX1_gives_p1 13 rfl) rfl rfl ?_
  refine sk_S.geti (dd DX1_gives_p1 14 rfl) rfl fX1_28 hlo (by decide) rfl ?_
  refine sk_S.icmp_ge (tgt := 186) (dd DX1_gives_p1 15 rfl) (by decide) (fun c27 => absurd c27 (by rw [hn]; exact nI_ge hk (by omega))) (fun c27 => ?_)
  refine sk_S.aload_n (i := 0) (dd DX1_gives_p1 16 rfl) rfl rfl ?_
  refine sk_S.getr (dd DX1_gives_p1 17 rfl) rfl fX1_9 hlo (by decide) rfl ?_
  refine sk_S.iload (i := 5) (dd DX1_gives_p1 18 rfl) rfl ?_
  refine sk_S.iald (dd DX1_gives_p1 19 rfl) hco (sk_ix_nI (k := k) rfl (by omega) (by decide)) ?_
  rw [hw]
  refine sk_S.istore (i := 6) (dd DX1_gives_p1 20 rfl) (Nat.le_of_ble_eq_true rfl) rfl ?_
  refine sk_S.iload (i := 6) (dd DX1_gives_p1 21 rfl) rfl ?_
  refine sk_S.bipush (v := -3) (dd DX1_gives_p1 22 rfl) (by decide) ?_
  refine sk_S.icmp_lt (tgt := 98) (dd DX1_gives_p1 23 rfl) (by decide) (fun c43 => absurd c43 h0) (fun c43 => ?_)
  refine sk_S.iload (i := 4) (dd DX1_gives_p1 24 rfl) rfl ?_
  refine sk_S.bipush (v := 60) (dd DX1_gives_p1 25 rfl) (by decide) ?_
  refine sk_S.icmp_ge (tgt := 98) (dd DX1_gives_p1 26 rfl) (by decide) (fun c50 => absurd c50 (by exact nI_ge (b := 60) (by omega) (by decide))) (fun c50 => ?_)
  refine sk_S.aload_n (i := 0) (dd DX1_gives_p1 27 rfl) rfl rfl ?_
  refine sk_S.getr (dd DX1_gives_p1 28 rfl) rfl fX1_15 hlo (by decide) rfl ?_
  refine sk_S.iload (i := 4) (dd DX1_gives_p1 29 rfl) rfl ?_
  refine sk_S.iload (i := 6) (dd DX1_gives_p1 30 rfl) rfl ?_
  refine sk_S.if_lt (tgt := 69) (dd DX1_gives_p1 31 rfl) (by decide) (fun c61 => absurd c61 h1) (fun c61 => ?_)
  refine sk_S.iload (i := 6) (dd DX1_gives_p1 32 rfl) rfl ?_
  refine sk_S.goto (tgt := 91) (dd DX1_gives_p1 33 rfl) (by decide) ?_
  refine sk_S.iast (dd DX1_gives_p1 45 rfl) hqo (sk_ix_nI (k := dep) rfl (by omega) (by decide)) ?_
  refine sk_S.iinc (i := 4) (v := _ + 1) (dd DX1_gives_p1 46 rfl) rfl rfl rfl ?_
  refine sk_S.goto (tgt := 180) (dd DX1_gives_p1 47 rfl) (by decide) ?_
  refine sk_S.iinc (i := 5) (v := _ + 1) (dd DX1_gives_p1 94 rfl) rfl rfl rfl ?_
  refine sk_S.goto (tgt := 21) (dd DX1_gives_p1 95 rfl) (by decide) ?_
  exact kk
set_option maxRecDepth 100000 in
set_option maxHeartbeats 800000 in
theorem cg_2a {l : Launch} {E : sk_V} {d : Nat} {f : sk_M} {Q : Option Value → sk_M → Prop} {lo co qo : Nat} (hlo : sk_e lo = (1, 1, 4, [some co, some qo])) (hco : sk_e co = (0, 0, 60, [])) (hqo : sk_e qo = (0, 0, 60, [])) {a b c w : Int32} {n dep k : Nat} {x6 : Option Value} (hn : f lo 2 = nI n) (hn60 : n ≤ 60) (hk : k < n) (hd : dep ≤ k) (hw : f co k = w) (h0 : w = -1) (kk : sk_S l E (d + 1) MX1_gives 21 [some (.ref lo), some (.int a), some (.int b), some (.int c), some (.int (nI dep + 1)), some (.int (nI k + 1)), some (.int w)] [] (sk_u f qo dep a) Q) : sk_S l E (d + 1) MX1_gives 21 [some (.ref lo), some (.int a), some (.int b), some (.int c), some (.int (nI dep)), some (.int (nI k)), x6] [] f Q := by
  refine sk_S.iload (i := 5) (dd DX1_gives_p1 12 rfl) rfl ?_
  refine sk_S.aload_n (i := 0) (dd DX1_gives_p1 13 rfl) rfl rfl ?_
  refine sk_S.geti (dd DX1_gives_p1 14 rfl) rfl fX1_28 hlo (by decide) rfl ?_
  refine sk_S.icmp_ge (tgt := 186) (dd DX1_gives_p1 15 rfl) (by decide) (fun c27 => absurd c27 (by rw [hn]; exact nI_ge hk (by omega))) (fun c27 => ?_)
  refine sk_S.aload_n (i := 0) (dd DX1_gives_p1 16 rfl) rfl rfl ?_
  refine sk_S.getr (dd DX1_gives_p1 17 rfl) rfl fX1_9 hlo (by decide) rfl ?_
  refine sk_S.iload (i := 5) (dd DX1_gives_p1 18 rfl) rfl ?_
  refine sk_S.iald (dd DX1_gives_p1 19 rfl) hco (sk_ix_nI (k := k) rfl (by omega) (by decide)) ?_
  rw [hw]
  refine sk_S.istore (i := 6) (dd DX1_gives_p1 20 rfl) (Nat.le_of_ble_eq_true rfl) rfl ?_
  refine sk_S.iload (i := 6) (dd DX1_gives_p1 21 rfl) rfl ?_
  refine sk_S.bipush (v := -3) (dd DX1_gives_p1 22 rfl) (by decide) ?_
  refine sk_S.icmp_lt (tgt := 98) (dd DX1_gives_p1 23 rfl) (by decide) (fun c43 => absurd c43 (by rw [h0]; decide)) (fun c43 => ?_)
  refine sk_S.iload (i := 4) (dd DX1_gives_p1 24 rfl) rfl ?_
  refine sk_S.bipush (v := 60) (dd DX1_gives_p1 25 rfl) (by decide) ?_
  refine sk_S.icmp_ge (tgt := 98) (dd DX1_gives_p1 26 rfl) (by decide) (fun c50 => absurd c50 (by exact nI_ge (b := 60) (by omega) (by decide))) (fun c50 => ?_)
  refine sk_S.aload_n (i := 0) (dd DX1_gives_p1 27 rfl) rfl rfl ?_
  refine sk_S.getr (dd DX1_gives_p1 28 rfl) rfl fX1_15 hlo (by decide) rfl ?_
  refine sk_S.iload (i := 4) (dd DX1_gives_p1 29 rfl) rfl ?_
  refine sk_S.iload (i := 6) (dd DX1_gives_p1 30 rfl) rfl ?_
  refine sk_S.if_lt (tgt := 69) (dd DX1_gives_p1 31 rfl) (by decide) (fun c61 => ?_) (fun c61 => absurd (by rw [h0]; decide) c61)
  refine sk_S.iload (i := 6) (dd DX1_gives_p1 34 rfl) rfl ?_
  refine sk_S.iconst (v := -1) (dd DX1_gives_p1 35 rfl) (by decide) ?_
  refine sk_S.icmp_ne (tgt := 79) (dd DX1_gives_p1 36 rfl) (by decide) (fun c72 => absurd h0 c72) (fun c72 => ?_)
  refine sk_S.iload_n (i := 1) (dd DX1_gives_p1 37 rfl) rfl rfl ?_
  refine sk_S.goto (tgt := 91) (dd DX1_gives_p1 38 rfl) (by decide) ?_
  refine sk_S.iast (dd DX1_gives_p1 45 rfl) hqo (sk_ix_nI (k := dep) rfl (by omega) (by decide)) ?_
  refine sk_S.iinc (i := 4) (v := _ + 1) (dd DX1_gives_p1 46 rfl) rfl rfl rfl ?_
  refine sk_S.goto (tgt := 180) (dd DX1_gives_p1 47 rfl) (by decide) ?_
  refine sk_S.iinc (i := 5) (v := _ + 1) (dd DX1_gives_p1 94 rfl) rfl rfl rfl ?_
  refine sk_S.goto (tgt := 21) (dd DX1_gives_p1 95 rfl) (by decide) ?_
  exact kk
set_option maxRecDepth 100000 in
set_option maxHeartbeats 800000 in
theorem cg_2b {l : Launch} {E : sk_V} {d : Nat} {f : sk_M} {Q : Option Value → sk_M → Prop} {lo co qo : Nat} (hlo : sk_e lo = (1, 1, 4, [some co, some qo])) (hco : sk_e co = (0, 0, 60, [])) (hqo : sk_e qo = (0, 0, 60, [])) {a b c w : Int32} {n dep k : Nat} {x6 : Option Value} (hn : f lo 2 = nI n) (hn60 : n ≤ 60) (hk : k < n) (hd : dep ≤ k) (hw : f co k = w) (h0 : w = -2) (kk : sk_S l E (d + 1) MX1_gives 21 [some (.ref lo), some (.int a), some (.int b), some (.int c), some (.int (nI dep + 1)), some (.int (nI k + 1)), some (.int w)] [] (sk_u f qo dep b) Q) : sk_S l E (d + 1) MX1_gives 21 [some (.ref lo), some (.int a), some (.int b), some (.int c), some (.int (nI dep)), some (.int (nI k)), x6] [] f Q := by
  refine sk_S.iload (i := 5) (dd DX1_gives_p1 12 rfl) rfl ?_
  refine sk_S.aload_n (i := 0) (dd DX1_gives_p1 13 rfl) rfl rfl ?_
  refine sk_S.geti (dd DX1_gives_p1 14 rfl) rfl fX1_28 hlo (by decide) rfl ?_
  refine sk_S.icmp_ge (tgt := 186) (dd DX1_gives_p1 15 rfl) (by decide) (fun c27 => absurd c27 (by rw [hn]; exact nI_ge hk (by omega))) (fun c27 => ?_)
  refine sk_S.aload_n (i := 0) (dd DX1_gives_p1 16 rfl) rfl rfl ?_
  refine sk_S.getr (dd DX1_gives_p1 17 rfl) rfl fX1_9 hlo (by decide) rfl ?_
  refine sk_S.iload (i := 5) (dd DX1_gives_p1 18 rfl) rfl ?_
  refine sk_S.iald (dd DX1_gives_p1 19 rfl) hco (sk_ix_nI (k := k) rfl (by omega) (by decide)) ?_
  rw [hw]
  refine sk_S.istore (i := 6) (dd DX1_gives_p1 20 rfl) (Nat.le_of_ble_eq_true rfl) rfl ?_
  refine sk_S.iload (i := 6) (dd DX1_gives_p1 21 rfl) rfl ?_
  refine sk_S.bipush (v := -3) (dd DX1_gives_p1 22 rfl) (by decide) ?_
  refine sk_S.icmp_lt (tgt := 98) (dd DX1_gives_p1 23 rfl) (by decide) (fun c43 => absurd c43 (by rw [h0]; decide)) (fun c43 => ?_)
  refine sk_S.iload (i := 4) (dd DX1_gives_p1 24 rfl) rfl ?_
  refine sk_S.bipush (v := 60) (dd DX1_gives_p1 25 rfl) (by decide) ?_
  refine sk_S.icmp_ge (tgt := 98) (dd DX1_gives_p1 26 rfl) (by decide) (fun c50 => absurd c50 (by exact nI_ge (b := 60) (by omega) (by decide))) (fun c50 => ?_)
  refine sk_S.aload_n (i := 0) (dd DX1_gives_p1 27 rfl) rfl rfl ?_
  refine sk_S.getr (dd DX1_gives_p1 28 rfl) rfl fX1_15 hlo (by decide) rfl ?_
  refine sk_S.iload (i := 4) (dd DX1_gives_p1 29 rfl) rfl ?_
  refine sk_S.iload (i := 6) (dd DX1_gives_p1 30 rfl) rfl ?_
  refine sk_S.if_lt (tgt := 69) (dd DX1_gives_p1 31 rfl) (by decide) (fun c61 => ?_) (fun c61 => absurd (by rw [h0]; decide) c61)
  refine sk_S.iload (i := 6) (dd DX1_gives_p1 34 rfl) rfl ?_
  refine sk_S.iconst (v := -1) (dd DX1_gives_p1 35 rfl) (by decide) ?_
  refine sk_S.icmp_ne (tgt := 79) (dd DX1_gives_p1 36 rfl) (by decide) (fun c72 => ?_) (fun c72 => absurd c72 (by rw [h0]; decide))
  refine sk_S.iload (i := 6) (dd DX1_gives_p1 39 rfl) rfl ?_
  refine sk_S.bipush (v := -2) (dd DX1_gives_p1 40 rfl) (by decide) ?_
  refine sk_S.icmp_ne (tgt := 90) (dd DX1_gives_p1 41 rfl) (by decide) (fun c83 => absurd h0 c83) (fun c83 => ?_)
  refine sk_S.iload_n (i := 2) (dd DX1_gives_p1 42 rfl) rfl rfl ?_
  refine sk_S.goto (tgt := 91) (dd DX1_gives_p1 43 rfl) (by decide) ?_
  refine sk_S.iast (dd DX1_gives_p1 45 rfl) hqo (sk_ix_nI (k := dep) rfl (by omega) (by decide)) ?_
  refine sk_S.iinc (i := 4) (v := _ + 1) (dd DX1_gives_p1 46 rfl) rfl rfl rfl ?_
  refine sk_S.goto (tgt := 180) (dd DX1_gives_p1 47 rfl) (by decide) ?_
  refine sk_S.iinc (i := 5) (v := _ + 1) (dd DX1_gives_p1 94 rfl) rfl rfl rfl ?_
  refine sk_S.goto (tgt := 21) (dd DX1_gives_p1 95 rfl) (by decide) ?_
  exact kk
set_option maxRecDepth 100000 in
set_option maxHeartbeats 800000 in
theorem cg_2c {l : Launch} {E : sk_V} {d : Nat} {f : sk_M} {Q : Option Value → sk_M → Prop} {lo co qo : Nat} (hlo : sk_e lo = (1, 1, 4, [some co, some qo])) (hco : sk_e co = (0, 0, 60, [])) (hqo : sk_e qo = (0, 0, 60, [])) {a b c w : Int32} {n dep k : Nat} {x6 : Option Value} (hn : f lo 2 = nI n) (hn60 : n ≤ 60) (hk : k < n) (hd : dep ≤ k) (hw : f co k = w) (h0 : w = -3) (kk : sk_S l E (d + 1) MX1_gives 21 [some (.ref lo), some (.int a), some (.int b), some (.int c), some (.int (nI dep + 1)), some (.int (nI k + 1)), some (.int w)] [] (sk_u f qo dep c) Q) : sk_S l E (d + 1) MX1_gives 21 [some (.ref lo), some (.int a), some (.int b), some (.int c), some (.int (nI dep)), some (.int (nI k)), x6] [] f Q := by
  refine sk_S.iload (i := 5) (dd DX1_gives_p1 12 rfl) rfl ?_
  refine sk_S.aload_n (i := 0) (dd DX1_gives_p1 13 rfl) rfl rfl ?_
  refine sk_S.geti (dd DX1_gives_p1 14 rfl) rfl fX1_28 hlo (by decide) rfl ?_
  refine sk_S.icmp_ge (tgt := 186) (dd DX1_gives_p1 15 rfl) (by decide) (fun c27 => absurd c27 (by rw [hn]; exact nI_ge hk (by omega))) (fun c27 => ?_)
  refine sk_S.aload_n (i := 0) (dd DX1_gives_p1 16 rfl) rfl rfl ?_
  refine sk_S.getr (dd DX1_gives_p1 17 rfl) rfl fX1_9 hlo (by decide) rfl ?_
  refine sk_S.iload (i := 5) (dd DX1_gives_p1 18 rfl) rfl ?_
  refine sk_S.iald (dd DX1_gives_p1 19 rfl) hco (sk_ix_nI (k := k) rfl (by omega) (by decide)) ?_
  rw [hw]
  refine sk_S.istore (i := 6) (dd DX1_gives_p1 20 rfl) (Nat.le_of_ble_eq_true rfl) rfl ?_
  refine sk_S.iload (i := 6) (dd DX1_gives_p1 21 rfl) rfl ?_
  refine sk_S.bipush (v := -3) (dd DX1_gives_p1 22 rfl) (by decide) ?_
  refine sk_S.icmp_lt (tgt := 98) (dd DX1_gives_p1 23 rfl) (by decide) (fun c43 => absurd c43 (by rw [h0]; decide)) (fun c43 => ?_)
  refine sk_S.iload (i := 4) (dd DX1_gives_p1 24 rfl) rfl ?_
  refine sk_S.bipush (v := 60) (dd DX1_gives_p1 25 rfl) (by decide) ?_
  refine sk_S.icmp_ge (tgt := 98) (dd DX1_gives_p1 26 rfl) (by decide) (fun c50 => absurd c50 (by exact nI_ge (b := 60) (by omega) (by decide))) (fun c50 => ?_)
  refine sk_S.aload_n (i := 0) (dd DX1_gives_p1 27 rfl) rfl rfl ?_
  refine sk_S.getr (dd DX1_gives_p1 28 rfl) rfl fX1_15 hlo (by decide) rfl ?_
  refine sk_S.iload (i := 4) (dd DX1_gives_p1 29 rfl) rfl ?_
  refine sk_S.iload (i := 6) (dd DX1_gives_p1 30 rfl) rfl ?_
  refine sk_S.if_lt (tgt := 69) (dd DX1_gives_p1 31 rfl) (by decide) (fun c61 => ?_) (fun c61 => absurd (by rw [h0]; decide) c61)
  refine sk_S.iload (i := 6) (dd DX1_gives_p1 34 rfl) rfl ?_
  refine sk_S.iconst (v := -1) (dd DX1_gives_p1 35 rfl) (by decide) ?_
  refine sk_S.icmp_ne (tgt := 79) (dd DX1_gives_p1 36 rfl) (by decide) (fun c72 => ?_) (fun c72 => absurd c72 (by rw [h0]; decide))
  refine sk_S.iload (i := 6) (dd DX1_gives_p1 39 rfl) rfl ?_
  refine sk_S.bipush (v := -2) (dd DX1_gives_p1 40 rfl) (by decide) ?_
  refine sk_S.icmp_ne (tgt := 90) (dd DX1_gives_p1 41 rfl) (by decide) (fun c83 => ?_) (fun c83 => absurd c83 (by rw [h0]; decide))
  refine sk_S.iload_n (i := 3) (dd DX1_gives_p1 44 rfl) rfl rfl ?_
  refine sk_S.iast (dd DX1_gives_p1 45 rfl) hqo (sk_ix_nI (k := dep) rfl (by omega) (by decide)) ?_
  refine sk_S.iinc (i := 4) (v := _ + 1) (dd DX1_gives_p1 46 rfl) rfl rfl rfl ?_
  refine sk_S.goto (tgt := 180) (dd DX1_gives_p1 47 rfl) (by decide) ?_
  refine sk_S.iinc (i := 5) (v := _ + 1) (dd DX1_gives_p1 94 rfl) rfl rfl rfl ?_
  refine sk_S.goto (tgt := 21) (dd DX1_gives_p1 95 rfl) (by decide) ?_
  exact kk
set_option maxRecDepth 100000 in
set_option maxHeartbeats 800000 in
theorem cg_3 {l : Launch} {E : sk_V} {d : Nat} {f : sk_M} {Q : Option Value → sk_M → Prop} {lo co qo : Nat} (hlo : sk_e lo = (1, 1, 4, [some co, some qo])) (hco : sk_e co = (0, 0, 60, [])) (hqo : sk_e qo = (0, 0, 60, [])) {a b c w : Int32} {n dep k : Nat} {x6 : Option Value} (hn : f lo 2 = nI n) (hn60 : n ≤ 60) (hk : k < n) (hd : dep ≤ k) (hw : f co k = w) (h0 : w = -33) (h1 : 1 ≤ dep) (kk : sk_S l E (d + 1) MX1_gives 21 [some (.ref lo), some (.int a), some (.int b), some (.int c), some (.int (nI dep)), some (.int (nI k + 1)), some (.int w)] [] (sk_u f qo (dep - 1) (bi (f qo (dep - 1) = 0))) Q) : sk_S l E (d + 1) MX1_gives 21 [some (.ref lo), some (.int a), some (.int b), some (.int c), some (.int (nI dep)), some (.int (nI k)), x6] [] f Q := by
  refine sk_S.iload (i := 5) (dd DX1_gives_p1 12 rfl) rfl ?_
  refine sk_S.aload_n (i := 0) (dd DX1_gives_p1 13 rfl) rfl rfl ?_
  refine sk_S.geti (dd DX1_gives_p1 14 rfl) rfl fX1_28 hlo (by decide) rfl ?_
  refine sk_S.icmp_ge (tgt := 186) (dd DX1_gives_p1 15 rfl) (by decide) (fun c27 => absurd c27 (by rw [hn]; exact nI_ge hk (by omega))) (fun c27 => ?_)
  refine sk_S.aload_n (i := 0) (dd DX1_gives_p1 16 rfl) rfl rfl ?_
  refine sk_S.getr (dd DX1_gives_p1 17 rfl) rfl fX1_9 hlo (by decide) rfl ?_
  refine sk_S.iload (i := 5) (dd DX1_gives_p1 18 rfl) rfl ?_
  refine sk_S.iald (dd DX1_gives_p1 19 rfl) hco (sk_ix_nI (k := k) rfl (by omega) (by decide)) ?_
  rw [hw]
  refine sk_S.istore (i := 6) (dd DX1_gives_p1 20 rfl) (Nat.le_of_ble_eq_true rfl) rfl ?_
  refine sk_S.iload (i := 6) (dd DX1_gives_p1 21 rfl) rfl ?_
  refine sk_S.bipush (v := -3) (dd DX1_gives_p1 22 rfl) (by decide) ?_
  refine sk_S.icmp_lt (tgt := 98) (dd DX1_gives_p1 23 rfl) (by decide) (fun c43 => ?_) (fun c43 => absurd (by rw [h0]; decide) c43)
  refine sk_S.iload (i := 6) (dd DX1_gives_p1 48 rfl) rfl ?_
  refine sk_S.bipush (v := -33) (dd DX1_gives_p1 49 rfl) (by decide) ?_
  refine sk_S.icmp_ne (tgt := 140) (dd DX1_gives_p1 50 rfl) (by decide) (fun c102 => absurd h0 c102) (fun c102 => ?_)
  refine sk_S.iload (i := 4) (dd DX1_gives_p1 51 rfl) rfl ?_
  refine sk_S.iconst (v := 1) (dd DX1_gives_p1 52 rfl) (by decide) ?_
  refine sk_S.icmp_lt (tgt := 140) (dd DX1_gives_p1 53 rfl) (by decide) (fun c108 => absurd c108 (nI_nlt (b := 1) h1 (by omega))) (fun c108 => ?_)
  refine sk_S.aload_n (i := 0) (dd DX1_gives_p1 54 rfl) rfl rfl ?_
  refine sk_S.getr (dd DX1_gives_p1 55 rfl) rfl fX1_15 hlo (by decide) rfl ?_
  refine sk_S.iload (i := 4) (dd DX1_gives_p1 56 rfl) rfl ?_
  refine sk_S.iconst (v := 1) (dd DX1_gives_p1 57 rfl) (by decide) ?_
  refine sk_S.isub (dd DX1_gives_p1 58 rfl) ?_
  refine sk_S.aload_n (i := 0) (dd DX1_gives_p1 59 rfl) rfl rfl ?_
  refine sk_S.getr (dd DX1_gives_p1 60 rfl) rfl fX1_15 hlo (by decide) rfl ?_
  refine sk_S.iload (i := 4) (dd DX1_gives_p1 61 rfl) rfl ?_
  refine sk_S.iconst (v := 1) (dd DX1_gives_p1 62 rfl) (by decide) ?_
  refine sk_S.isub (dd DX1_gives_p1 63 rfl) ?_
  refine sk_S.iald (dd DX1_gives_p1 64 rfl) hqo (ix_p h1 (by omega) (by decide)) ?_
  refine sk_S.if_ne (tgt := 135) (dd DX1_gives_p1 65 rfl) (by decide) (fun c128 => ?_) (fun c128 => ?_)
  · refine sk_S.iconst (v := 0) (dd DX1_gives_p1 68 rfl) (by decide) ?_
    refine sk_S.V (bi (f qo (dep - 1) = 0)) (bi_f c128).symm ?_
    refine sk_S.iast (dd DX1_gives_p1 69 rfl) hqo (ix_p h1 (by omega) (by decide)) ?_
    refine sk_S.goto (tgt := 180) (dd DX1_gives_p1 70 rfl) (by decide) ?_
    refine sk_S.iinc (i := 5) (v := _ + 1) (dd DX1_gives_p1 94 rfl) rfl rfl rfl ?_
    refine sk_S.goto (tgt := 21) (dd DX1_gives_p1 95 rfl) (by decide) ?_
    exact kk
  · refine sk_S.iconst (v := 1) (dd DX1_gives_p1 66 rfl) (by decide) ?_
    refine sk_S.goto (tgt := 136) (dd DX1_gives_p1 67 rfl) (by decide) ?_
    refine sk_S.V (bi (f qo (dep - 1) = 0)) (bi_t c128).symm ?_
    refine sk_S.iast (dd DX1_gives_p1 69 rfl) hqo (ix_p h1 (by omega) (by decide)) ?_
    refine sk_S.goto (tgt := 180) (dd DX1_gives_p1 70 rfl) (by decide) ?_
    refine sk_S.iinc (i := 5) (v := _ + 1) (dd DX1_gives_p1 94 rfl) rfl rfl rfl ?_
    refine sk_S.goto (tgt := 21) (dd DX1_gives_p1 95 rfl) (by decide) ?_
    exact kk
set_option maxRecDepth 100000 in
set_option maxHeartbeats 800000 in
theorem cg_4 {l : Launch} {E : sk_V} {d : Nat} {f : sk_M} {Q : Option Value → sk_M → Prop} {lo co qo : Nat} (hlo : sk_e lo = (1, 1, 4, [some co, some qo])) (hco : sk_e co = (0, 0, 60, [])) (hqo : sk_e qo = (0, 0, 60, [])) {a b c w : Int32} {n dep k : Nat} {x6 : Option Value} (hn : f lo 2 = nI n) (hn60 : n ≤ 60) (hk : k < n) (hd : dep ≤ k) (hw : f co k = w) (h0 : w < -3) (h33 : ¬ w = -33) (h1 : 2 ≤ dep) (hs : -w ∈ sgL) (kk : sk_S l E (d + 1) MX1_gives 21 [some (.ref lo), some (.int a), some (.int b), some (.int c), some (.int (nI dep - 1)), some (.int (nI k + 1)), some (.int w)] [] (sk_u f qo (dep - 2) (twoV (-w) (f qo (dep - 2)) (f qo (dep - 1)))) Q) : sk_S l E (d + 1) MX1_gives 21 [some (.ref lo), some (.int a), some (.int b), some (.int c), some (.int (nI dep)), some (.int (nI k)), x6] [] f Q := by
  refine sk_S.iload (i := 5) (dd DX1_gives_p1 12 rfl) rfl ?_
  refine sk_S.aload_n (i := 0) (dd DX1_gives_p1 13 rfl) rfl rfl ?_
  refine sk_S.geti (dd DX1_gives_p1 14 rfl) rfl fX1_28 hlo (by decide) rfl ?_
  refine sk_S.icmp_ge (tgt := 186) (dd DX1_gives_p1 15 rfl) (by decide) (fun c27 => absurd c27 (by rw [hn]; exact nI_ge hk (by omega))) (fun c27 => ?_)
  refine sk_S.aload_n (i := 0) (dd DX1_gives_p1 16 rfl) rfl rfl ?_
  refine sk_S.getr (dd DX1_gives_p1 17 rfl) rfl fX1_9 hlo (by decide) rfl ?_
  refine sk_S.iload (i := 5) (dd DX1_gives_p1 18 rfl) rfl ?_
  refine sk_S.iald (dd DX1_gives_p1 19 rfl) hco (sk_ix_nI (k := k) rfl (by omega) (by decide)) ?_
  rw [hw]
  refine sk_S.istore (i := 6) (dd DX1_gives_p1 20 rfl) (Nat.le_of_ble_eq_true rfl) rfl ?_
  refine sk_S.iload (i := 6) (dd DX1_gives_p1 21 rfl) rfl ?_
  refine sk_S.bipush (v := -3) (dd DX1_gives_p1 22 rfl) (by decide) ?_
  refine sk_S.icmp_lt (tgt := 98) (dd DX1_gives_p1 23 rfl) (by decide) (fun c43 => ?_) (fun c43 => absurd h0 c43)
  refine sk_S.iload (i := 6) (dd DX1_gives_p1 48 rfl) rfl ?_
  refine sk_S.bipush (v := -33) (dd DX1_gives_p1 49 rfl) (by decide) ?_
  refine sk_S.icmp_ne (tgt := 140) (dd DX1_gives_p1 50 rfl) (by decide) (fun c102 => ?_) (fun c102 => absurd c102 h33)
  refine sk_S.iload (i := 4) (dd DX1_gives_p1 71 rfl) rfl ?_
  refine sk_S.iconst (v := 2) (dd DX1_gives_p1 72 rfl) (by decide) ?_
  refine sk_S.icmp_lt (tgt := 180) (dd DX1_gives_p1 73 rfl) (by decide) (fun c143 => absurd c143 (nI_nlt (b := 2) h1 (by omega))) (fun c143 => ?_)
  refine sk_S.iinc (i := 4) (v := _ - 1) (dd DX1_gives_p1 74 rfl) rfl iinc_m1 rfl ?_
  refine sk_S.aload_n (i := 0) (dd DX1_gives_p1 75 rfl) rfl rfl ?_
  refine sk_S.getr (dd DX1_gives_p1 76 rfl) rfl fX1_15 hlo (by decide) rfl ?_
  refine sk_S.iload (i := 4) (dd DX1_gives_p1 77 rfl) rfl ?_
  refine sk_S.iconst (v := 1) (dd DX1_gives_p1 78 rfl) (by decide) ?_
  refine sk_S.isub (dd DX1_gives_p1 79 rfl) ?_
  refine sk_S.iload (i := 6) (dd DX1_gives_p1 80 rfl) rfl ?_
  refine sk_S.ineg (dd DX1_gives_p1 81 rfl) ?_
  refine sk_S.aload_n (i := 0) (dd DX1_gives_p1 82 rfl) rfl rfl ?_
  refine sk_S.getr (dd DX1_gives_p1 83 rfl) rfl fX1_15 hlo (by decide) rfl ?_
  refine sk_S.iload (i := 4) (dd DX1_gives_p1 84 rfl) rfl ?_
  refine sk_S.iconst (v := 1) (dd DX1_gives_p1 85 rfl) (by decide) ?_
  refine sk_S.isub (dd DX1_gives_p1 86 rfl) ?_
  refine sk_S.iald (dd DX1_gives_p1 87 rfl) hqo (ix_p2 h1 (by omega) (by decide)) ?_
  refine sk_S.aload_n (i := 0) (dd DX1_gives_p1 88 rfl) rfl rfl ?_
  refine sk_S.getr (dd DX1_gives_p1 89 rfl) rfl fX1_15 hlo (by decide) rfl ?_
  refine sk_S.iload (i := 4) (dd DX1_gives_p1 90 rfl) rfl ?_
  refine sk_S.iald (dd DX1_gives_p1 91 rfl) hqo (ix_p (by omega) (by omega) (by decide)) ?_
  refine sk_S.callS (dd DX1_gives_p1 92 rfl) rfl kX1_48 (cC_joined hs) rfl rfl rfl (Nat.le_of_ble_eq_true rfl) (fun r176 h176 q176 => ?_)
  obtain ⟨rfl, rfl⟩ := q176
  show sk_S _ _ _ _ _ _ (.int _ :: _) _ _
  refine sk_S.iast (dd DX1_gives_p1 93 rfl) hqo (ix_p2 h1 (by omega) (by decide)) ?_
  refine sk_S.iinc (i := 5) (v := _ + 1) (dd DX1_gives_p1 94 rfl) rfl rfl rfl ?_
  refine sk_S.goto (tgt := 21) (dd DX1_gives_p1 95 rfl) (by decide) ?_
  exact kk
set_option maxRecDepth 100000 in
set_option maxHeartbeats 1000000 in
theorem lp_givesC {l : Launch} {E : sk_V} {d : Nat} {h : sk_M} {lo co qo : Nat} (hlo : sk_e lo = (1, 1, 4, [some co, some qo])) (hco : sk_e co = (0, 0, 60, [])) (hqo : sk_e qo = (0, 0, 60, [])) {a b c : Int32} {g : Nat → Int32} {u : Nat} {p : Nat → Int32} (hlq : lo ≠ qo) (hcq : co ≠ qo) (hI : lawI g u) (hS : lawS g u) (hC : lawC h lo co g u) (h0 : 0 < laN g u) : ∀ (m k : Nat) (f : sk_M) (x6 : Option Value), k + m = laN g u → sk_o [qo] h f → f qo = (evS (laA g u) (laB g u) a b c p k).2 → sk_S l E (d + 2) MX1_gives 21 [some (.ref lo), some (.int a), some (.int b), some (.int c), some (.int (nI (depN (laA g u) k))), some (.int (nI k)), x6] [] f (fun r h1 => sk_o [qo] h h1 ∧ some (.int (gvV g u a b c)) = r)
  | 0, k, f, x6, hk, ho, hf => by
    have hkn : k = laN g u := by omega
    have e_lo2 : f lo 2 = nI (laN g u) := by rw [ho lo (by simpa using hlq)]; exact hC.2.1 h0
    have hd1 := hI.2.2.2 h0
    refine sk_S.iload (i := 5) (dd DX1_gives_p1 12 rfl) rfl ?_
    refine sk_S.aload_n (i := 0) (dd DX1_gives_p1 13 rfl) rfl rfl ?_
    refine sk_S.geti (dd DX1_gives_p1 14 rfl) rfl fX1_28 hlo (by decide) rfl ?_
    refine sk_S.icmp_ge (tgt := 186) (dd DX1_gives_p1 15 rfl) (by decide) (fun c27 => ?_) (fun c27 => absurd (by rw [e_lo2, hkn]; exact Int32.le_refl _) c27)
    refine sk_S.iload (i := 4) (dd DX1_gives_p1 96 rfl) rfl ?_
    refine sk_S.if_le (tgt := 206) (dd DX1_gives_p1 97 rfl) (by decide) (fun c188 => absurd c188 (by rw [hkn]; exact nI_nle hd1 (by have := depN_le (laA g u) (laN g u); have := hI.2.1; omega))) (fun c188 => ?_)
    refine sk_S.aload_n (i := 0) (dd DX1_gives_p1 98 rfl) rfl rfl ?_
    refine sk_S.getr (dd DX1_gives_p1 99 rfl) rfl fX1_15 hlo (by decide) rfl ?_
    refine sk_S.iconst (v := 0) (dd DX1_gives_p2 0 rfl) (by decide) ?_
    refine sk_S.iald (dd DX1_gives_p2 1 rfl) hqo (j := 0) ⟨by decide, by decide, by decide⟩ ?_
    refine sk_S.iconst (v := 0) (dd DX1_gives_p2 2 rfl) (by decide) ?_
    refine sk_S.bipush (v := 99) (dd DX1_gives_p2 3 rfl) (by decide) ?_
    refine sk_S.callS (dd DX1_gives_p2 4 rfl) rfl kX1_24 (cC_held (by decide)) rfl rfl rfl (Nat.le_of_ble_eq_true rfl) (fun r200 h200 q200 => ?_)
    obtain ⟨rfl, rfl⟩ := q200
    show sk_S _ _ _ _ _ _ (.int _ :: _) _ _
    refine sk_S.goto (tgt := 207) (dd DX1_gives_p2 5 rfl) (by decide) ?_
    refine sk_S.iret (dd DX1_gives_p2 7 rfl) rfl rfl ?_
    refine ⟨ho, ?_⟩
    rw [hf, hkn]
    unfold gvV
    rw [if_pos h0, lawV_any hI h0]
  | m + 1, k, f, x6, hk, ho, hf => by
    have hkn : k < laN g u := by omega
    have e_lo2 : f lo 2 = nI (laN g u) := by rw [ho lo (by simpa using hlq)]; exact hC.2.1 h0
    have hcok : f co k = encC (laA g u k) (laB g u k) := by rw [ho co (by simpa using hcq)]; exact hC.2.2 k hkn
    have hdk := depN_le (laA g u) k
    obtain ⟨w2, w3, w4⟩ := hI.2.2.1 k hkn
    have go : ∀ (x6 : Option Value) (f2 : sk_M), sk_o [qo] h f2 → f2 qo = (evS (laA g u) (laB g u) a b c p (k + 1)).2 → ∀ X : Int32, X = nI (depN (laA g u) (k + 1)) → sk_S l E (d + 2) MX1_gives 21 [some (.ref lo), some (.int a), some (.int b), some (.int c), some (.int X), some (.int (nI k + 1)), x6] [] f2 (fun r h1 => sk_o [qo] h h1 ∧ some (.int (gvV g u a b c)) = r) := by
      intro x6 f2 o2 e2 X hX
      rw [hX, ← nI_succ k]
      exact lp_givesC hlo hco hqo hlq hcq hI hS hC h0 m (k + 1) f2 x6 (by omega) o2 e2
    rcases hS k hkn with ⟨q1, q2⟩ | ⟨q1, q2⟩ | q1 | q1
    · have hw : encC (laA g u k) (laB g u k) = laB g u k := by unfold encC; rw [if_pos q1]
      rw [hw] at hcok
      refine cg_1 hlo hco hqo e_lo2 hI.2.1 hkn hdk hcok (Int32.not_lt.mpr (Int32.le_trans (by decide) q2)) (Int32.not_lt.mpr q2) (go _ _ (ho.u (by simp)) ?_ _ ?_)
      · rw [sk_u, sk_r_eq, hf, evS_1 q1]
      · rw [depN_1 q1, nI_succ]
    · have hw : encC (laA g u k) (laB g u k) = -1 - laB g u k := by unfold encC; rw [if_neg (by rw [q1]; decide), if_pos q1]
      rw [hw] at hcok
      rcases q2 with q2 | q2 | q2
      · rw [q2] at hcok
        refine cg_2a hlo hco hqo e_lo2 hI.2.1 hkn hdk hcok (by decide) (go _ _ (ho.u (by simp)) ?_ _ ?_)
        · rw [sk_u, sk_r_eq, hf, evS_2 q1, q2]; rfl
        · rw [depN_2 q1, nI_succ]
      · rw [q2] at hcok
        refine cg_2b hlo hco hqo e_lo2 hI.2.1 hkn hdk hcok (by decide) (go _ _ (ho.u (by simp)) ?_ _ ?_)
        · rw [sk_u, sk_r_eq, hf, evS_2 q1, q2]; rfl
        · rw [depN_2 q1, nI_succ]
      · rw [q2] at hcok
        refine cg_2c hlo hco hqo e_lo2 hI.2.1 hkn hdk hcok (by decide) (go _ _ (ho.u (by simp)) ?_ _ ?_)
        · rw [sk_u, sk_r_eq, hf, evS_2 q1, q2]; rfl
        · rw [depN_2 q1, nI_succ]
    · have hw : encC (laA g u k) (laB g u k) = -33 := by unfold encC; rw [if_neg (by rw [q1]; decide), if_neg (by rw [q1]; decide), if_pos q1]
      rw [hw] at hcok
      refine cg_3 hlo hco hqo e_lo2 hI.2.1 hkn hdk hcok rfl (w3 q1) (go _ _ (ho.u (by simp)) ?_ _ ?_)
      · rw [sk_u, sk_r_eq, hf, evS_3 q1]
      · rw [depN_3 q1]
    · obtain ⟨s1, s2, s3, s4, s5, s6⟩ := sg_no q1
      have hw : encC (laA g u k) (laB g u k) = -(laA g u k) := by unfold encC; rw [if_neg s1, if_neg s2, if_neg s3]
      rw [hw] at hcok
      have hd2 := w4 s1 s2 s3
      refine cg_4 hlo hco hqo e_lo2 hI.2.1 hkn hdk hcok s4 s5 hd2 (by rw [s6]; exact q1) (go _ _ (ho.u (by simp)) ?_ _ ?_)
      · rw [sk_u, sk_r_eq, hf, evS_4 s1 s2 s3, s6]
      · rw [depN_4 s1 s2 s3, ← nI_sub (b := 1) (by omega)]; rfl
set_option maxRecDepth 100000 in
set_option maxHeartbeats 800000 in
theorem cC_gives {l : Launch} {E : sk_V} {d : Nat} {h : sk_M} {lo co qo : Nat} (hlo : sk_e lo = (1, 1, 4, [some co, some qo])) (hco : sk_e co = (0, 0, 60, [])) (hqo : sk_e qo = (0, 0, 60, [])) {a b c : Int32} {g : Nat → Int32} {u : Nat} (hlq : lo ≠ qo) (hcq : co ≠ qo) (hI : lawI g u) (hS : lawS g u) (hC : lawC h lo co g u) : sk_K l E (d + 2) MX1_gives [.ref lo, .int a, .int b, .int c] h (fun r h1 => sk_o [qo] h h1 ∧ some (.int (gvV g u a b c)) = r) := by
  refine sk_K.of (by decide +kernel) (Nat.le_of_ble_eq_true rfl) ?_
  show sk_S l E (d + 2) _ 0 [some (.ref lo), some (.int a), some (.int b), some (.int c), none, none, none] [] h _
  refine sk_S.aload_n (i := 0) (dd DX1_gives_p1 0 rfl) rfl rfl ?_
  refine sk_S.geti (dd DX1_gives_p1 1 rfl) rfl fX1_38 hlo (by decide) rfl ?_
  refine sk_S.if_ne (tgt := 15) (dd DX1_gives_p1 2 rfl) (by decide) (fun c4 => ?_) (fun c4 => ?_)
  · refine sk_S.iconst (v := 0) (dd DX1_gives_p1 8 rfl) (by decide) ?_
    refine sk_S.istore (i := 4) (dd DX1_gives_p1 9 rfl) (Nat.le_of_ble_eq_true rfl) rfl ?_
    refine sk_S.iconst (v := 0) (dd DX1_gives_p1 10 rfl) (by decide) ?_
    refine sk_S.istore (i := 5) (dd DX1_gives_p1 11 rfl) (Nat.le_of_ble_eq_true rfl) rfl ?_
    have h0 : 0 < laN g u := by
      apply Nat.pos_of_ne_zero
      intro q
      apply c4
      rw [hC.1, q]
      rfl
    exact lp_givesC hlo hco hqo hlq hcq hI hS hC h0 (laN g u) 0 h none (Nat.zero_add _) sk_o.rf rfl
  · refine sk_S.iload_n (i := 1) (dd DX1_gives_p1 3 rfl) rfl rfl ?_
    refine sk_S.iconst (v := 0) (dd DX1_gives_p1 4 rfl) (by decide) ?_
    refine sk_S.bipush (v := 99) (dd DX1_gives_p1 5 rfl) (by decide) ?_
    refine sk_S.callS (dd DX1_gives_p1 6 rfl) rfl kX1_24 (cC_held (by decide)) rfl rfl rfl (Nat.le_of_ble_eq_true rfl) (fun r11 h11 q11 => ?_)
    obtain ⟨rfl, rfl⟩ := q11
    show sk_S _ _ _ _ _ _ (.int _ :: _) _ _
    refine sk_S.iret (dd DX1_gives_p1 7 rfl) rfl rfl ?_
    refine ⟨sk_o.rf, ?_⟩
    have h0 : ¬ 0 < laN g u := by
      intro q
      rw [hC.1, if_pos q] at c4
      exact absurd c4 (by decide)
    unfold gvV
    rw [if_neg h0]
end C2
