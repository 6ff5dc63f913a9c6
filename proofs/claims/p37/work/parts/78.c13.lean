section C13
set_option maxRecDepth 100000 in
set_option maxHeartbeats 1000000 in
theorem lq_feed {l : Launch} {E : sk_V} {d : Nat} {h : sk_M} {g : Nat → Int32} {w : Int64} {n tp : Nat} (hn : n ≤ 8) (hR : RQ 1 18 h g) (et : g 7 = nI tp) (ht : tp + n ≤ 60) : ∀ (m i : Nat) (k : sk_M), i + m = n → sk_o [1, 22] h k → RQ 1 18 k (fdR g w tp i) → sk_S l E (d + 3) MX7_feed 42 [some (.ref 0), some (.long w), none, some (.int (nI n)), some (.int (nI i))] [] k (fun r h1 => sk_o [1, 22] h h1 ∧ RQ 1 18 h1 (fdR g w tp n) ∧ some (.int (nI (tp + n))) = r)
  | 0, i, k, hi, ho, hK => by
    have e : i = n := by omega
    subst e
    refine sk_S.iload (i := 4) (dd DX7_feed 23 rfl) rfl ?_
    refine sk_S.iload_n (i := 3) (dd DX7_feed 24 rfl) rfl rfl ?_
    refine sk_S.icmp_ge (tgt := 94) (dd DX7_feed 25 rfl) (by decide) (fun c45 => ?_) (fun c45 => absurd (Int32.le_refl _) c45)
    refine sk_S.aload_n (i := 0) (dd DX7_feed 50 rfl) rfl rfl ?_
    refine sk_S.getr (dd DX7_feed 51 rfl) rfl fX7_12 se_0 (by decide) rfl ?_
    refine sk_S.geti (dd DX7_feed 52 rfl) rfl fX7_115 se_1 (by decide) rfl ?_
    refine sk_S.iret (dd DX7_feed 53 rfl) rfl rfl ?_
    exact ⟨ho, hK, by rw [hK.td, fdR_7 et]⟩
  | m + 1, i, k, hi, ho, hK => by
    have etd : k 1 12 = nI (tp + i) := hK.td.trans (fdR_7 et i)
    refine sk_S.iload (i := 4) (dd DX7_feed 23 rfl) rfl ?_
    refine sk_S.iload_n (i := 3) (dd DX7_feed 24 rfl) rfl rfl ?_
    refine sk_S.icmp_ge (tgt := 94) (dd DX7_feed 25 rfl) (by decide) (fun c45 => absurd c45 (by exact nI_ge (by omega) (by omega))) (fun c45 => ?_)
    refine sk_S.aload_n (i := 0) (dd DX7_feed 26 rfl) rfl rfl ?_
    refine sk_S.getr (dd DX7_feed 27 rfl) rfl fX7_12 se_0 (by decide) rfl ?_
    refine sk_S.getr (dd DX7_feed 28 rfl) rfl fX7_118 se_1 (by decide) rfl ?_
    refine sk_S.aload_n (i := 0) (dd DX7_feed 29 rfl) rfl rfl ?_
    refine sk_S.getr (dd DX7_feed 30 rfl) rfl fX7_12 se_0 (by decide) rfl ?_
    refine sk_S.geti (dd DX7_feed 31 rfl) rfl fX7_115 se_1 (by decide) rfl ?_
    refine sk_S.lload_n (i := 1) (dd DX7_feed 32 rfl) rfl rfl ?_
    refine sk_S.bipush (v := 8) (dd DX7_feed 33 rfl) (by decide) ?_
    refine sk_S.iload (i := 4) (dd DX7_feed 34 rfl) rfl ?_
    refine sk_S.imul (dd DX7_feed 35 rfl) ?_
    refine sk_S.lushr (dd DX7_feed 36 rfl) ?_
    refine sk_S.l2i (dd DX7_feed 37 rfl) ?_
    refine sk_S.sipush (v := 255) (dd DX7_feed 38 rfl) (by decide) ?_
    refine sk_S.iand (dd DX7_feed 39 rfl) ?_
    refine sk_S.V (fdB w i) (fd_eq w (by omega)) ?_
    refine sk_S.iast (dd DX7_feed 40 rfl) se_22 (sk_ix_nI (k := tp + i) etd (by omega) (by decide)) ?_
    refine sk_S.aload_n (i := 0) (dd DX7_feed 41 rfl) rfl rfl ?_
    refine sk_S.getr (dd DX7_feed 42 rfl) rfl fX7_12 se_0 (by decide) rfl ?_
    refine sk_S.dup (dd DX7_feed 43 rfl) rfl ?_
    refine sk_S.geti (dd DX7_feed 44 rfl) rfl fX7_115 se_1 (by decide) rfl ?_
    refine sk_S.iconst (v := 1) (dd DX7_feed 45 rfl) (by decide) ?_
    refine sk_S.iadd (dd DX7_feed 46 rfl) ?_
    refine sk_S.putf (dd DX7_feed 47 rfl) rfl pX7_115 se_1 (by decide) rfl rfl rfl ?_
    refine sk_S.iinc (i := 4) (v := _ + 1) (dd DX7_feed 48 rfl) rfl rfl rfl ?_
    refine sk_S.goto (tgt := 42) (dd DX7_feed 49 rfl) (by decide) ?_
    have e2 : sk_u k 22 (tp + i) (fdB w i) 1 12 + 1 = nI (tp + i + 1) := by rw [sk_u_at, if_neg (by decide), etd, nI_1]
    rw [e2]
    exact sk_S.L (lq_feed hn hR et ht m (i + 1) _ (by omega) ((ho.u (by decide)).u (by decide)) ((hK.u_tp (k := tp + i) (by omega)).u_q (p := 7) (by decide))) (by rw [nI_succ]; rfl)
set_option maxRecDepth 100000 in
set_option maxHeartbeats 1000000 in
theorem cP_feed {l : Launch} {E : sk_V} {d : Nat} {h : sk_M} {w : Int64} {x : Int32} {g : Nat → Int32} (hR : RQ 1 18 h g) (hG : RG g) : sk_K l E (d + 5) MX7_feed [.ref 0, .long w, .int x] h (fun r h1 => oC h h1 (feedF g w x).1 (feedF g w x).2 r) := by
  refine sk_K.of (by decide +kernel) (Nat.le_of_ble_eq_true rfl) ?_
  show sk_S l E (d + 5) _ 0 [some (.ref 0), some (.long w), none, some (.int x), none] [] h _
  refine sk_S.iload_n (i := 3) (dd DX7_feed 0 rfl) rfl rfl ?_
  refine sk_S.iconst (v := 1) (dd DX7_feed 1 rfl) (by decide) ?_
  refine sk_S.icmp_lt (tgt := 11) (dd DX7_feed 2 rfl) (by decide) (fun c2 => ?_) (fun c2 => ?_)
  · refine sk_S.aload_n (i := 0) (dd DX7_feed 6 rfl) rfl rfl ?_
    refine sk_S.ldc (dd DX7_feed 7 rfl) rfl cnX7_48 ?_
    refine sk_S.callV (dd DX7_feed 8 rfl) rfl kX7_49 (cC_refuse (k := 1) (by decide) (by decide) (by decide)) se_0 (by decide) rfl rfl rfl rfl (Nat.le_of_ble_eq_true rfl) (fun r14 h14 q14 => ?_)
    obtain ⟨rfl, rfl⟩ := q14
    show sk_S _ _ _ _ _ _ (.int _ :: _) _ _
    refine sk_S.iret (dd DX7_feed 9 rfl) rfl rfl ?_
    have e : feedF g w x = (g, erI 1) := by
      unfold feedF
      rw [cif_f (fun z => absurd z.1 (Int32.not_le.mpr c2))]
    rw [e]
    exact oC.er (j := 1) hR sk_o.rf
  · refine sk_S.iload_n (i := 3) (dd DX7_feed 3 rfl) rfl rfl ?_
    refine sk_S.bipush (v := 8) (dd DX7_feed 4 rfl) (by decide) ?_
    refine sk_S.icmp_le (tgt := 18) (dd DX7_feed 5 rfl) (by decide) (fun c8 => ?_) (fun c8 => ?_)
    · have hx : 1 ≤ x ∧ x ≤ 8 := ⟨Int32.not_lt.mp c2, c8⟩
      obtain ⟨n, h1n, hn, rfl⟩ := rg18 hx
      obtain ⟨tp, ht, et⟩ := hG.tp
      have hcl : cl (nI n) = n := clN (by omega)
      have hct : cl (nI tp) = tp := clN (by omega)
      refine sk_S.aload_n (i := 0) (dd DX7_feed 10 rfl) rfl rfl ?_
      refine sk_S.getr (dd DX7_feed 11 rfl) rfl fX7_12 se_0 (by decide) rfl ?_
      refine sk_S.geti (dd DX7_feed 12 rfl) rfl fX7_115 se_1 (by decide) rfl ?_
      refine sk_S.iload_n (i := 3) (dd DX7_feed 13 rfl) rfl rfl ?_
      refine sk_S.iadd (dd DX7_feed 14 rfl) ?_
      refine sk_S.bipush (v := 60) (dd DX7_feed 15 rfl) (by decide) ?_
      refine sk_S.icmp_le (tgt := 39) (dd DX7_feed 16 rfl) (by decide) (fun c29 => ?_) (fun c29 => ?_)
      · refine sk_S.iconst (v := 0) (dd DX7_feed 21 rfl) (by decide) ?_
        refine sk_S.istore (i := 4) (dd DX7_feed 22 rfl) (Nat.le_of_ble_eq_true rfl) rfl ?_
        have ht60 : tp + n ≤ 60 := by
          rw [hR.td, et, nI_add] at c29
          have c : nI (tp + n) ≤ nI 60 := c29
          rwa [nI_leI (by omega) (by decide)] at c
        refine sk_S.mono (lq_feed hn hR et ht60 n 0 h (Nat.zero_add _) sk_o.rf hR) (fun r h1 z => ?_)
        have e : feedF g w (nI n) = (fdR g w tp n, nI (tp + n)) := by
          unfold feedF
          rw [cif_t hx, et, hcl, hct, cif_f (by omega)]
        rw [e]
        exact ⟨z.1.more (by decide), z.2.1, z.2.2⟩
      · refine sk_S.aload_n (i := 0) (dd DX7_feed 17 rfl) rfl rfl ?_
        refine sk_S.ldc (dd DX7_feed 18 rfl) rfl cnX7_57 ?_
        refine sk_S.callV (dd DX7_feed 19 rfl) rfl kX7_49 (cC_refuse (k := 4) (by decide) (by decide) (by decide)) se_0 (by decide) rfl rfl rfl rfl (Nat.le_of_ble_eq_true rfl) (fun r35 h35 q35 => ?_)
        obtain ⟨rfl, rfl⟩ := q35
        show sk_S _ _ _ _ _ _ (.int _ :: _) _ _
        refine sk_S.iret (dd DX7_feed 20 rfl) rfl rfl ?_
        have ht60 : 60 < tp + n := by
          rw [hR.td, et, nI_add] at c29
          have c : ¬ nI (tp + n) ≤ nI 60 := c29
          rw [nI_leI (by omega) (by decide)] at c
          omega
        have e : feedF g w (nI n) = (g, erI 4) := by
          unfold feedF
          rw [cif_t hx, et, hcl, hct, cif_t ht60]
        rw [e]
        exact oC.er (j := 4) hR sk_o.rf
    · refine sk_S.aload_n (i := 0) (dd DX7_feed 6 rfl) rfl rfl ?_
      refine sk_S.ldc (dd DX7_feed 7 rfl) rfl cnX7_48 ?_
      refine sk_S.callV (dd DX7_feed 8 rfl) rfl kX7_49 (cC_refuse (k := 1) (by decide) (by decide) (by decide)) se_0 (by decide) rfl rfl rfl rfl (Nat.le_of_ble_eq_true rfl) (fun r14 h14 q14 => ?_)
      obtain ⟨rfl, rfl⟩ := q14
      show sk_S _ _ _ _ _ _ (.int _ :: _) _ _
      refine sk_S.iret (dd DX7_feed 9 rfl) rfl rfl ?_
      have e : feedF g w x = (g, erI 1) := by
        unfold feedF
        rw [cif_f (fun z => c8 z.2)]
      rw [e]
      exact oC.er (j := 1) hR sk_o.rf
set_option maxRecDepth 100000 in
set_option maxHeartbeats 1000000 in
theorem cP_count {l : Launch} {E : sk_V} {d : Nat} {h : sk_M} {w : Int32} (hR : RQ 1 18 h (h 55)) (hV : h 4 1 = h 54 18) : sk_K l E (d + 5) MX7_count [.ref 0, .int w] h (fun r h1 => oC h h1 (h 55) (cif (inN w 10) (cntV h (cl w)) (erI 1)) r) := by
  refine sk_K.of (by decide +kernel) (Nat.le_of_ble_eq_true rfl) ?_
  show sk_S l E (d + 5) _ 0 [some (.ref 0), some (.int w)] [] h _
  refine sk_S.iload_n (i := 1) (dd DX7_count 0 rfl) rfl rfl ?_
  refine sk_S.tabL (dd DX7_count 1 rfl) rfl (by decide) (by decide) (by decide) (fun j1 hj1 e1 => ?_) (fun e1 => ?_)
  · rcases j1 with _ | _ | _ | _ | _ | _ | _ | _ | _ | _ | j1
    · show sk_S _ _ _ _ 56 _ _ _ _
      replace e1 : _ = (0 : Int32) := e1
      refine sk_S.aload_n (i := 0) (dd DX7_count 2 rfl) rfl rfl ?_
      refine sk_S.getr (dd DX7_count 3 rfl) rfl fX7_12 se_0 (by decide) rfl ?_
      refine sk_S.geti (dd DX7_count 4 rfl) rfl fX7_53 se_1 (by decide) rfl ?_
      refine sk_S.iret (dd DX7_count 5 rfl) rfl rfl ?_
      subst e1
      rw [cif_t ⟨0, by decide, rfl⟩]
      exact ⟨sk_o.rf, hR, by rw [hR.bo]; rfl⟩
    · show sk_S _ _ _ _ 64 _ _ _ _
      replace e1 : _ = (1 : Int32) := e1
      refine sk_S.aload_n (i := 0) (dd DX7_count 6 rfl) rfl rfl ?_
      refine sk_S.getr (dd DX7_count 7 rfl) rfl fX7_12 se_0 (by decide) rfl ?_
      refine sk_S.geti (dd DX7_count 8 rfl) rfl fX7_93 se_1 (by decide) rfl ?_
      refine sk_S.iret (dd DX7_count 9 rfl) rfl rfl ?_
      subst e1
      rw [cif_t ⟨1, by decide, rfl⟩]
      exact ⟨sk_o.rf, hR, by rw [hR.wa]; rfl⟩
    · show sk_S _ _ _ _ 72 _ _ _ _
      replace e1 : _ = (2 : Int32) := e1
      refine sk_S.aload_n (i := 0) (dd DX7_count 10 rfl) rfl rfl ?_
      refine sk_S.getr (dd DX7_count 11 rfl) rfl fX7_12 se_0 (by decide) rfl ?_
      refine sk_S.geti (dd DX7_count 12 rfl) rfl fX7_84 se_1 (by decide) rfl ?_
      refine sk_S.iret (dd DX7_count 13 rfl) rfl rfl ?_
      subst e1
      rw [cif_t ⟨2, by decide, rfl⟩]
      exact ⟨sk_o.rf, hR, by rw [hR.da]; rfl⟩
    · show sk_S _ _ _ _ 80 _ _ _ _
      replace e1 : _ = (3 : Int32) := e1
      refine sk_S.aload_n (i := 0) (dd DX7_count 14 rfl) rfl rfl ?_
      refine sk_S.getr (dd DX7_count 15 rfl) rfl fX7_12 se_0 (by decide) rfl ?_
      refine sk_S.geti (dd DX7_count 16 rfl) rfl fX7_277 se_1 (by decide) rfl ?_
      refine sk_S.iret (dd DX7_count 17 rfl) rfl rfl ?_
      subst e1
      rw [cif_t ⟨3, by decide, rfl⟩]
      exact ⟨sk_o.rf, hR, by rw [hR.pu]; rfl⟩
    · show sk_S _ _ _ _ 88 _ _ _ _
      replace e1 : _ = (4 : Int32) := e1
      refine sk_S.aload_n (i := 0) (dd DX7_count 18 rfl) rfl rfl ?_
      refine sk_S.getr (dd DX7_count 19 rfl) rfl fX7_12 se_0 (by decide) rfl ?_
      refine sk_S.geti (dd DX7_count 20 rfl) rfl fX7_280 se_1 (by decide) rfl ?_
      refine sk_S.iret (dd DX7_count 21 rfl) rfl rfl ?_
      subst e1
      rw [cif_t ⟨4, by decide, rfl⟩]
      exact ⟨sk_o.rf, hR, by rw [hR.ow]; rfl⟩
    · show sk_S _ _ _ _ 96 _ _ _ _
      replace e1 : _ = (5 : Int32) := e1
      refine sk_S.aload_n (i := 0) (dd DX7_count 22 rfl) rfl rfl ?_
      refine sk_S.getr (dd DX7_count 23 rfl) rfl fX7_12 se_0 (by decide) rfl ?_
      refine sk_S.geti (dd DX7_count 24 rfl) rfl fX7_283 se_1 (by decide) rfl ?_
      refine sk_S.iret (dd DX7_count 25 rfl) rfl rfl ?_
      subst e1
      rw [cif_t ⟨5, by decide, rfl⟩]
      exact ⟨sk_o.rf, hR, by rw [hR.tr]; rfl⟩
    · show sk_S _ _ _ _ 104 _ _ _ _
      replace e1 : _ = (6 : Int32) := e1
      refine sk_S.aload_n (i := 0) (dd DX7_count 26 rfl) rfl rfl ?_
      refine sk_S.getr (dd DX7_count 27 rfl) rfl fX7_12 se_0 (by decide) rfl ?_
      refine sk_S.geti (dd DX7_count 28 rfl) rfl fX7_115 se_1 (by decide) rfl ?_
      refine sk_S.iret (dd DX7_count 29 rfl) rfl rfl ?_
      subst e1
      rw [cif_t ⟨6, by decide, rfl⟩]
      exact ⟨sk_o.rf, hR, by rw [hR.td]; rfl⟩
    · show sk_S _ _ _ _ 112 _ _ _ _
      replace e1 : _ = (7 : Int32) := e1
      refine sk_S.aload_n (i := 0) (dd DX7_count 30 rfl) rfl rfl ?_
      refine sk_S.getr (dd DX7_count 31 rfl) rfl fX7_12 se_0 (by decide) rfl ?_
      refine sk_S.geti (dd DX7_count 32 rfl) rfl fX7_271 se_1 (by decide) rfl ?_
      refine sk_S.iret (dd DX7_count 33 rfl) rfl rfl ?_
      subst e1
      rw [cif_t ⟨7, by decide, rfl⟩]
      exact ⟨sk_o.rf, hR, by rw [hR.ws]; rfl⟩
    · show sk_S _ _ _ _ 120 _ _ _ _
      replace e1 : _ = (8 : Int32) := e1
      refine sk_S.aload_n (i := 0) (dd DX7_count 34 rfl) rfl rfl ?_
      refine sk_S.getr (dd DX7_count 35 rfl) rfl fX7_29 se_0 (by decide) rfl ?_
      refine sk_S.geti (dd DX7_count 36 rfl) rfl fX7_228 se_4 (by decide) rfl ?_
      refine sk_S.iret (dd DX7_count 37 rfl) rfl rfl ?_
      subst e1
      rw [cif_t ⟨8, by decide, rfl⟩]
      exact ⟨sk_o.rf, hR, by rw [hV]; rfl⟩
    · show sk_S _ _ _ _ 128 _ _ _ _
      replace e1 : _ = (9 : Int32) := e1
      refine sk_S.aload_n (i := 0) (dd DX7_count 38 rfl) rfl rfl ?_
      refine sk_S.getr (dd DX7_count 39 rfl) rfl fX7_12 se_0 (by decide) rfl ?_
      refine sk_S.geti (dd DX7_count 40 rfl) rfl fX7_159 se_1 (by decide) rfl ?_
      refine sk_S.iret (dd DX7_count 41 rfl) rfl rfl ?_
      subst e1
      rw [cif_t ⟨9, by decide, rfl⟩]
      exact ⟨sk_o.rf, hR, by rw [hR.zz]; rfl⟩
    · exact absurd hj1 (by simp)
  · show sk_S _ _ _ _ 136 _ _ _ _
    have e1_ := (⟨e1 0 (by decide), e1 1 (by decide), e1 2 (by decide), e1 3 (by decide), e1 4 (by decide), e1 5 (by decide), e1 6 (by decide), e1 7 (by decide), e1 8 (by decide), e1 9 (by decide)⟩ : ¬ _ = (0 : Int32) ∧ ¬ _ = (1 : Int32) ∧ ¬ _ = (2 : Int32) ∧ ¬ _ = (3 : Int32) ∧ ¬ _ = (4 : Int32) ∧ ¬ _ = (5 : Int32) ∧ ¬ _ = (6 : Int32) ∧ ¬ _ = (7 : Int32) ∧ ¬ _ = (8 : Int32) ∧ ¬ _ = (9 : Int32))
    refine sk_S.aload_n (i := 0) (dd DX7_count 42 rfl) rfl rfl ?_
    refine sk_S.ldc (dd DX7_count 43 rfl) rfl cnX7_48 ?_
    refine sk_S.callV (dd DX7_count 44 rfl) rfl kX7_49 (cC_refuse (k := 1) (by decide) (by decide) (by decide)) se_0 (by decide) rfl rfl rfl rfl (Nat.le_of_ble_eq_true rfl) (fun r139 h139 q139 => ?_)
    obtain ⟨rfl, rfl⟩ := q139
    show sk_S _ _ _ _ _ _ (.int _ :: _) _ _
    refine sk_S.iret (dd DX7_count 45 rfl) rfl rfl ?_
    have hn : ¬ inN w 10 := by
      rintro ⟨k, hk, rfl⟩
      obtain ⟨a0, a1, a2, a3, a4, a5, a6, a7, a8, a9⟩ := e1_
      rcases (by omega : k = 0 ∨ k = 1 ∨ k = 2 ∨ k = 3 ∨ k = 4 ∨ k = 5 ∨ k = 6 ∨ k = 7 ∨ k = 8 ∨ k = 9) with rfl | rfl | rfl | rfl | rfl | rfl | rfl | rfl | rfl | rfl
      · exact a0 rfl
      · exact a1 rfl
      · exact a2 rfl
      · exact a3 rfl
      · exact a4 rfl
      · exact a5 rfl
      · exact a6 rfl
      · exact a7 rfl
      · exact a8 rfl
      · exact a9 rfl
    rw [cif_f hn]
    exact oC.er (j := 1) hR sk_o.rf
set_option maxRecDepth 100000 in
set_option maxHeartbeats 1000000 in
theorem cP_body {l : Launch} {E : sk_V} {d : Nat} {h : sk_M} {i : Int32} {n : Nat} {g : Nat → Int32} (hR : RQ 1 18 h g) (hn : n ≤ 30) (e1 : h 4 1 = nI n) (e2 : ∀ k, k < n → h 17 k = h 66 k) : sk_K l E (d + 5) MX7_body [.ref 0, .int i] h (fun r h1 => oC h h1 g (cif (inN i n) (h 66 (cl i)) (erI 2)) r) := by
  refine sk_K.of (by decide +kernel) (Nat.le_of_ble_eq_true rfl) ?_
  show sk_S l E (d + 5) _ 0 [some (.ref 0), some (.int i)] [] h _
  refine sk_S.iload_n (i := 1) (dd DX7_body 0 rfl) rfl rfl ?_
  refine sk_S.if_lt (tgt := 15) (dd DX7_body 1 rfl) (by decide) (fun c1 => ?_) (fun c1 => ?_)
  · refine sk_S.aload_n (i := 0) (dd DX7_body 7 rfl) rfl rfl ?_
    refine sk_S.ldc (dd DX7_body 8 rfl) rfl cnX7_184 ?_
    refine sk_S.callV (dd DX7_body 9 rfl) rfl kX7_49 (cC_refuse (k := 2) (by decide) (by decide) (by decide)) se_0 (by decide) rfl rfl rfl rfl (Nat.le_of_ble_eq_true rfl) (fun r18 h18 q18 => ?_)
    obtain ⟨rfl, rfl⟩ := q18
    show sk_S _ _ _ _ _ _ (.int _ :: _) _ _
    refine sk_S.iret (dd DX7_body 10 rfl) rfl rfl ?_
    have hi : ¬ inN i n := fun z => by
      have y := (inN_lt (M := h 4 1) (n := n) (by rw [e1]; exact nI_toInt (by omega))).mpr z
      exact absurd y.1 (Int32.not_le.mpr c1)
    rw [cif_f hi]
    exact oC.er (j := 2) hR sk_o.rf
  · refine sk_S.iload_n (i := 1) (dd DX7_body 2 rfl) rfl rfl ?_
    refine sk_S.aload_n (i := 0) (dd DX7_body 3 rfl) rfl rfl ?_
    refine sk_S.getr (dd DX7_body 4 rfl) rfl fX7_29 se_0 (by decide) rfl ?_
    refine sk_S.geti (dd DX7_body 5 rfl) rfl fX7_228 se_4 (by decide) rfl ?_
    refine sk_S.icmp_lt (tgt := 22) (dd DX7_body 6 rfl) (by decide) (fun c12 => ?_) (fun c12 => ?_)
    · have hi : inN i n := (inN_lt (M := h 4 1) (n := n) (by rw [e1]; exact nI_toInt (by omega))).mp ⟨Int32.not_lt.mp c1, c12⟩
      obtain ⟨j, hj, rfl⟩ := hi
      refine sk_S.aload_n (i := 0) (dd DX7_body 11 rfl) rfl rfl ?_
      refine sk_S.getr (dd DX7_body 12 rfl) rfl fX7_29 se_0 (by decide) rfl ?_
      refine sk_S.getr (dd DX7_body 13 rfl) rfl fX7_231 se_4 (by decide) rfl ?_
      refine sk_S.iload_n (i := 1) (dd DX7_body 14 rfl) rfl rfl ?_
      refine sk_S.iald (dd DX7_body 15 rfl) se_17 (sk_ix_nI (k := j) rfl (by omega) (by decide)) ?_
      refine sk_S.iret (dd DX7_body 16 rfl) rfl rfl ?_
      rw [cif_t ⟨j, hj, rfl⟩, clN (by omega)]
      exact ⟨sk_o.rf, hR, by rw [e2 j hj]⟩
    · refine sk_S.aload_n (i := 0) (dd DX7_body 7 rfl) rfl rfl ?_
      refine sk_S.ldc (dd DX7_body 8 rfl) rfl cnX7_184 ?_
      refine sk_S.callV (dd DX7_body 9 rfl) rfl kX7_49 (cC_refuse (k := 2) (by decide) (by decide) (by decide)) se_0 (by decide) rfl rfl rfl rfl (Nat.le_of_ble_eq_true rfl) (fun r18 h18 q18 => ?_)
      obtain ⟨rfl, rfl⟩ := q18
      show sk_S _ _ _ _ _ _ (.int _ :: _) _ _
      refine sk_S.iret (dd DX7_body 10 rfl) rfl rfl ?_
      have hi : ¬ inN i n := fun z => by
        have y := (inN_lt (M := h 4 1) (n := n) (by rw [e1]; exact nI_toInt (by omega))).mpr z
        exact c12 y.2
      rw [cif_f hi]
      exact oC.er (j := 2) hR sk_o.rf
set_option maxRecDepth 100000 in
set_option maxHeartbeats 1000000 in
theorem cP_told {l : Launch} {E : sk_V} {d : Nat} {h : sk_M} {k : Int32} {g : Nat → Int32} (hR : RQ 1 18 h g) : sk_K l E (d + 5) MX7_told [.ref 0, .int k] h (fun r h1 => ∃ v, oC h h1 g v r) := by
  refine sk_K.of (by decide +kernel) (Nat.le_of_ble_eq_true rfl) ?_
  show sk_S l E (d + 5) _ 0 [some (.ref 0), some (.int k)] [] h _
  refine sk_S.iload_n (i := 1) (dd DX7_told 0 rfl) rfl rfl ?_
  refine sk_S.iconst (v := 1) (dd DX7_told 1 rfl) (by decide) ?_
  refine sk_S.icmp_lt (tgt := 11) (dd DX7_told 2 rfl) (by decide) (fun c2 => ?_) (fun c2 => ?_)
  · refine sk_S.aload_n (i := 0) (dd DX7_told 6 rfl) rfl rfl ?_
    refine sk_S.ldc (dd DX7_told 7 rfl) rfl cnX7_48 ?_
    refine sk_S.callV (dd DX7_told 8 rfl) rfl kX7_49 (cC_refuse (k := 1) (by decide) (by decide) (by decide)) se_0 (by decide) rfl rfl rfl rfl (Nat.le_of_ble_eq_true rfl) (fun r14 h14 q14 => ?_)
    obtain ⟨rfl, rfl⟩ := q14
    show sk_S _ _ _ _ _ _ (.int _ :: _) _ _
    refine sk_S.iret (dd DX7_told 9 rfl) rfl rfl ?_
    exact ⟨_, oC.er (j := 1) hR sk_o.rf⟩
  · refine sk_S.iload_n (i := 1) (dd DX7_told 3 rfl) rfl rfl ?_
    refine sk_S.bipush (v := 6) (dd DX7_told 4 rfl) (by decide) ?_
    refine sk_S.icmp_le (tgt := 18) (dd DX7_told 5 rfl) (by decide) (fun c8 => ?_) (fun c8 => ?_)
    · obtain ⟨j, h1j, h6, rfl⟩ := rg16 ⟨Int32.not_lt.mp c2, c8⟩
      refine sk_S.aload_n (i := 0) (dd DX7_told 10 rfl) rfl rfl ?_
      refine sk_S.getr (dd DX7_told 11 rfl) rfl fX7_39 se_0 (by decide) rfl ?_
      refine sk_S.iload_n (i := 1) (dd DX7_told 12 rfl) rfl rfl ?_
      refine sk_S.iald (dd DX7_told 13 rfl) se_6 (sk_ix_nI (k := j) rfl (by omega) (by decide)) ?_
      refine sk_S.iret (dd DX7_told 14 rfl) rfl rfl ?_
      exact ⟨_, sk_o.rf, hR, rfl⟩
    · refine sk_S.aload_n (i := 0) (dd DX7_told 6 rfl) rfl rfl ?_
      refine sk_S.ldc (dd DX7_told 7 rfl) rfl cnX7_48 ?_
      refine sk_S.callV (dd DX7_told 8 rfl) rfl kX7_49 (cC_refuse (k := 1) (by decide) (by decide) (by decide)) se_0 (by decide) rfl rfl rfl rfl (Nat.le_of_ble_eq_true rfl) (fun r14 h14 q14 => ?_)
      obtain ⟨rfl, rfl⟩ := q14
      show sk_S _ _ _ _ _ _ (.int _ :: _) _ _
      refine sk_S.iret (dd DX7_told 9 rfl) rfl rfl ?_
      exact ⟨_, oC.er (j := 1) hR sk_o.rf⟩
set_option maxRecDepth 100000 in
set_option maxHeartbeats 1000000 in
theorem cP_fits {l : Launch} {E : sk_V} {d : Nat} {h : sk_M} {s w : Int32} {g : Nat → Int32} (hR : RQ 1 18 h g) (hG : RG g) (hS : shQ h) : sk_K l E (d + 8) MX7_fits [.ref 0, .int s, .int w] h (fun r h1 => ∃ v, oC h h1 g v r) := by
  refine sk_K.of (by decide +kernel) (Nat.le_of_ble_eq_true rfl) ?_
  show sk_S l E (d + 8) _ 0 [some (.ref 0), some (.int s), some (.int w), none] [] h _
  refine sk_S.iload_n (i := 1) (dd DX7_fits 0 rfl) rfl rfl ?_
  refine sk_S.callS (dd DX7_fits 1 rfl) rfl kX7_206 cC_isSheet rfl rfl rfl (Nat.le_of_ble_eq_true rfl) (fun r1 h1 q1 => ?_)
  obtain ⟨rfl, rfl⟩ := q1
  show sk_S _ _ _ _ _ _ (.int _ :: _) _ _
  refine sk_S.bif_eq (tgt := 15) (dd DX7_fits 2 rfl) (by decide) (fun c4 => ?_) (fun c4 => ?_)
  · refine sk_S.aload_n (i := 0) (dd DX7_fits 7 rfl) rfl rfl ?_
    refine sk_S.ldc (dd DX7_fits 8 rfl) rfl cnX7_48 ?_
    refine sk_S.callV (dd DX7_fits 9 rfl) rfl kX7_49 (cC_refuse (k := 1) (by decide) (by decide) (by decide)) se_0 (by decide) rfl rfl rfl rfl (Nat.le_of_ble_eq_true rfl) (fun r18 h18 q18 => ?_)
    obtain ⟨rfl, rfl⟩ := q18
    show sk_S _ _ _ _ _ _ (.int _ :: _) _ _
    refine sk_S.iret (dd DX7_fits 10 rfl) rfl rfl ?_
    exact ⟨_, oC.er (j := 1) hR sk_o.rf⟩
  · refine sk_S.iload_n (i := 2) (dd DX7_fits 3 rfl) rfl rfl ?_
    refine sk_S.iconst (v := 1) (dd DX7_fits 4 rfl) (by decide) ?_
    refine sk_S.callS (dd DX7_fits 5 rfl) rfl kX7_74 cC_isWithin rfl rfl rfl (Nat.le_of_ble_eq_true rfl) (fun r9 h9 q9 => ?_)
    obtain ⟨rfl, rfl⟩ := q9
    show sk_S _ _ _ _ _ _ (.int _ :: _) _ _
    refine sk_S.bif_ne (tgt := 22) (dd DX7_fits 6 rfl) (by decide) (fun c12 => ?_) (fun c12 => ?_)
    · obtain ⟨j, hj, rfl⟩ := ((inN_lt (M := 4) (n := 4) (by decide)).mp c4)
      have hcl : cl (nI j) = j := clN (by omega)
      obtain ⟨b1, b2, ⟨len, hl24, b3, b4⟩, b5⟩ := hS j hj
      refine sk_S.aload_n (i := 0) (dd DX7_fits 11 rfl) rfl rfl ?_
      refine sk_S.getr (dd DX7_fits 12 rfl) rfl fX7_35 se_0 (by decide) rfl ?_
      refine sk_S.iload_n (i := 1) (dd DX7_fits 13 rfl) rfl rfl ?_
      refine sk_S.aald (dd DX7_fits 14 rfl) se_5 rfl (sk_ix_nI (k := j) rfl hj (by decide)) (rf_sh hj) ?_
      refine sk_S.callV (dd DX7_fits 15 rfl) rfl kX7_209 (cC_isMissing (se_sh hj)) (se_sh hj) (by decide) rfl rfl rfl rfl (Nat.le_of_ble_eq_true rfl) (fun r28 h28 q28 => ?_)
      obtain ⟨rfl, rfl⟩ := q28
      show sk_S _ _ _ _ _ _ (.int _ :: _) _ _
      refine sk_S.bif_eq (tgt := 41) (dd DX7_fits 16 rfl) (by decide) (fun c31 => ?_) (fun c31 => ?_)
      · refine sk_S.aload_n (i := 0) (dd DX7_fits 21 rfl) rfl rfl ?_
        refine sk_S.getr (dd DX7_fits 22 rfl) rfl fX7_12 se_0 (by decide) rfl ?_
        refine sk_S.aload_n (i := 0) (dd DX7_fits 23 rfl) rfl rfl ?_
        refine sk_S.getr (dd DX7_fits 24 rfl) rfl fX7_35 se_0 (by decide) rfl ?_
        refine sk_S.iload_n (i := 1) (dd DX7_fits 25 rfl) rfl rfl ?_
        refine sk_S.aald (dd DX7_fits 26 rfl) se_5 rfl (sk_ix_nI (k := j) rfl hj (by decide)) (rf_sh hj) ?_
        refine sk_S.callS (dd DX7_fits 27 rfl) rfl kX7_213 (cT_fit (se_sh hj) (se_sn hj) (by omega) b4 hl24 hR hG) rfl rfl rfl (Nat.le_of_ble_eq_true rfl) (fun r51 h51 q51 => ?_)
        obtain ⟨of, v, rfl⟩ := q51
        show sk_S _ _ _ _ _ _ (.int _ :: _) _ _
        refine sk_S.istore_n (i := 3) (dd DX7_fits 28 rfl) rfl (Nat.le_of_ble_eq_true rfl) rfl ?_
        refine sk_S.iload_n (i := 2) (dd DX7_fits 29 rfl) rfl rfl ?_
        refine sk_S.if_ne (tgt := 61) (dd DX7_fits 30 rfl) (by decide) (fun c56 => ?_) (fun c56 => ?_)
        · refine sk_S.iload_n (i := 3) (dd DX7_fits 33 rfl) rfl rfl ?_
          refine sk_S.if_ne (tgt := 74) (dd DX7_fits 34 rfl) (by decide) (fun c62 => ?_) (fun c62 => ?_)
          · refine sk_S.iload_n (i := 3) (dd DX7_fits 39 rfl) rfl rfl ?_
            refine sk_S.callS (dd DX7_fits 40 rfl) rfl kX7_217 cJ_ntz rfl rfl rfl (Nat.le_of_ble_eq_true rfl) (fun r75 h75 q75 => ?_)
            obtain ⟨rfl, v2, rfl⟩ := q75
            show sk_S _ _ _ _ _ _ (.int _ :: _) _ _
            refine sk_S.iret (dd DX7_fits 41 rfl) rfl rfl ?_
            exact ⟨_, of.more (by decide), hR.o of (by decide), rfl⟩
          · refine sk_S.aload_n (i := 0) (dd DX7_fits 35 rfl) rfl rfl ?_
            refine sk_S.ldc (dd DX7_fits 36 rfl) rfl cnX7_184 ?_
            refine sk_S.callV (dd DX7_fits 37 rfl) rfl kX7_49 (cC_refuse (k := 2) (by decide) (by decide) (by decide)) se_0 (by decide) rfl rfl rfl rfl (Nat.le_of_ble_eq_true rfl) (fun r68 h68 q68 => ?_)
            obtain ⟨rfl, rfl⟩ := q68
            show sk_S _ _ _ _ _ _ (.int _ :: _) _ _
            refine sk_S.goto (tgt := 78) (dd DX7_fits 38 rfl) (by decide) ?_
            refine sk_S.iret (dd DX7_fits 41 rfl) rfl rfl ?_
            exact ⟨_, oC.er (j := 2) hR of⟩
        · refine sk_S.iload_n (i := 3) (dd DX7_fits 31 rfl) rfl rfl ?_
          refine sk_S.iret (dd DX7_fits 32 rfl) rfl rfl ?_
          exact ⟨_, of.more (by decide), hR.o of (by decide), rfl⟩
      · refine sk_S.aload_n (i := 0) (dd DX7_fits 17 rfl) rfl rfl ?_
        refine sk_S.ldc (dd DX7_fits 18 rfl) rfl cnX7_184 ?_
        refine sk_S.callV (dd DX7_fits 19 rfl) rfl kX7_49 (cC_refuse (k := 2) (by decide) (by decide) (by decide)) se_0 (by decide) rfl rfl rfl rfl (Nat.le_of_ble_eq_true rfl) (fun r37 h37 q37 => ?_)
        obtain ⟨rfl, rfl⟩ := q37
        show sk_S _ _ _ _ _ _ (.int _ :: _) _ _
        refine sk_S.iret (dd DX7_fits 20 rfl) rfl rfl ?_
        exact ⟨_, oC.er (j := 2) hR sk_o.rf⟩
    · refine sk_S.aload_n (i := 0) (dd DX7_fits 7 rfl) rfl rfl ?_
      refine sk_S.ldc (dd DX7_fits 8 rfl) rfl cnX7_48 ?_
      refine sk_S.callV (dd DX7_fits 9 rfl) rfl kX7_49 (cC_refuse (k := 1) (by decide) (by decide) (by decide)) se_0 (by decide) rfl rfl rfl rfl (Nat.le_of_ble_eq_true rfl) (fun r18 h18 q18 => ?_)
      obtain ⟨rfl, rfl⟩ := q18
      show sk_S _ _ _ _ _ _ (.int _ :: _) _ _
      refine sk_S.iret (dd DX7_fits 10 rfl) rfl rfl ?_
      exact ⟨_, oC.er (j := 1) hR sk_o.rf⟩
theorem mn4 {len : Nat} (h : len ≤ 24) : ∃ n, n ≤ 4 ∧ (if (4 : Int32) < nI len then (4 : Int32) else nI len) = nI n ∧ n = min len 4 := by
  by_cases q : 4 < len
  · exact ⟨4, by decide, by rw [if_pos (show (4 : Int32) < nI len from nI_lt (a := 4) q (by omega))]; rfl, by omega⟩
  · exact ⟨len, by omega, by rw [if_neg (show ¬ (4 : Int32) < nI len from nI_nlt (a := 4) (by omega) (by decide))], by omega⟩
set_option maxRecDepth 100000 in
set_option maxHeartbeats 1000000 in
theorem lq_jud {l : Launch} {E : sk_V} {d : Nat} {h : sk_M} {g : Nat → Int32} {j n : Nat} (hj : j < 4) (hn : n ≤ 4) (hR : RQ 1 18 h g) (hG : RG g) {s : Int32} : ∀ (m i : Nat) (k : sk_M), i + m = n → sk_o [34, 35] h k → sk_S l E (d + 7) MX7_judge 47 [some (.ref 0), some (.int s), some (.ref (7 + j)), some (.int (nI n)), some (.int (nI i))] [] k (fun r h1 => ∃ v, oC h h1 g v r)
  | 0, i, k, hi, ho => by
    have e : i = n := by omega
    subst e
    refine sk_S.iload (i := 4) (dd DX7_judge 26 rfl) rfl ?_
    refine sk_S.iload_n (i := 3) (dd DX7_judge 27 rfl) rfl rfl ?_
    refine sk_S.icmp_ge (tgt := 81) (dd DX7_judge 28 rfl) (by decide) (fun c50 => ?_) (fun c50 => absurd (Int32.le_refl _) c50)
    refine sk_S.iload_n (i := 3) (dd DX7_judge 42 rfl) rfl rfl ?_
    refine sk_S.iret (dd DX7_judge 43 rfl) rfl rfl ?_
    exact ⟨_, ho.more (by decide), hR.o ho (by decide), rfl⟩
  | m + 1, i, k, hi, ho => by
    have hR1 : RQ 1 18 k g := hR.o ho (by decide)
    refine sk_S.iload (i := 4) (dd DX7_judge 26 rfl) rfl ?_
    refine sk_S.iload_n (i := 3) (dd DX7_judge 27 rfl) rfl rfl ?_
    refine sk_S.icmp_ge (tgt := 81) (dd DX7_judge 28 rfl) (by decide) (fun c50 => absurd c50 (by exact nI_ge (by omega) (by omega))) (fun c50 => ?_)
    refine sk_S.aload_n (i := 2) (dd DX7_judge 29 rfl) rfl rfl ?_
    refine sk_S.getr (dd DX7_judge 30 rfl) rfl fX7_241 (se_sh hj) (by decide) rfl ?_
    refine sk_S.iload (i := 4) (dd DX7_judge 31 rfl) rfl ?_
    refine sk_S.iald (dd DX7_judge 32 rfl) (se_sn hj) (sk_ix_nI (k := i) rfl (by omega) (by decide)) ?_
    refine sk_S.aload_n (i := 0) (dd DX7_judge 33 rfl) rfl rfl ?_
    refine sk_S.getr (dd DX7_judge 34 rfl) rfl fX7_12 se_0 (by decide) rfl ?_
    refine sk_S.iload (i := 4) (dd DX7_judge 35 rfl) rfl ?_
    refine sk_S.callV (dd DX7_judge 36 rfl) rfl kX7_162 (cQ_caughtNow (by omega) hR1 hG) se_1 (by decide) rfl rfl rfl rfl (Nat.le_of_ble_eq_true rfl) (fun r66 h66 q66 => ?_)
    obtain ⟨og, rfl⟩ := q66
    show sk_S _ _ _ _ _ _ (.int _ :: _) _ _
    refine sk_S.icmp_eq (tgt := 75) (dd DX7_judge 37 rfl) (by decide) (fun c69 => ?_) (fun c69 => ?_)
    · refine sk_S.iinc (i := 4) (v := _ + 1) (dd DX7_judge 40 rfl) rfl rfl rfl ?_
      refine sk_S.goto (tgt := 47) (dd DX7_judge 41 rfl) (by decide) ?_
      exact sk_S.L (lq_jud hj hn hR hG m (i + 1) _ (by omega) (ho.tr og)) (by rw [nI_succ]; rfl)
    · refine sk_S.iload (i := 4) (dd DX7_judge 38 rfl) rfl ?_
      refine sk_S.iret (dd DX7_judge 39 rfl) rfl rfl ?_
      exact ⟨_, (ho.tr og).more (by decide), hR.o (ho.tr og) (by decide), rfl⟩
set_option maxRecDepth 100000 in
set_option maxHeartbeats 1000000 in
theorem cP_judge {l : Launch} {E : sk_V} {d : Nat} {h : sk_M} {s : Int32} {g : Nat → Int32} (hR : RQ 1 18 h g) (hG : RG g) (hS : shQ h) : sk_K l E (d + 8) MX7_judge [.ref 0, .int s] h (fun r h1 => ∃ v, oC h h1 g v r) := by
  refine sk_K.of (by decide +kernel) (Nat.le_of_ble_eq_true rfl) ?_
  show sk_S l E (d + 8) _ 0 [some (.ref 0), some (.int s), none, none, none] [] h _
  refine sk_S.iload_n (i := 1) (dd DX7_judge 0 rfl) rfl rfl ?_
  refine sk_S.callS (dd DX7_judge 1 rfl) rfl kX7_206 cC_isSheet rfl rfl rfl (Nat.le_of_ble_eq_true rfl) (fun r1 h1 q1 => ?_)
  obtain ⟨rfl, rfl⟩ := q1
  show sk_S _ _ _ _ _ _ (.int _ :: _) _ _
  refine sk_S.bif_ne (tgt := 14) (dd DX7_judge 2 rfl) (by decide) (fun c4 => ?_) (fun c4 => ?_)
  · obtain ⟨j, hj, rfl⟩ := ((inN_lt (M := 4) (n := 4) (by decide)).mp c4)
    have hcl : cl (nI j) = j := clN (by omega)
    obtain ⟨b1, b2, ⟨len, hl24, b3, b4⟩, b5⟩ := hS j hj
    obtain ⟨n, hn4, en, -⟩ := mn4 hl24
    refine sk_S.aload_n (i := 0) (dd DX7_judge 7 rfl) rfl rfl ?_
    refine sk_S.getr (dd DX7_judge 8 rfl) rfl fX7_35 se_0 (by decide) rfl ?_
    refine sk_S.iload_n (i := 1) (dd DX7_judge 9 rfl) rfl rfl ?_
    refine sk_S.aald (dd DX7_judge 10 rfl) se_5 rfl (sk_ix_nI (k := j) rfl hj (by decide)) (rf_sh hj) ?_
    refine sk_S.astore_n (i := 2) (dd DX7_judge 11 rfl) rfl (Nat.le_of_ble_eq_true rfl) rfl ?_
    refine sk_S.aload_n (i := 2) (dd DX7_judge 12 rfl) rfl rfl ?_
    refine sk_S.callV (dd DX7_judge 13 rfl) rfl kX7_209 (cC_isMissing (se_sh hj)) (se_sh hj) (by decide) rfl rfl rfl rfl (Nat.le_of_ble_eq_true rfl) (fun r22 h22 q22 => ?_)
    obtain ⟨rfl, rfl⟩ := q22
    show sk_S _ _ _ _ _ _ (.int _ :: _) _ _
    refine sk_S.bif_eq (tgt := 35) (dd DX7_judge 14 rfl) (by decide) (fun c25 => ?_) (fun c25 => ?_)
    · refine sk_S.aload_n (i := 2) (dd DX7_judge 19 rfl) rfl rfl ?_
      refine sk_S.geti (dd DX7_judge 20 rfl) rfl fX7_238 (se_sh hj) (by decide) rfl ?_
      refine sk_S.iconst (v := 4) (dd DX7_judge 21 rfl) (by decide) ?_
      refine sk_S.mmin (dd DX7_judge 22 rfl) rfl blX7_259 mm_min_s mm_i mm_min_c rfl (Nat.le_of_ble_eq_true rfl) ?_
      refine sk_S.V (nI n) (by rw [b4]; exact en) ?_
      refine sk_S.istore_n (i := 3) (dd DX7_judge 23 rfl) rfl (Nat.le_of_ble_eq_true rfl) rfl ?_
      refine sk_S.iconst (v := 0) (dd DX7_judge 24 rfl) (by decide) ?_
      refine sk_S.istore (i := 4) (dd DX7_judge 25 rfl) (Nat.le_of_ble_eq_true rfl) rfl ?_
      exact lq_jud hj hn4 hR hG n 0 h (Nat.zero_add _) sk_o.rf
    · refine sk_S.aload_n (i := 0) (dd DX7_judge 15 rfl) rfl rfl ?_
      refine sk_S.ldc (dd DX7_judge 16 rfl) rfl cnX7_184 ?_
      refine sk_S.callV (dd DX7_judge 17 rfl) rfl kX7_49 (cC_refuse (k := 2) (by decide) (by decide) (by decide)) se_0 (by decide) rfl rfl rfl rfl (Nat.le_of_ble_eq_true rfl) (fun r31 h31 q31 => ?_)
      obtain ⟨rfl, rfl⟩ := q31
      show sk_S _ _ _ _ _ _ (.int _ :: _) _ _
      refine sk_S.iret (dd DX7_judge 18 rfl) rfl rfl ?_
      exact ⟨_, oC.er (j := 2) hR sk_o.rf⟩
  · refine sk_S.aload_n (i := 0) (dd DX7_judge 3 rfl) rfl rfl ?_
    refine sk_S.ldc (dd DX7_judge 4 rfl) rfl cnX7_48 ?_
    refine sk_S.callV (dd DX7_judge 5 rfl) rfl kX7_49 (cC_refuse (k := 1) (by decide) (by decide) (by decide)) se_0 (by decide) rfl rfl rfl rfl (Nat.le_of_ble_eq_true rfl) (fun r10 h10 q10 => ?_)
    obtain ⟨rfl, rfl⟩ := q10
    show sk_S _ _ _ _ _ _ (.int _ :: _) _ _
    refine sk_S.iret (dd DX7_judge 6 rfl) rfl rfl ?_
    exact ⟨_, oC.er (j := 1) hR sk_o.rf⟩
theorem prR_at {g c : Nat → Int32} {n : Nat} (hn : n ≤ 4) : ∀ {h : sk_M}, RQ 1 18 h (prR g c n) → ∀ x, c n = x → n < 4 → RQ 1 18 (sk_u h 19 n x) (prR g c (n + 1)) := by
  intro h H x hx h4
  have e := H.u_as (j := n) (x := x) h4
  have e2 : upd (prR g c n) (13 + n) x = prR g c (n + 1) := by
    funext k
    unfold prR upd
    by_cases q : k = 13 + n
    · rw [if_pos q, if_pos (by omega), q, ← hx]
      congr 1
      omega
    · rw [if_neg q]
      show (if 13 ≤ k ∧ k < 13 + n then c (k - 13) else g k) = _
      by_cases q2 : 13 ≤ k ∧ k < 13 + n
      · rw [if_pos q2, if_pos (by omega)]
      · rw [if_neg q2, if_neg (by omega)]
  rwa [e2] at e
set_option maxRecDepth 100000 in
set_option maxHeartbeats 1000000 in
theorem lq_pri {l : Launch} {E : sk_V} {d : Nat} {h : sk_M} {g : Nat → Int32} {j n len : Nat} (hj : j < 4) (hn : n ≤ 4) (hnl : n = min len 4) (b1 : okB (h 58 j)) (b0 : ¬ h 58 j = 0) (b5 : ∀ k, k < 24 → ∃ v, h 60 (24 * j + k) = ptV (h 58 j) v ∧ h (11 + j) k = loV (h 58 j) v) {s : Int32} : ∀ (m i : Nat) (k : sk_M), i + m = n → sk_o [19] h k → RQ 1 18 k (prR g (ceV h j) i) → sk_S l E (d + 5) MX7_prices 47 [some (.ref 0), some (.int s), some (.ref (7 + j)), some (.int (nI n)), some (.int (nI i))] [] k (fun r h1 => sk_o [19] h h1 ∧ ∃ q, q = soF (prP (ceV h j) len) (4 - i) i ∧ RQ 1 18 h1 (prR g (ceV h j) q) ∧ some (.int (nI q)) = r)
  | 0, i, k, hi, ho, hK => by
    have e : i = n := by omega
    subst e
    refine sk_S.iload (i := 4) (dd DX7_prices 26 rfl) rfl ?_
    refine sk_S.iload_n (i := 3) (dd DX7_prices 27 rfl) rfl rfl ?_
    refine sk_S.icmp_ge (tgt := 94) (dd DX7_prices 28 rfl) (by decide) (fun c50 => ?_) (fun c50 => absurd (Int32.le_refl _) c50)
    refine sk_S.iload_n (i := 3) (dd DX7_prices 49 rfl) rfl rfl ?_
    refine sk_S.iret (dd DX7_prices 50 rfl) rfl rfl ?_
    have hs : soF (prP (ceV h j) len) (4 - i) i = i := by
      by_cases q : i = 4
      · subst q; rfl
      · rw [show 4 - i = (4 - (i + 1)) + 1 by omega]
        have hP : prP (ceV h j) len i = true := decide_eq_true (fun z => by omega)
        exact if_pos hP
    exact ⟨ho, i, hs.symm, hK, rfl⟩
  | m + 1, i, k, hi, ho, hK => by
    have hil : i < len := by omega
    refine sk_S.iload (i := 4) (dd DX7_prices 26 rfl) rfl ?_
    refine sk_S.iload_n (i := 3) (dd DX7_prices 27 rfl) rfl rfl ?_
    refine sk_S.icmp_ge (tgt := 94) (dd DX7_prices 28 rfl) (by decide) (fun c50 => absurd c50 (by exact nI_ge (by omega) (by omega))) (fun c50 => ?_)
    refine sk_S.aload_n (i := 2) (dd DX7_prices 29 rfl) rfl rfl ?_
    refine sk_S.getr (dd DX7_prices 30 rfl) rfl fX7_241 (se_sh hj) (by decide) rfl ?_
    refine sk_S.iload (i := 4) (dd DX7_prices 31 rfl) rfl ?_
    refine sk_S.iald (dd DX7_prices 32 rfl) (se_sn hj) (sk_ix_nI (k := i) rfl (by omega) (by decide)) ?_
    refine sk_S.bipush (v := 9) (dd DX7_prices 33 rfl) (by decide) ?_
    refine sk_S.callS (dd DX7_prices 34 rfl) rfl kX7_74 cC_isWithin rfl rfl rfl (Nat.le_of_ble_eq_true rfl) (fun r62 h62 q62 => ?_)
    obtain ⟨rfl, rfl⟩ := q62
    show sk_S _ _ _ _ _ _ (.int _ :: _) _ _
    refine sk_S.bif_ne (tgt := 71) (dd DX7_prices 35 rfl) (by decide) (fun c65 => ?_) (fun c65 => ?_)
    · refine sk_S.aload_n (i := 0) (dd DX7_prices 38 rfl) rfl rfl ?_
      refine sk_S.getr (dd DX7_prices 39 rfl) rfl fX7_12 se_0 (by decide) rfl ?_
      refine sk_S.getr (dd DX7_prices 40 rfl) rfl fX7_107 se_1 (by decide) rfl ?_
      refine sk_S.iload (i := 4) (dd DX7_prices 41 rfl) rfl ?_
      refine sk_S.aload_n (i := 2) (dd DX7_prices 42 rfl) rfl rfl ?_
      refine sk_S.getr (dd DX7_prices 43 rfl) rfl fX7_241 (se_sh hj) (by decide) rfl ?_
      refine sk_S.iload (i := 4) (dd DX7_prices 44 rfl) rfl ?_
      refine sk_S.iald (dd DX7_prices 45 rfl) (se_sn hj) (sk_ix_nI (k := i) rfl (by omega) (by decide)) ?_
      refine sk_S.iast (dd DX7_prices 46 rfl) se_19 (sk_ix_nI (k := i) rfl (by omega) (by decide)) ?_
      refine sk_S.iinc (i := 4) (v := _ + 1) (dd DX7_prices 47 rfl) rfl rfl rfl ?_
      refine sk_S.goto (tgt := 47) (dd DX7_prices 48 rfl) (by decide) ?_
      have hc : 0 ≤ h (11 + j) i ∧ h (11 + j) i ≤ 9 := by
        rw [ho (11 + j) (by simp; omega)] at c65
        exact c65
      obtain ⟨v, v1, v2⟩ := b5 i (by omega)
      have hv : 0 ≤ ceV h j i ∧ ceV h j i ≤ 9 := by
        rw [v2] at hc
        show 0 ≤ h 60 (24 * j + i) ∧ h 60 (24 * j + i) ≤ 9
        rw [v1]
        exact (lo_10 b1 b0).mp hc
      have hval : ceV h j i = k (11 + j) i := by
        rw [ho (11 + j) (by simp; omega), v2]
        show h 60 (24 * j + i) = _
        rw [v1]
        refine (lo_eq b1 b0 ?_).symm
        rw [← v1]
        exact hv
      have hP : prP (ceV h j) len i = false := decide_eq_false (fun z => z ⟨by omega, hv.1, hv.2⟩)
      have hs : soF (prP (ceV h j) len) (4 - i) i = soF (prP (ceV h j) len) (4 - (i + 1)) (i + 1) := by
        rw [show 4 - i = (4 - (i + 1)) + 1 by omega]
        exact if_neg (by rw [hP]; exact Bool.false_ne_true)
      rw [hs]
      exact sk_S.L (lq_pri hj hn hnl b1 b0 b5 m (i + 1) _ (by omega) (ho.u (by decide)) (prR_at (by omega) hK _ hval (by omega))) (by rw [nI_succ]; rfl)
    · refine sk_S.iload (i := 4) (dd DX7_prices 36 rfl) rfl ?_
      refine sk_S.iret (dd DX7_prices 37 rfl) rfl rfl ?_
      have hc : ¬ (0 ≤ h (11 + j) i ∧ h (11 + j) i ≤ 9) := by
        rw [ho (11 + j) (by simp; omega)] at c65
        exact c65
      obtain ⟨v, v1, v2⟩ := b5 i (by omega)
      have hP : prP (ceV h j) len i = true := decide_eq_true (fun z => hc (by
        rw [v2]
        refine (lo_10 b1 b0).mpr ?_
        rw [← v1]
        exact z.2))
      have hs : soF (prP (ceV h j) len) (4 - i) i = i := by
        rw [show 4 - i = (4 - (i + 1)) + 1 by omega]
        exact if_pos hP
      exact ⟨ho, i, hs.symm, hK, rfl⟩
set_option maxRecDepth 100000 in
set_option maxHeartbeats 1000000 in
theorem cP_prices {l : Launch} {E : sk_V} {d : Nat} {h : sk_M} {s : Int32} {g : Nat → Int32} (hR : RQ 1 18 h g) (hG : RG g) (hS : shQ h) : sk_K l E (d + 6) MX7_prices [.ref 0, .int s] h (fun r h1 => oC h h1 (cif (ntK h s = 0) (prR g (ceV h (cl s)) (soF (prP (ceV h (cl s)) (shN h (cl s))) 4 0), nI (soF (prP (ceV h (cl s)) (shN h (cl s))) 4 0)) (g, erI (ntK h s))).1 (cif (ntK h s = 0) (prR g (ceV h (cl s)) (soF (prP (ceV h (cl s)) (shN h (cl s))) 4 0), nI (soF (prP (ceV h (cl s)) (shN h (cl s))) 4 0)) (g, erI (ntK h s))).2 r) := by
  refine sk_K.of (by decide +kernel) (Nat.le_of_ble_eq_true rfl) ?_
  show sk_S l E (d + 6) _ 0 [some (.ref 0), some (.int s), none, none, none] [] h _
  refine sk_S.iload_n (i := 1) (dd DX7_prices 0 rfl) rfl rfl ?_
  refine sk_S.callS (dd DX7_prices 1 rfl) rfl kX7_206 cC_isSheet rfl rfl rfl (Nat.le_of_ble_eq_true rfl) (fun r1 h1 q1 => ?_)
  obtain ⟨rfl, rfl⟩ := q1
  show sk_S _ _ _ _ _ _ (.int _ :: _) _ _
  refine sk_S.bif_ne (tgt := 14) (dd DX7_prices 2 rfl) (by decide) (fun c4 => ?_) (fun c4 => ?_)
  · obtain ⟨j, hj, rfl⟩ := ((inN_lt (M := 4) (n := 4) (by decide)).mp c4)
    have hcl : cl (nI j) = j := clN (by omega)
    obtain ⟨b1, b2, ⟨len, hl24, b3, b4⟩, b5⟩ := hS j hj
    obtain ⟨n, hn4, en, enl⟩ := mn4 hl24
    refine sk_S.aload_n (i := 0) (dd DX7_prices 7 rfl) rfl rfl ?_
    refine sk_S.getr (dd DX7_prices 8 rfl) rfl fX7_35 se_0 (by decide) rfl ?_
    refine sk_S.iload_n (i := 1) (dd DX7_prices 9 rfl) rfl rfl ?_
    refine sk_S.aald (dd DX7_prices 10 rfl) se_5 rfl (sk_ix_nI (k := j) rfl hj (by decide)) (rf_sh hj) ?_
    refine sk_S.astore_n (i := 2) (dd DX7_prices 11 rfl) rfl (Nat.le_of_ble_eq_true rfl) rfl ?_
    refine sk_S.aload_n (i := 2) (dd DX7_prices 12 rfl) rfl rfl ?_
    refine sk_S.callV (dd DX7_prices 13 rfl) rfl kX7_209 (cC_isMissing (se_sh hj)) (se_sh hj) (by decide) rfl rfl rfl rfl (Nat.le_of_ble_eq_true rfl) (fun r22 h22 q22 => ?_)
    obtain ⟨rfl, rfl⟩ := q22
    show sk_S _ _ _ _ _ _ (.int _ :: _) _ _
    refine sk_S.bif_eq (tgt := 35) (dd DX7_prices 14 rfl) (by decide) (fun c25 => ?_) (fun c25 => ?_)
    · refine sk_S.aload_n (i := 2) (dd DX7_prices 19 rfl) rfl rfl ?_
      refine sk_S.geti (dd DX7_prices 20 rfl) rfl fX7_238 (se_sh hj) (by decide) rfl ?_
      refine sk_S.iconst (v := 4) (dd DX7_prices 21 rfl) (by decide) ?_
      refine sk_S.mmin (dd DX7_prices 22 rfl) rfl blX7_259 mm_min_s mm_i mm_min_c rfl (Nat.le_of_ble_eq_true rfl) ?_
      refine sk_S.V (nI n) (by rw [b4]; exact en) ?_
      refine sk_S.istore_n (i := 3) (dd DX7_prices 23 rfl) rfl (Nat.le_of_ble_eq_true rfl) rfl ?_
      refine sk_S.iconst (v := 0) (dd DX7_prices 24 rfl) (by decide) ?_
      refine sk_S.istore (i := 4) (dd DX7_prices 25 rfl) (Nat.le_of_ble_eq_true rfl) rfl ?_
      have hnt : ntK h (nI j) = if h 58 j = 0 then 2 else 0 := by
        unfold ntK
        rw [if_pos ⟨j, hj, rfl⟩, nI_clamp (by omega)]
      rw [if_neg (fun z => c25 (b2.trans z))] at hnt
      have hlen : shN h j = len := by unfold shN; rw [b3, nI_clamp (by omega)]
      rw [cif_t hnt, hcl, hlen]
      refine sk_S.mono (lq_pri hj hn4 enl b1 (fun z => c25 (b2.trans z)) b5 n 0 h (Nat.zero_add _) sk_o.rf (by rw [prR_0]; exact hR)) (fun r h1 z => ?_)
      obtain ⟨z1, q, z2, z3, z4⟩ := z
      rw [← z2]
      exact ⟨z1.more (by decide), z3, z4⟩
    · refine sk_S.aload_n (i := 0) (dd DX7_prices 15 rfl) rfl rfl ?_
      refine sk_S.ldc (dd DX7_prices 16 rfl) rfl cnX7_184 ?_
      refine sk_S.callV (dd DX7_prices 17 rfl) rfl kX7_49 (cC_refuse (k := 2) (by decide) (by decide) (by decide)) se_0 (by decide) rfl rfl rfl rfl (Nat.le_of_ble_eq_true rfl) (fun r31 h31 q31 => ?_)
      obtain ⟨rfl, rfl⟩ := q31
      show sk_S _ _ _ _ _ _ (.int _ :: _) _ _
      refine sk_S.iret (dd DX7_prices 18 rfl) rfl rfl ?_
      have hnt : ntK h (nI j) = if h 58 j = 0 then 2 else 0 := by
        unfold ntK
        rw [if_pos ⟨j, hj, rfl⟩, nI_clamp (by omega)]
      rw [if_pos (b2.symm.trans c25)] at hnt
      rw [cif_f (by rw [hnt]; decide), hnt]
      exact oC.er (j := 2) hR sk_o.rf
  · refine sk_S.aload_n (i := 0) (dd DX7_prices 3 rfl) rfl rfl ?_
    refine sk_S.ldc (dd DX7_prices 4 rfl) rfl cnX7_48 ?_
    refine sk_S.callV (dd DX7_prices 5 rfl) rfl kX7_49 (cC_refuse (k := 1) (by decide) (by decide) (by decide)) se_0 (by decide) rfl rfl rfl rfl (Nat.le_of_ble_eq_true rfl) (fun r10 h10 q10 => ?_)
    obtain ⟨rfl, rfl⟩ := q10
    show sk_S _ _ _ _ _ _ (.int _ :: _) _ _
    refine sk_S.iret (dd DX7_prices 6 rfl) rfl rfl ?_
    have hno : ntK h s = 1 := by
      unfold ntK
      rw [if_neg (fun z => (c4 ((inN_lt (M := 4) (n := 4) (by decide)).mpr z)))]
    rw [cif_f (by rw [hno]; decide), hno]
    exact oC.er (j := 1) hR sk_o.rf
end C13
