section C12
set_option maxRecDepth 100000 in
set_option maxHeartbeats 1000000 in
theorem cR_fault {l : Launch} {E : sk_V} {d : Nat} {h : sk_M} {ρ : Nat → Int32} {tp u : Nat} (ht : tp ≤ 60) (hu : u < 2) (hT : ∀ k, k < tp → h 22 k = ρ (35 + k)) : sk_K l E (d + 115) MX3_faultIn [.ref 3, .ref 22, .int (nI tp), .int (nI u)] h (fun r h1 => sk_o [3, 15, 16] h h1 ∧ (((pP (tkT ρ tp) u 36 0 0 0 []).1 = true ∧ (pP (tkT ρ tp) u 36 0 0 0 []).2.1 = tp ∧ h1 3 1 = nI (pP (tkT ρ tp) u 36 0 0 0 []).2.2.length ∧ (pP (tkT ρ tp) u 36 0 0 0 []).2.2.length ≤ 60 ∧ (∀ (i : Nat) (q : Int32 × Int32), (pP (tkT ρ tp) u 36 0 0 0 []).2.2[i]? = some q → h1 15 i = encC q.1 q.2) ∧ some (.int (-1)) = r) ∨ (¬ ((pP (tkT ρ tp) u 36 0 0 0 []).1 = true ∧ (pP (tkT ρ tp) u 36 0 0 0 []).2.1 = tp) ∧ some (.int (nI (pP (tkT ρ tp) u 36 0 0 0 []).2.1)) = r))) := by
  refine sk_K.of (by decide +kernel) (Nat.le_of_ble_eq_true rfl) ?_
  show sk_S l E (d + 115) _ 0 [some (.ref 3), some (.ref 22), some (.int (nI tp)), some (.int (nI u))] [] h _
  refine sk_S.aload_n (i := 0) (dd DX3_faultIn 0 rfl) rfl rfl ?_
  refine sk_S.iload_n (i := 2) (dd DX3_faultIn 1 rfl) rfl rfl ?_
  refine sk_S.iconst (v := 0) (dd DX3_faultIn 2 rfl) (by decide) ?_
  refine sk_S.bipush (v := 60) (dd DX3_faultIn 3 rfl) (by decide) ?_
  refine sk_S.aload_n (i := 1) (dd DX3_faultIn 4 rfl) rfl rfl ?_
  refine sk_S.alen (v := 60) (t := 0) (dd DX3_faultIn 5 rfl) se_22 (by decide) (by decide) ?_
  refine sk_S.mmin (dd DX3_faultIn 6 rfl) rfl blX3_18 mm_min_s mm_i mm_min_c rfl (Nat.le_of_ble_eq_true rfl) ?_
  refine sk_S.V 60 (by decide) ?_
  refine sk_S.callS (dd DX3_faultIn 7 rfl) rfl kX3_24 (cC_held (by decide)) rfl rfl rfl (Nat.le_of_ble_eq_true rfl) (fun r10 h10 q10 => ?_)
  obtain ⟨rfl, rfl⟩ := q10
  show sk_S _ _ _ _ _ _ (.int _ :: _) _ _
  refine sk_S.V (nI tp) (held_id ht) ?_
  refine sk_S.putf (dd DX3_faultIn 8 rfl) rfl pX3_28 se_3 (by decide) rfl rfl rfl ?_
  refine sk_S.aload_n (i := 1) (dd DX3_faultIn 9 rfl) rfl rfl ?_
  refine sk_S.iconst (v := 0) (dd DX3_faultIn 10 rfl) (by decide) ?_
  refine sk_S.aload_n (i := 0) (dd DX3_faultIn 11 rfl) rfl rfl ?_
  refine sk_S.getr (dd DX3_faultIn 12 rfl) rfl fX3_15 se_3 (by decide) rfl ?_
  refine sk_S.iconst (v := 0) (dd DX3_faultIn 13 rfl) (by decide) ?_
  refine sk_S.aload_n (i := 0) (dd DX3_faultIn 14 rfl) rfl rfl ?_
  refine sk_S.geti (dd DX3_faultIn 15 rfl) rfl fX3_28 se_3 (by decide) rfl ?_
  refine sk_S.V (nI tp) (by rw [sk_u_at, if_pos rfl, if_pos rfl]) ?_
  refine sk_S.acopy (dd DX3_faultIn 16 rfl) rfl blX3_32 ac_n ac_s ac_i rfl (Nat.le_of_ble_eq_true rfl) se_22 se_16 (by decide) (by decide) (sn := 0) (dn := 0) (nn := tp) (by decide) (by decide) (nI_pos (by omega)) rfl rfl (nI_clamp (by omega)) (by omega) (by omega) ?_
  refine sk_S.aload_n (i := 0) (dd DX3_faultIn 17 rfl) rfl rfl ?_
  refine sk_S.iload_n (i := 3) (dd DX3_faultIn 18 rfl) rfl rfl ?_
  refine sk_S.putf (dd DX3_faultIn 19 rfl) rfl pX3_38 se_3 (by decide) rfl rfl rfl ?_
  refine sk_S.aload_n (i := 0) (dd DX3_faultIn 20 rfl) rfl rfl ?_
  refine sk_S.iconst (v := 0) (dd DX3_faultIn 21 rfl) (by decide) ?_
  refine sk_S.putf (dd DX3_faultIn 22 rfl) rfl pX3_41 se_3 (by decide) rfl rfl rfl ?_
  refine sk_S.aload_n (i := 0) (dd DX3_faultIn 23 rfl) rfl rfl ?_
  refine sk_S.iconst (v := 0) (dd DX3_faultIn 24 rfl) (by decide) ?_
  refine sk_S.putf (dd DX3_faultIn 25 rfl) rfl pX3_44 se_3 (by decide) rfl rfl rfl ?_
  refine sk_S.aload_n (i := 0) (dd DX3_faultIn 26 rfl) rfl rfl ?_
  refine sk_S.iconst (v := 0) (dd DX3_faultIn 27 rfl) (by decide) ?_
  refine sk_S.iconst (v := 0) (dd DX3_faultIn 28 rfl) (by decide) ?_
  have oG : sk_o [3, 15, 16] h (sk_u (sk_u (sk_u (sk_r (sk_u h 3 3 (nI tp)) 16 (va_cpy ((sk_u h 3 3 (nI tp)) 22) ((sk_u h 3 3 (nI tp)) 16) 0 0 tp)) 3 5 (nI u)) 3 4 0) 3 1 0) := ((((sk_o.rf.u (by decide)).r (by decide)).u (by decide)).u (by decide)).u (by decide)
  have hC : rdC (sk_u (sk_u (sk_u (sk_r (sk_u h 3 3 (nI tp)) 16 (va_cpy ((sk_u h 3 3 (nI tp)) 22) ((sk_u h 3 3 (nI tp)) 16) 0 0 tp)) 3 5 (nI u)) 3 4 0) 3 1 0) ρ tp u := by
    refine ⟨by simp [sk_u_at, sk_r], by simp [sk_u_at, sk_r], fun k hk => ?_, ht, hu⟩
    have e : (sk_u (sk_u (sk_u (sk_r (sk_u h 3 3 (nI tp)) 16 (va_cpy ((sk_u h 3 3 (nI tp)) 22) ((sk_u h 3 3 (nI tp)) 16) 0 0 tp)) 3 5 (nI u)) 3 4 0) 3 1 0) 16 k = va_cpy ((sk_u h 3 3 (nI tp)) 22) ((sk_u h 3 3 (nI tp)) 16) 0 0 tp k := by simp [sk_u_at, sk_r]
    rw [e, cpy_0]
    show (if k < tp then sk_u h 3 3 (nI tp) 22 k else _) = _
    rw [if_pos hk, sk_u_at, if_neg (by decide)]
    exact hT k hk
  have hI0 : rdI (sk_u (sk_u (sk_u (sk_r (sk_u h 3 3 (nI tp)) 16 (va_cpy ((sk_u h 3 3 (nI tp)) 22) ((sk_u h 3 3 (nI tp)) 16) 0 0 tp)) 3 5 (nI u)) 3 4 0) 3 1 0) (sk_u (sk_u (sk_u (sk_r (sk_u h 3 3 (nI tp)) 16 (va_cpy ((sk_u h 3 3 (nI tp)) 22) ((sk_u h 3 3 (nI tp)) 16) 0 0 tp)) 3 5 (nI u)) 3 4 0) 3 1 0) 0 [] := ⟨⟨sk_o.rf, fun _ _ _ => rfl, by simp [sk_u_at, sk_r]; rfl⟩, by simp [sk_u_at, sk_r]; rfl, Nat.le_refl _, fun i q hq => by simp at hq⟩
  have hK := (rd_all (l := l) (E := E) hC 36).2 0 (by decide) d 0 0 [] (sk_u (sk_u (sk_u (sk_r (sk_u h 3 3 (nI tp)) 16 (va_cpy ((sk_u h 3 3 (nI tp)) 22) ((sk_u h 3 3 (nI tp)) 16) 0 0 tp)) 3 5 (nI u)) 3 4 0) 3 1 0) (by decide) (by omega) (by decide) hI0
  rw [show 3 * 36 + d + 6 = d + 114 from by omega] at hK
  refine sk_S.callV (dd DX3_faultIn 29 rfl) rfl kX3_47 hK se_3 (by decide) rfl rfl rfl rfl (Nat.le_of_ble_eq_true rfl) (fun r48 h48 q48 => ?_)
  obtain ⟨y, rfl⟩ := q48
  show sk_S _ _ _ _ _ _ (.int _ :: _) _ _
  refine sk_S.bif_eq (tgt := 69) (dd DX3_faultIn 30 rfl) (by decide) (fun c51 => ?_) (fun c51 => ?_)
  · refine sk_S.aload_n (i := 0) (dd DX3_faultIn 38 rfl) rfl rfl ?_
    refine sk_S.geti (dd DX3_faultIn 39 rfl) rfl fX3_41 se_3 (by decide) rfl ?_
    refine sk_S.iret (dd DX3_faultIn 40 rfl) rfl rfl ?_
    exact ⟨oG.tr (y.B.1.more (by decide)), Or.inr ⟨fun z => c51 z.1, by rw [y.B.2.2]⟩⟩
  · refine sk_S.aload_n (i := 0) (dd DX3_faultIn 31 rfl) rfl rfl ?_
    refine sk_S.geti (dd DX3_faultIn 32 rfl) rfl fX3_41 se_3 (by decide) rfl ?_
    refine sk_S.aload_n (i := 0) (dd DX3_faultIn 33 rfl) rfl rfl ?_
    refine sk_S.geti (dd DX3_faultIn 34 rfl) rfl fX3_28 se_3 (by decide) rfl ?_
    refine sk_S.icmp_ne (tgt := 69) (dd DX3_faultIn 35 rfl) (by decide) (fun c62 => ?_) (fun c62 => ?_)
    · refine sk_S.aload_n (i := 0) (dd DX3_faultIn 38 rfl) rfl rfl ?_
      refine sk_S.geti (dd DX3_faultIn 39 rfl) rfl fX3_41 se_3 (by decide) rfl ?_
      refine sk_S.iret (dd DX3_faultIn 40 rfl) rfl rfl ?_
      refine ⟨oG.tr (y.B.1.more (by decide)), Or.inr ⟨fun z => c62 ?_, by rw [y.B.2.2]⟩⟩
      rw [y.B.2.2, (hC.up y.B).1, z.2]
    · refine sk_S.iconst (v := -1) (dd DX3_faultIn 36 rfl) (by decide) ?_
      refine sk_S.goto (tgt := 73) (dd DX3_faultIn 37 rfl) (by decide) ?_
      refine sk_S.iret (dd DX3_faultIn 40 rfl) rfl rfl ?_
      have y1 := y.ok c51
      have hl := pP_len 36 0 0 0 [] c51
      have hp : (pP (tkT ρ tp) u 36 0 0 0 []).2.1 = tp := nI_inj (by have := y.1; omega) (by omega) (by rw [← y1.1.2.2, ← (hC.up y1.1).1]; exact c62)
      have hlen : ([] : psO).length = 0 := rfl
      have h60 : (pP (tkT ρ tp) u 36 0 0 0 []).2.2.length ≤ 60 := by
        have := hl.2
        omega
      exact ⟨oG.tr (y1.1.1.more (by decide)), Or.inl ⟨c51, hp, y1.2.1, h60, y1.2.2.2, rfl⟩⟩
theorem ccl_l {j : Nat} (hj : j < 2) : 30 + j ∈ CCl ∧ 32 + j ∈ CCl ∧ 34 + j ∈ CCl := by
  rcases (by omega : j = 0 ∨ j = 1) with rfl | rfl <;> exact ⟨by decide, by decide, by decide⟩
theorem RQ.pile {h h1 : sk_M} {g : Nat → Int32} {j : Nat} (hj : j < 2) (H : RQ 1 18 h g) (o : sk_o [34 + j] h h1) : RQ 1 18 h1 g := H.o o (fun k hk => by
  have e : k = 34 + j := by simpa using hk
  omega)
/-- a law of the class anew -/
theorem RQ.law {h h1 : sk_M} {g g1 : Nat → Int32} {j : Nat} (hj : j < 2) (H : RQ 1 18 h g) (hG : RG g) (o : sk_o [3, 15, 16, 30 + j, 32 + j, 34 + j] h h1) (e : ∀ p, p < 119 + 121 * j ∨ 240 + 121 * j ≤ p → g1 p = g p) (hC : lawC h1 (30 + j) (32 + j) g1 j) : RQ 1 18 h1 g1 := by
  have oo : ∀ k, k ≠ 3 → k ≠ 15 → k ≠ 16 → k ≠ 30 + j → k ≠ 32 + j → k ≠ 34 + j → h1 k = h k := fun k a b c d e f => o k (by simp [a, b, c, d, e, f])
  have hb : ∀ p, p < 119 → h1 (clQ 1 18 p) (ixQ p) = g1 p := by
    intro p hp
    have hc := clQ_rg (q := 1) (b := 18) hp
    rw [e p (by omega), oo _ (by omega) (by omega) (by omega) (by omega) (by omega) (by omega)]
    exact H.1 p hp
  have ho : ∀ v, v < 2 → v ≠ j → lawC h1 (30 + v) (32 + v) g1 v := by
    intro v hv hvj
    exact (lawC_cu (laN_lt (hG.i hv)) (fun p a b => e p (by omega)) (H.lw hv)).o (oo _ (by omega) (by omega) (by omega) (by omega) (by omega) (by omega)) (oo _ (by omega) (by omega) (by omega) (by omega) (by omega) (by omega))
  refine ⟨hb, ?_, ?_⟩
  · by_cases q : 0 = j
    · subst q; exact hC
    · exact ho 0 (by decide) q
  · by_cases q : 1 = j
    · subst q; exact hC
    · exact ho 1 (by decide) q
set_option maxRecDepth 100000 in
set_option maxHeartbeats 1000000 in
theorem cP_law {l : Launch} {E : sk_V} {d : Nat} {h : sk_M} {x a b c : Int32} {g : Nat → Int32} (hR : RQ 1 18 h g) (hG : RG g) : sk_K l E (d + 6) MX7_law [.ref 0, .int x, .int a, .int b, .int c] h (fun r h1 => oC h h1 (lawF g x a b c).1 (lawF g x a b c).2 r) := by
  refine sk_K.of (by decide +kernel) (Nat.le_of_ble_eq_true rfl) ?_
  show sk_S l E (d + 6) _ 0 [some (.ref 0), some (.int x), some (.int a), some (.int b), some (.int c)] [] h _
  refine sk_S.iload_n (i := 1) (dd DX7_law 0 rfl) rfl rfl ?_
  refine sk_S.callS (dd DX7_law 1 rfl) rfl kX7_121 cC_isUse rfl rfl rfl (Nat.le_of_ble_eq_true rfl) (fun r1 h1 q1 => ?_)
  obtain ⟨rfl, rfl⟩ := q1
  show sk_S _ _ _ _ _ _ (.int _ :: _) _ _
  refine sk_S.bif_ne (tgt := 14) (dd DX7_law 2 rfl) (by decide) (fun c4 => ?_) (fun c4 => ?_)
  · obtain ⟨j, hj, rfl⟩ := ((inN_lt (M := 2) (n := 2) (by decide)).mp c4)
    have hcl : cl (nI j) = j := clN (by omega)
    refine sk_S.aload_n (i := 0) (dd DX7_law 7 rfl) rfl rfl ?_
    refine sk_S.getr (dd DX7_law 8 rfl) rfl fX7_12 se_0 (by decide) rfl ?_
    refine sk_S.getr (dd DX7_law 9 rfl) rfl fX7_128 se_1 (by decide) rfl ?_
    refine sk_S.iload_n (i := 1) (dd DX7_law 10 rfl) rfl rfl ?_
    refine sk_S.aald (dd DX7_law 11 rfl) se_21 rfl (sk_ix_nI (k := j) rfl hj (by decide)) (rf_laws hj) ?_
    refine sk_S.iload_n (i := 2) (dd DX7_law 12 rfl) rfl rfl ?_
    refine sk_S.iload_n (i := 3) (dd DX7_law 13 rfl) rfl rfl ?_
    refine sk_S.iload (i := 4) (dd DX7_law 14 rfl) rfl ?_
    refine sk_S.callV (dd DX7_law 15 rfl) rfl kX7_148 (cC_gives (se_lw hj) (se_lc hj) (se_lq hj) (by omega) (by omega) (hG.i hj) (hG.s hj) (hR.lw hj)) (se_lw hj) (by decide) rfl rfl rfl rfl (Nat.le_of_ble_eq_true rfl) (fun r27 h27 q27 => ?_)
    obtain ⟨og, rfl⟩ := q27
    show sk_S _ _ _ _ _ _ (.int _ :: _) _ _
    refine sk_S.iret (dd DX7_law 16 rfl) rfl rfl ?_
    have e : lawF g (nI j) a b c = (g, gvV g j a b c) := by
      unfold lawF
      rw [cif_t ⟨j, hj, rfl⟩, hcl]
    rw [e]
    exact ⟨og.more (fun k hk => by rw [show k = 34 + j by simpa using hk]; exact (ccl_l hj).2.2), hR.pile hj og, rfl⟩
  · refine sk_S.aload_n (i := 0) (dd DX7_law 3 rfl) rfl rfl ?_
    refine sk_S.ldc (dd DX7_law 4 rfl) rfl cnX7_48 ?_
    refine sk_S.callV (dd DX7_law 5 rfl) rfl kX7_49 (cC_refuse (k := 1) (by decide) (by decide) (by decide)) se_0 (by decide) rfl rfl rfl rfl (Nat.le_of_ble_eq_true rfl) (fun r10 h10 q10 => ?_)
    obtain ⟨rfl, rfl⟩ := q10
    show sk_S _ _ _ _ _ _ (.int _ :: _) _ _
    refine sk_S.iret (dd DX7_law 6 rfl) rfl rfl ?_
    have e : lawF g x a b c = (g, erI 1) := by
      unfold lawF
      rw [cif_f (fun z => (c4 ((inN_lt (M := 2) (n := 2) (by decide)).mpr z)))]
    rw [e]
    exact oC.er (j := 1) hR sk_o.rf
set_option maxRecDepth 100000 in
set_option maxHeartbeats 1000000 in
theorem cP_untell {l : Launch} {E : sk_V} {d : Nat} {h : sk_M} {x : Int32} {g : Nat → Int32} (hR : RQ 1 18 h g) (hG : RG g) : sk_K l E (d + 5) MX7_untell [.ref 0, .int x] h (fun r h1 => oC h h1 (untellF g x).1 (untellF g x).2 r) := by
  refine sk_K.of (by decide +kernel) (Nat.le_of_ble_eq_true rfl) ?_
  show sk_S l E (d + 5) _ 0 [some (.ref 0), some (.int x), none] [] h _
  refine sk_S.iload_n (i := 1) (dd DX7_untell 0 rfl) rfl rfl ?_
  refine sk_S.callS (dd DX7_untell 1 rfl) rfl kX7_121 cC_isUse rfl rfl rfl (Nat.le_of_ble_eq_true rfl) (fun r1 h1 q1 => ?_)
  obtain ⟨rfl, rfl⟩ := q1
  show sk_S _ _ _ _ _ _ (.int _ :: _) _ _
  refine sk_S.bif_ne (tgt := 14) (dd DX7_untell 2 rfl) (by decide) (fun c4 => ?_) (fun c4 => ?_)
  · obtain ⟨j, hj, rfl⟩ := ((inN_lt (M := 2) (n := 2) (by decide)).mp c4)
    have hcl : cl (nI j) = j := clN (by omega)
    refine sk_S.aload_n (i := 0) (dd DX7_untell 7 rfl) rfl rfl ?_
    refine sk_S.getr (dd DX7_untell 8 rfl) rfl fX7_12 se_0 (by decide) rfl ?_
    refine sk_S.getr (dd DX7_untell 9 rfl) rfl fX7_128 se_1 (by decide) rfl ?_
    refine sk_S.iload_n (i := 1) (dd DX7_untell 10 rfl) rfl rfl ?_
    refine sk_S.aald (dd DX7_untell 11 rfl) se_21 rfl (sk_ix_nI (k := j) rfl hj (by decide)) (rf_laws hj) ?_
    refine sk_S.geti (dd DX7_untell 12 rfl) rfl fX7_144 (se_lw hj) (by decide) rfl ?_
    refine sk_S.if_eq (tgt := 33) (dd DX7_untell 13 rfl) (by decide) (fun c26 => ?_) (fun c26 => ?_)
    · refine sk_S.iconst (v := 0) (dd DX7_untell 16 rfl) (by decide) ?_
      refine sk_S.istore_n (i := 2) (dd DX7_untell 17 rfl) rfl (Nat.le_of_ble_eq_true rfl) rfl ?_
      refine sk_S.aload_n (i := 0) (dd DX7_untell 18 rfl) rfl rfl ?_
      refine sk_S.getr (dd DX7_untell 19 rfl) rfl fX7_12 se_0 (by decide) rfl ?_
      refine sk_S.getr (dd DX7_untell 20 rfl) rfl fX7_128 se_1 (by decide) rfl ?_
      refine sk_S.iload_n (i := 1) (dd DX7_untell 21 rfl) rfl rfl ?_
      refine sk_S.aald (dd DX7_untell 22 rfl) se_21 rfl (sk_ix_nI (k := j) rfl hj (by decide)) (rf_laws hj) ?_
      refine sk_S.iconst (v := 0) (dd DX7_untell 23 rfl) (by decide) ?_
      refine sk_S.putf (dd DX7_untell 24 rfl) rfl pX7_144 (se_lw hj) (by decide) rfl rfl rfl ?_
      refine sk_S.iload_n (i := 2) (dd DX7_untell 25 rfl) rfl rfl ?_
      refine sk_S.iret (dd DX7_untell 26 rfl) rfl rfl ?_
      have hl := hR.lw hj
      have hi := hG.i hj
      have h6 := laN_lt hi
      have hv : ((if g (119 + 121 * j) ≤ 0 then 0 else 1) : Int32) = 0 := by
        rw [hi.1]
        have hz : h (30 + j) 3 = if 0 < laN g j then 1 else 0 := hl.1
        by_cases q : 0 < laN g j
        · rw [if_pos q] at hz
          rw [if_neg (nI_nle q (by omega))]
          exact absurd c26 (by rw [hz]; decide)
        · rw [if_neg q] at hz
          have q0 : laN g j = 0 := by omega
          rw [q0, if_pos (show nI 0 ≤ 0 from Int32.le_refl _)]
      have e : untellF g (nI j) = (upd g (119 + 121 * j) 0, 0) := by
        unfold untellF
        rw [cif_t ⟨j, hj, rfl⟩, hcl, hv]
      rw [e]
      have hz0 : laN (upd g (119 + 121 * j) 0) j = 0 := by unfold laN; rw [upd_eq]; rfl
      refine ⟨sk_o.rf.u (ccl_l hj).1, hR.law hj hG (sk_o.rf.u (by simp)) (fun p hp => upd_ne (by omega)) ⟨?_, fun z => ?_, fun k hk => ?_⟩, rfl⟩
      · rw [hz0, sk_u_at, if_pos rfl, if_pos rfl]; rfl
      · rw [hz0] at z; exact absurd z (Nat.lt_irrefl _)
      · rw [hz0] at hk; exact absurd hk (Nat.not_lt_zero _)
    · refine sk_S.iconst (v := 1) (dd DX7_untell 14 rfl) (by decide) ?_
      refine sk_S.goto (tgt := 34) (dd DX7_untell 15 rfl) (by decide) ?_
      refine sk_S.istore_n (i := 2) (dd DX7_untell 17 rfl) rfl (Nat.le_of_ble_eq_true rfl) rfl ?_
      refine sk_S.aload_n (i := 0) (dd DX7_untell 18 rfl) rfl rfl ?_
      refine sk_S.getr (dd DX7_untell 19 rfl) rfl fX7_12 se_0 (by decide) rfl ?_
      refine sk_S.getr (dd DX7_untell 20 rfl) rfl fX7_128 se_1 (by decide) rfl ?_
      refine sk_S.iload_n (i := 1) (dd DX7_untell 21 rfl) rfl rfl ?_
      refine sk_S.aald (dd DX7_untell 22 rfl) se_21 rfl (sk_ix_nI (k := j) rfl hj (by decide)) (rf_laws hj) ?_
      refine sk_S.iconst (v := 0) (dd DX7_untell 23 rfl) (by decide) ?_
      refine sk_S.putf (dd DX7_untell 24 rfl) rfl pX7_144 (se_lw hj) (by decide) rfl rfl rfl ?_
      refine sk_S.iload_n (i := 2) (dd DX7_untell 25 rfl) rfl rfl ?_
      refine sk_S.iret (dd DX7_untell 26 rfl) rfl rfl ?_
      have hl := hR.lw hj
      have hi := hG.i hj
      have h6 := laN_lt hi
      have hv : ((if g (119 + 121 * j) ≤ 0 then 0 else 1) : Int32) = 1 := by
        rw [hi.1]
        have hz : h (30 + j) 3 = if 0 < laN g j then 1 else 0 := hl.1
        by_cases q : 0 < laN g j
        · rw [if_pos q] at hz
          rw [if_neg (nI_nle q (by omega))]
        · rw [if_neg q] at hz
          have q0 : laN g j = 0 := by omega
          rw [q0, if_pos (show nI 0 ≤ 0 from Int32.le_refl _)]
          exact absurd hz c26
      have e : untellF g (nI j) = (upd g (119 + 121 * j) 0, 1) := by
        unfold untellF
        rw [cif_t ⟨j, hj, rfl⟩, hcl, hv]
      rw [e]
      have hz0 : laN (upd g (119 + 121 * j) 0) j = 0 := by unfold laN; rw [upd_eq]; rfl
      refine ⟨sk_o.rf.u (ccl_l hj).1, hR.law hj hG (sk_o.rf.u (by simp)) (fun p hp => upd_ne (by omega)) ⟨?_, fun z => ?_, fun k hk => ?_⟩, rfl⟩
      · rw [hz0, sk_u_at, if_pos rfl, if_pos rfl]; rfl
      · rw [hz0] at z; exact absurd z (Nat.lt_irrefl _)
      · rw [hz0] at hk; exact absurd hk (Nat.not_lt_zero _)
  · refine sk_S.aload_n (i := 0) (dd DX7_untell 3 rfl) rfl rfl ?_
    refine sk_S.ldc (dd DX7_untell 4 rfl) rfl cnX7_48 ?_
    refine sk_S.callV (dd DX7_untell 5 rfl) rfl kX7_49 (cC_refuse (k := 1) (by decide) (by decide) (by decide)) se_0 (by decide) rfl rfl rfl rfl (Nat.le_of_ble_eq_true rfl) (fun r10 h10 q10 => ?_)
    obtain ⟨rfl, rfl⟩ := q10
    show sk_S _ _ _ _ _ _ (.int _ :: _) _ _
    refine sk_S.iret (dd DX7_untell 6 rfl) rfl rfl ?_
    have e : untellF g x = (g, erI 1) := by
      unfold untellF
      rw [cif_f (fun z => (c4 ((inN_lt (M := 2) (n := 2) (by decide)).mpr z)))]
    rw [e]
    exact oC.er (j := 1) hR sk_o.rf
theorem nI_m1 {n : Nat} (h : n < 2147483648) : ¬ nI n = -1 := fun e => by
  have h1 := nI_toInt h
  rw [e] at h1
  have h2 : (-1 : Int32).toInt = -1 := rfl
  omega
set_option maxRecDepth 100000 in
set_option maxHeartbeats 1000000 in
theorem cP_text3 {l : Launch} {E : sk_V} {d : Nat} {h h33 : sk_M} {g : Nat → Int32} {j tp : Nat} {v : Int32} (hR : RQ 1 18 h g) (hG : RG g) (hj : j < 2) (ht : tp ≤ 60) (et : g 7 = nI tp) (of : sk_o [3, 15, 16] h h33) (xx : ((txP g tp j).1 = true ∧ (txP g tp j).2.1 = tp ∧ h33 3 1 = nI (txP g tp j).2.2.length ∧ (txP g tp j).2.2.length ≤ 60 ∧ (∀ (i : Nat) (q : Int32 × Int32), (txP g tp j).2.2[i]? = some q → h33 15 i = encC q.1 q.2) ∧ some (Value.int (-1)) = some (Value.int v)) ∨ (¬ ((txP g tp j).1 = true ∧ (txP g tp j).2.1 = tp) ∧ some (Value.int (nI (txP g tp j).2.1)) = some (Value.int v))) : sk_S l E (d + 116) MX7_text 37 [some (.ref 0), some (.int (nI j)), some (.int v)] [] h33 (fun r h1 => oC h h1 (textF g (nI j)).1 (textF g (nI j)).2 r) := by
  have hcl : cl (nI j) = j := clN (by omega)
  rcases xx with ⟨x1, x2, x3, x4, x5, e⟩ | ⟨xn, e⟩
  · cases e
    refine sk_S.aload_n (i := 0) (dd DX7_text 18 rfl) rfl rfl ?_
    refine sk_S.getr (dd DX7_text 19 rfl) rfl fX7_12 se_0 (by decide) rfl ?_
    refine sk_S.iconst (v := 0) (dd DX7_text 20 rfl) (by decide) ?_
    refine sk_S.putf (dd DX7_text 21 rfl) rfl pX7_115 se_1 (by decide) rfl rfl rfl ?_
    refine sk_S.iload_n (i := 2) (dd DX7_text 22 rfl) rfl rfl ?_
    refine sk_S.iconst (v := -1) (dd DX7_text 23 rfl) (by decide) ?_
    refine sk_S.icmp_eq (tgt := 55) (dd DX7_text 24 rfl) (by decide) (fun c47 => ?_) (fun c47 => absurd rfl c47)
    refine sk_S.aload_n (i := 0) (dd DX7_text 29 rfl) rfl rfl ?_
    refine sk_S.getr (dd DX7_text 30 rfl) rfl fX7_12 se_0 (by decide) rfl ?_
    refine sk_S.getr (dd DX7_text 31 rfl) rfl fX7_128 se_1 (by decide) rfl ?_
    refine sk_S.iload_n (i := 1) (dd DX7_text 32 rfl) rfl rfl ?_
    refine sk_S.aald (dd DX7_text 33 rfl) se_21 rfl (sk_ix_nI (k := j) rfl hj (by decide)) (rf_laws hj) ?_
    refine sk_S.aload_n (i := 0) (dd DX7_text 34 rfl) rfl rfl ?_
    refine sk_S.getr (dd DX7_text 35 rfl) rfl fX7_22 se_0 (by decide) rfl ?_
    refine sk_S.getr (dd DX7_text 36 rfl) rfl fX7_132 se_3 (by decide) rfl ?_
    refine sk_S.aload_n (i := 0) (dd DX7_text 37 rfl) rfl rfl ?_
    refine sk_S.getr (dd DX7_text 38 rfl) rfl fX7_22 se_0 (by decide) rfl ?_
    refine sk_S.geti (dd DX7_text 39 rfl) rfl fX7_135 se_3 (by decide) rfl ?_
    refine sk_S.V (nI (txP g tp j).2.2.length) (by rw [sk_u_at, if_neg (by decide)]; exact x3) ?_
    refine sk_S.callV (dd DX7_text 40 rfl) rfl kX7_138 (cC_take (fr := 15) (se_lw hj) (se_lc hj) se_15 (by omega) (by omega) (held_id x4) x4) (se_lw hj) (by decide) rfl rfl rfl rfl (Nat.le_of_ble_eq_true rfl) (fun r78 h78 q78 => ?_)
    obtain ⟨rfl, rfl⟩ := q78
    show sk_S _ _ _ _ 81 _ _ _ _
    refine sk_S.iconst (v := 1) (dd DX7_text 41 rfl) (by decide) ?_
    refine sk_S.iret (dd DX7_text 42 rfl) rfl rfl ?_
    have e : textF g (nI j) = (txR g j (txP g tp j).2.2, 1) := by
      unfold textF
      rw [cif_t ⟨j, hj, rfl⟩, et, clN (show tp < 2147483648 by omega), hcl, cif_t ⟨x1, x2⟩]
    rw [e]
    obtain ⟨-, hok⟩ := txP_ok ht x1 x2
    have hR7 : RQ 1 18 (sk_u h33 1 12 0) (upd g 7 0) := (hR.o of (by decide)).u_q (p := 7) (by decide)
    have hG7 : RG (upd g 7 0) := hG.u7 ⟨0, by decide, rfl⟩
    have o1 : sk_o [3, 15, 16, 30 + j, 32 + j, 34 + j] (sk_u h33 1 12 0) (tkM (sk_u h33 1 12 0) (30 + j) (32 + j) 15 (txP g tp j).2.2.length 1) := tkM_o.more (fun k hk => by
      simp only [List.mem_cons, List.not_mem_nil, or_false] at hk ⊢
      omega)
    refine ⟨((of.more (by decide)).u (by decide)).tr (tkM_o.more (fun k hk => by
      simp only [List.mem_cons, List.not_mem_nil, or_false] at hk
      rcases hk with rfl | rfl
      · exact (ccl_l hj).1
      · exact (ccl_l hj).2.1)), hR7.law hj hG7 o1 (fun p hp => txR_ot x4 (by omega)) (txC x4 hok (tkM_2 (by omega)) tkM_3 (fun i q hq => ?_)), rfl⟩
    have hi := (List.getElem?_eq_some_iff.mp hq).1
    rw [tkM_c (by omega) hi, sk_u_at, if_neg (by decide)]
    exact x5 i q hq
  · cases e
    have hlt : (txP g tp j).2.1 < 2147483648 := txP_lt ht
    refine sk_S.aload_n (i := 0) (dd DX7_text 18 rfl) rfl rfl ?_
    refine sk_S.getr (dd DX7_text 19 rfl) rfl fX7_12 se_0 (by decide) rfl ?_
    refine sk_S.iconst (v := 0) (dd DX7_text 20 rfl) (by decide) ?_
    refine sk_S.putf (dd DX7_text 21 rfl) rfl pX7_115 se_1 (by decide) rfl rfl rfl ?_
    refine sk_S.iload_n (i := 2) (dd DX7_text 22 rfl) rfl rfl ?_
    refine sk_S.iconst (v := -1) (dd DX7_text 23 rfl) (by decide) ?_
    refine sk_S.icmp_eq (tgt := 55) (dd DX7_text 24 rfl) (by decide) (fun c47 => absurd c47 (fun z => absurd z (nI_m1 (by omega)))) (fun c47 => ?_)
    refine sk_S.bipush (v := -10) (dd DX7_text 25 rfl) (by decide) ?_
    refine sk_S.iload_n (i := 2) (dd DX7_text 26 rfl) rfl rfl ?_
    refine sk_S.isub (dd DX7_text 27 rfl) ?_
    refine sk_S.iret (dd DX7_text 28 rfl) rfl rfl ?_
    have e : textF g (nI j) = (upd g 7 0, -10 - nI (txP g tp j).2.1) := by
      unfold textF
      rw [cif_t ⟨j, hj, rfl⟩, et, clN (show tp < 2147483648 by omega), hcl, cif_f xn]
    rw [e]
    exact ⟨(of.more (by decide)).u (by decide), (hR.o of (by decide)).u_q (p := 7) (by decide), rfl⟩
set_option maxRecDepth 100000 in
set_option maxHeartbeats 1000000 in
theorem cP_text2 {l : Launch} {E : sk_V} {d : Nat} {h : sk_M} {g : Nat → Int32} {j tp : Nat} (hR : RQ 1 18 h g) (hG : RG g) (hj : j < 2) (ht : tp ≤ 60) (et : g 7 = nI tp) : sk_S l E (d + 116) MX7_text 15 [some (.ref 0), some (.int (nI j)), none] [.ref 0] h (fun r h1 => oC h h1 (textF g (nI j)).1 (textF g (nI j)).2 r) := by
  refine sk_S.getr (dd DX7_text 8 rfl) rfl fX7_22 se_0 (by decide) rfl ?_
  refine sk_S.aload_n (i := 0) (dd DX7_text 9 rfl) rfl rfl ?_
  refine sk_S.getr (dd DX7_text 10 rfl) rfl fX7_12 se_0 (by decide) rfl ?_
  refine sk_S.getr (dd DX7_text 11 rfl) rfl fX7_118 se_1 (by decide) rfl ?_
  refine sk_S.aload_n (i := 0) (dd DX7_text 12 rfl) rfl rfl ?_
  refine sk_S.getr (dd DX7_text 13 rfl) rfl fX7_12 se_0 (by decide) rfl ?_
  refine sk_S.geti (dd DX7_text 14 rfl) rfl fX7_115 se_1 (by decide) rfl ?_
  refine sk_S.V (nI tp) (hR.td.trans et) ?_
  refine sk_S.iload_n (i := 1) (dd DX7_text 15 rfl) rfl rfl ?_
  refine sk_S.callV (dd DX7_text 16 rfl) rfl kX7_124 (cR_fault ht hj (fun k hk => hR.tp (k := k) (by omega))) se_3 (by decide) rfl rfl rfl rfl (Nat.le_of_ble_eq_true rfl) (fun r33 h33 q33 => ?_)
  obtain ⟨of, xx⟩ := q33
  have e33 : ∃ v, some (Value.int v) = r33 := by
    rcases xx with ⟨-, -, -, -, -, e⟩ | ⟨-, e⟩
    · exact ⟨_, e⟩
    · exact ⟨_, e⟩
  obtain ⟨v, rfl⟩ := e33
  show sk_S _ _ _ _ _ _ (.int _ :: _) _ _
  refine sk_S.istore_n (i := 2) (dd DX7_text 17 rfl) rfl (Nat.le_of_ble_eq_true rfl) rfl ?_
  exact cP_text3 hR hG hj ht et of xx
set_option maxRecDepth 100000 in
set_option maxHeartbeats 1000000 in
theorem cP_text {l : Launch} {E : sk_V} {d : Nat} {h : sk_M} {x : Int32} {g : Nat → Int32} (hR : RQ 1 18 h g) (hG : RG g) : sk_K l E (d + 116) MX7_text [.ref 0, .int x] h (fun r h1 => oC h h1 (textF g x).1 (textF g x).2 r) := by
  refine sk_K.of (by decide +kernel) (Nat.le_of_ble_eq_true rfl) ?_
  show sk_S l E (d + 116) _ 0 [some (.ref 0), some (.int x), none] [] h _
  refine sk_S.iload_n (i := 1) (dd DX7_text 0 rfl) rfl rfl ?_
  refine sk_S.callS (dd DX7_text 1 rfl) rfl kX7_121 cC_isUse rfl rfl rfl (Nat.le_of_ble_eq_true rfl) (fun r1 h1 q1 => ?_)
  obtain ⟨rfl, rfl⟩ := q1
  show sk_S _ _ _ _ _ _ (.int _ :: _) _ _
  refine sk_S.bif_ne (tgt := 14) (dd DX7_text 2 rfl) (by decide) (fun c4 => ?_) (fun c4 => ?_)
  · obtain ⟨j, hj, rfl⟩ := ((inN_lt (M := 2) (n := 2) (by decide)).mp c4)
    have hcl : cl (nI j) = j := clN (by omega)
    obtain ⟨tp, ht, et⟩ := hG.tp
    refine sk_S.aload_n (i := 0) (dd DX7_text 7 rfl) rfl rfl ?_
    exact cP_text2 hR hG hj ht et
  · refine sk_S.aload_n (i := 0) (dd DX7_text 3 rfl) rfl rfl ?_
    refine sk_S.ldc (dd DX7_text 4 rfl) rfl cnX7_48 ?_
    refine sk_S.callV (dd DX7_text 5 rfl) rfl kX7_49 (cC_refuse (k := 1) (by decide) (by decide) (by decide)) se_0 (by decide) rfl rfl rfl rfl (Nat.le_of_ble_eq_true rfl) (fun r10 h10 q10 => ?_)
    obtain ⟨rfl, rfl⟩ := q10
    show sk_S _ _ _ _ _ _ (.int _ :: _) _ _
    refine sk_S.iret (dd DX7_text 6 rfl) rfl rfl ?_
    have e : textF g x = (g, erI 1) := by
      unfold textF
      rw [cif_f (fun z => (c4 ((inN_lt (M := 2) (n := 2) (by decide)).mpr z)))]
    rw [e]
    exact oC.er (j := 1) hR sk_o.rf
set_option maxRecDepth 100000 in
set_option maxHeartbeats 1000000 in
theorem cP_tell {l : Launch} {E : sk_V} {d : Nat} {h : sk_M} {v : Int32} {g : Nat → Int32} (hR : RQ 1 18 h g) (hG : RG g) : sk_K l E (d + 5) MX7_tell [.ref 0, .int v] h (fun r h1 => oC h h1 (tellF g v).1 (tellF g v).2 r) := by
  refine sk_K.of (by decide +kernel) (Nat.le_of_ble_eq_true rfl) ?_
  show sk_S l E (d + 5) _ 0 [some (.ref 0), some (.int v)] [] h _
  obtain ⟨n, hn, en⟩ := hG.wt
  have hcl : cl (nI n) = n := clN (by omega)
  have hws : h 1 13 = nI n := hR.ws.trans en
  refine sk_S.aload_n (i := 0) (dd DX7_tell 0 rfl) rfl rfl ?_
  refine sk_S.getr (dd DX7_tell 1 rfl) rfl fX7_12 se_0 (by decide) rfl ?_
  refine sk_S.geti (dd DX7_tell 2 rfl) rfl fX7_271 se_1 (by decide) rfl ?_
  refine sk_S.bipush (v := 24) (dd DX7_tell 3 rfl) (by decide) ?_
  refine sk_S.icmp_lt (tgt := 19) (dd DX7_tell 4 rfl) (by decide) (fun c9 => ?_) (fun c9 => ?_)
  · refine sk_S.aload_n (i := 0) (dd DX7_tell 9 rfl) rfl rfl ?_
    refine sk_S.getr (dd DX7_tell 10 rfl) rfl fX7_12 se_0 (by decide) rfl ?_
    refine sk_S.getr (dd DX7_tell 11 rfl) rfl fX7_274 se_1 (by decide) rfl ?_
    refine sk_S.aload_n (i := 0) (dd DX7_tell 12 rfl) rfl rfl ?_
    refine sk_S.getr (dd DX7_tell 13 rfl) rfl fX7_12 se_0 (by decide) rfl ?_
    refine sk_S.geti (dd DX7_tell 14 rfl) rfl fX7_271 se_1 (by decide) rfl ?_
    refine sk_S.iload_n (i := 1) (dd DX7_tell 15 rfl) rfl rfl ?_
    refine sk_S.iast (dd DX7_tell 16 rfl) se_23 (sk_ix_nI (k := n) hws (by rw [hws] at c9; have c : nI n < nI 24 := c9; rw [nI_ltI (by omega) (by decide)] at c; omega) (by decide)) ?_
    refine sk_S.aload_n (i := 0) (dd DX7_tell 17 rfl) rfl rfl ?_
    refine sk_S.getr (dd DX7_tell 18 rfl) rfl fX7_12 se_0 (by decide) rfl ?_
    refine sk_S.dup (dd DX7_tell 19 rfl) rfl ?_
    refine sk_S.geti (dd DX7_tell 20 rfl) rfl fX7_271 se_1 (by decide) rfl ?_
    refine sk_S.iconst (v := 1) (dd DX7_tell 21 rfl) (by decide) ?_
    refine sk_S.iadd (dd DX7_tell 22 rfl) ?_
    refine sk_S.putf (dd DX7_tell 23 rfl) rfl pX7_271 se_1 (by decide) rfl rfl rfl ?_
    refine sk_S.aload_n (i := 0) (dd DX7_tell 24 rfl) rfl rfl ?_
    refine sk_S.getr (dd DX7_tell 25 rfl) rfl fX7_12 se_0 (by decide) rfl ?_
    refine sk_S.geti (dd DX7_tell 26 rfl) rfl fX7_271 se_1 (by decide) rfl ?_
    refine sk_S.iret (dd DX7_tell 27 rfl) rfl rfl ?_
    have e24 : n < 24 := by
      rw [hws] at c9
      have c : nI n < nI 24 := c9
      rwa [nI_ltI (by omega) (by decide)] at c
    have e : tellF g v = (upd (upd g (95 + n) v) 8 (nI (n + 1)), nI (n + 1)) := by
      unfold tellF
      rw [en, hcl, cif_f (by omega)]
    rw [e]
    have ev : sk_u h 23 n v 1 13 + 1 = nI (n + 1) := by rw [sk_u_at, if_neg (by decide), hws, nI_1]
    rw [ev]
    refine ⟨(sk_o.rf.u (by decide)).u (by decide), (hR.u_wg e24).u_q (p := 8) (by decide), ?_⟩
    rw [sk_u_at, if_pos rfl, if_pos rfl]
  · refine sk_S.aload_n (i := 0) (dd DX7_tell 5 rfl) rfl rfl ?_
    refine sk_S.ldc (dd DX7_tell 6 rfl) rfl cnX7_57 ?_
    refine sk_S.callV (dd DX7_tell 7 rfl) rfl kX7_49 (cC_refuse (k := 4) (by decide) (by decide) (by decide)) se_0 (by decide) rfl rfl rfl rfl (Nat.le_of_ble_eq_true rfl) (fun r15 h15 q15 => ?_)
    obtain ⟨rfl, rfl⟩ := q15
    show sk_S _ _ _ _ _ _ (.int _ :: _) _ _
    refine sk_S.iret (dd DX7_tell 8 rfl) rfl rfl ?_
    have e24 : n = 24 := by
      rw [hws] at c9
      have c : ¬ nI n < nI 24 := c9
      rw [nI_ltI (by omega) (by decide)] at c
      omega
    have e : tellF g v = (g, erI 4) := by
      unfold tellF
      rw [en, hcl, cif_t e24]
    rw [e]
    exact oC.er (j := 4) hR sk_o.rf
theorem nI_lt4 {i : Nat} (h : i < 2147483648) (c : ¬ 4 ≤ nI i) : i < 4 := by
  apply Decidable.byContradiction
  intro q
  exact c (nI_le (a := 4) (by omega) h)
set_option maxRecDepth 100000 in
set_option maxHeartbeats 1000000 in
theorem lq_chk {l : Launch} {E : sk_V} {d : Nat} {h : sk_M} {g : Nat → Int32} {n : Nat} (hn : n ≤ 24) (hR : RQ 1 18 h g) : ∀ (m i : Nat), i + m = n → sk_S l E (d + 3) MX7_check 18 [some (.ref 0), some (.int (nI n)), some (.int (nI i))] [] (sk_u h 1 13 0) (fun r h1 => sk_u h 1 13 0 = h1 ∧ some (.int (chV g n (soF (chP g) m i))) = r)
  | 0, i, hi => by
    have e : i = n := by omega
    subst e
    refine sk_S.iload_n (i := 2) (dd DX7_check 10 rfl) rfl rfl ?_
    refine sk_S.iload_n (i := 1) (dd DX7_check 11 rfl) rfl rfl ?_
    refine sk_S.icmp_ge (tgt := 59) (dd DX7_check 12 rfl) (by decide) (fun c20 => ?_) (fun c20 => absurd (Int32.le_refl _) c20)
    refine sk_S.iconst (v := 0) (dd DX7_check 33 rfl) (by decide) ?_
    refine sk_S.iret (dd DX7_check 34 rfl) rfl rfl ?_
    refine ⟨rfl, ?_⟩
    show some (Value.int (if i < i then nI (1 + i) else 0)) = _
    rw [if_neg (Nat.lt_irrefl _)]
  | m + 1, i, hi => by
    refine sk_S.iload_n (i := 2) (dd DX7_check 10 rfl) rfl rfl ?_
    refine sk_S.iload_n (i := 1) (dd DX7_check 11 rfl) rfl rfl ?_
    refine sk_S.icmp_ge (tgt := 59) (dd DX7_check 12 rfl) (by decide) (fun c20 => absurd c20 (by exact nI_ge (by omega) (by omega))) (fun c20 => ?_)
    refine sk_S.iload_n (i := 2) (dd DX7_check 13 rfl) rfl rfl ?_
    refine sk_S.iconst (v := 4) (dd DX7_check 14 rfl) (by decide) ?_
    refine sk_S.icmp_ge (tgt := 49) (dd DX7_check 15 rfl) (by decide) (fun c25 => ?_) (fun c25 => ?_)
    · refine sk_S.iconst (v := 1) (dd DX7_check 27 rfl) (by decide) ?_
      refine sk_S.iload_n (i := 2) (dd DX7_check 28 rfl) rfl rfl ?_
      refine sk_S.iadd (dd DX7_check 29 rfl) ?_
      refine sk_S.iret (dd DX7_check 30 rfl) rfl rfl ?_
      have hP : chP g i = true := decide_eq_true (fun z => absurd (nI_ge (a := i) (b := 4) z.1 (by decide)) (fun y => y c25))
      refine ⟨rfl, ?_⟩
      rw [show soF (chP g) (m + 1) i = i from if_pos hP]
      show some (Value.int (if i < n then nI (1 + i) else 0)) = _
      rw [if_pos (by omega), ← nI_add]
      rfl
    · refine sk_S.aload_n (i := 0) (dd DX7_check 16 rfl) rfl rfl ?_
      refine sk_S.getr (dd DX7_check 17 rfl) rfl fX7_12 se_0 (by decide) rfl ?_
      refine sk_S.getr (dd DX7_check 18 rfl) rfl fX7_274 se_1 (by decide) rfl ?_
      refine sk_S.iload_n (i := 2) (dd DX7_check 19 rfl) rfl rfl ?_
      refine sk_S.iald (dd DX7_check 20 rfl) se_23 (sk_ix_nI (k := i) rfl (by omega) (by decide)) ?_
      refine sk_S.aload_n (i := 0) (dd DX7_check 21 rfl) rfl rfl ?_
      refine sk_S.getr (dd DX7_check 22 rfl) rfl fX7_12 se_0 (by decide) rfl ?_
      refine sk_S.getr (dd DX7_check 23 rfl) rfl fX7_90 se_1 (by decide) rfl ?_
      refine sk_S.iload_n (i := 2) (dd DX7_check 24 rfl) rfl rfl ?_
      refine sk_S.iald (dd DX7_check 25 rfl) se_18 (sk_ix_nI (k := i) rfl (nI_lt4 (show i < 2147483648 by omega) c25) (by decide)) ?_
      refine sk_S.icmp_eq (tgt := 53) (dd DX7_check 26 rfl) (by decide) (fun c46 => ?_) (fun c46 => ?_)
      · refine sk_S.iinc (i := 2) (v := _ + 1) (dd DX7_check 31 rfl) rfl rfl rfl ?_
        refine sk_S.goto (tgt := 18) (dd DX7_check 32 rfl) (by decide) ?_
        have hP : chP g i = false := decide_eq_false (fun z => z ⟨nI_lt4 (show i < 2147483648 by omega) c25, by rw [← hR.wg (k := i) (by omega), ← hR.so (nI_lt4 (show i < 2147483648 by omega) c25)]; exact c46⟩)
        rw [show soF (chP g) (m + 1) i = soF (chP g) m (i + 1) from if_neg (by rw [hP]; exact Bool.false_ne_true)]
        exact sk_S.L (lq_chk hn hR m (i + 1) (by omega)) (by rw [nI_succ]; rfl)
      · refine sk_S.iconst (v := 1) (dd DX7_check 27 rfl) (by decide) ?_
        refine sk_S.iload_n (i := 2) (dd DX7_check 28 rfl) rfl rfl ?_
        refine sk_S.iadd (dd DX7_check 29 rfl) ?_
        refine sk_S.iret (dd DX7_check 30 rfl) rfl rfl ?_
        have hP : chP g i = true := decide_eq_true (fun z => c46 (by have a := hR.wg (k := i) (by omega); have b := hR.so (nI_lt4 (show i < 2147483648 by omega) c25); exact a.trans (z.2.trans b.symm)))
        refine ⟨rfl, ?_⟩
        rw [show soF (chP g) (m + 1) i = i from if_pos hP]
        show some (Value.int (if i < n then nI (1 + i) else 0)) = _
        rw [if_pos (by omega), ← nI_add]
        rfl
set_option maxRecDepth 100000 in
set_option maxHeartbeats 1000000 in
theorem cP_check {l : Launch} {E : sk_V} {d : Nat} {h : sk_M}  {g : Nat → Int32} (hR : RQ 1 18 h g) (hG : RG g) : sk_K l E (d + 5) MX7_check [.ref 0] h (fun r h1 => oC h h1 (checkF g).1 (checkF g).2 r) := by
  refine sk_K.of (by decide +kernel) (Nat.le_of_ble_eq_true rfl) ?_
  show sk_S l E (d + 5) _ 0 [some (.ref 0), none, none] [] h _
  obtain ⟨n, hn, en⟩ := hG.wt
  have hcl : cl (nI n) = n := clN (by omega)
  have hws : h 1 13 = nI n := hR.ws.trans en
  refine sk_S.aload_n (i := 0) (dd DX7_check 0 rfl) rfl rfl ?_
  refine sk_S.getr (dd DX7_check 1 rfl) rfl fX7_12 se_0 (by decide) rfl ?_
  refine sk_S.geti (dd DX7_check 2 rfl) rfl fX7_271 se_1 (by decide) rfl ?_
  refine sk_S.V (nI n) hws ?_
  refine sk_S.istore_n (i := 1) (dd DX7_check 3 rfl) rfl (Nat.le_of_ble_eq_true rfl) rfl ?_
  refine sk_S.aload_n (i := 0) (dd DX7_check 4 rfl) rfl rfl ?_
  refine sk_S.getr (dd DX7_check 5 rfl) rfl fX7_12 se_0 (by decide) rfl ?_
  refine sk_S.iconst (v := 0) (dd DX7_check 6 rfl) (by decide) ?_
  refine sk_S.putf (dd DX7_check 7 rfl) rfl pX7_271 se_1 (by decide) rfl rfl rfl ?_
  refine sk_S.iconst (v := 0) (dd DX7_check 8 rfl) (by decide) ?_
  refine sk_S.istore_n (i := 2) (dd DX7_check 9 rfl) rfl (Nat.le_of_ble_eq_true rfl) rfl ?_
  refine sk_S.mono (lq_chk hn hR n 0 (Nat.zero_add _)) (fun r h1 z => ?_)
  obtain ⟨rfl, rfl⟩ := z
  have e : checkF g = (upd g 8 0, chV g n (soF (chP g) n 0)) := by
    unfold checkF
    rw [en, hcl]
  rw [e]
  exact ⟨sk_o.rf.u (by decide), hR.u_q (p := 8) (by decide), rfl⟩
end C12
