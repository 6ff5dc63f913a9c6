section C5
set_option maxRecDepth 100000 in
set_option maxHeartbeats 1000000 in
theorem cJ_bitCount {l : Launch} {E : sk_V} {d : Nat} {h : sk_M} {s : Nat} (hs : s < 64) : sk_K l E (d + 0) MJ6_bitCount_0f7a4 [.int (nI s)] h (fun r h1 => h = h1 ∧ some (.int (nI (pcN s))) = r) := by
  refine sk_K.of (by decide +kernel) (Nat.le_of_ble_eq_true rfl) ?_
  show sk_S l E (d + 0) _ 0 [some (.int (nI s))] [] h _
  refine sk_S.iload_n (i := 0) (dd DJ6_bitCount_0f7a4 0 rfl) rfl rfl ?_
  refine sk_S.iload_n (i := 0) (dd DJ6_bitCount_0f7a4 1 rfl) rfl rfl ?_
  refine sk_S.iconst (v := 1) (dd DJ6_bitCount_0f7a4 2 rfl) (by decide) ?_
  refine sk_S.iushr (dd DJ6_bitCount_0f7a4 3 rfl) ?_
  refine sk_S.ldc_w (dd DJ6_bitCount_0f7a4 4 rfl) rfl cnJ6_265 ?_
  refine sk_S.iand (dd DJ6_bitCount_0f7a4 5 rfl) ?_
  refine sk_S.isub (dd DJ6_bitCount_0f7a4 6 rfl) ?_
  refine sk_S.istore_n (i := 0) (dd DJ6_bitCount_0f7a4 7 rfl) rfl (Nat.le_of_ble_eq_true rfl) rfl ?_
  refine sk_S.iload_n (i := 0) (dd DJ6_bitCount_0f7a4 8 rfl) rfl rfl ?_
  refine sk_S.ldc_w (dd DJ6_bitCount_0f7a4 9 rfl) rfl cnJ6_266 ?_
  refine sk_S.iand (dd DJ6_bitCount_0f7a4 10 rfl) ?_
  refine sk_S.iload_n (i := 0) (dd DJ6_bitCount_0f7a4 11 rfl) rfl rfl ?_
  refine sk_S.iconst (v := 2) (dd DJ6_bitCount_0f7a4 12 rfl) (by decide) ?_
  refine sk_S.iushr (dd DJ6_bitCount_0f7a4 13 rfl) ?_
  refine sk_S.ldc_w (dd DJ6_bitCount_0f7a4 14 rfl) rfl cnJ6_266 ?_
  refine sk_S.iand (dd DJ6_bitCount_0f7a4 15 rfl) ?_
  refine sk_S.iadd (dd DJ6_bitCount_0f7a4 16 rfl) ?_
  refine sk_S.istore_n (i := 0) (dd DJ6_bitCount_0f7a4 17 rfl) rfl (Nat.le_of_ble_eq_true rfl) rfl ?_
  refine sk_S.iload_n (i := 0) (dd DJ6_bitCount_0f7a4 18 rfl) rfl rfl ?_
  refine sk_S.iload_n (i := 0) (dd DJ6_bitCount_0f7a4 19 rfl) rfl rfl ?_
  refine sk_S.iconst (v := 4) (dd DJ6_bitCount_0f7a4 20 rfl) (by decide) ?_
  refine sk_S.iushr (dd DJ6_bitCount_0f7a4 21 rfl) ?_
  refine sk_S.iadd (dd DJ6_bitCount_0f7a4 22 rfl) ?_
  refine sk_S.ldc_w (dd DJ6_bitCount_0f7a4 23 rfl) rfl cnJ6_267 ?_
  refine sk_S.iand (dd DJ6_bitCount_0f7a4 24 rfl) ?_
  refine sk_S.istore_n (i := 0) (dd DJ6_bitCount_0f7a4 25 rfl) rfl (Nat.le_of_ble_eq_true rfl) rfl ?_
  refine sk_S.iload_n (i := 0) (dd DJ6_bitCount_0f7a4 26 rfl) rfl rfl ?_
  refine sk_S.iload_n (i := 0) (dd DJ6_bitCount_0f7a4 27 rfl) rfl rfl ?_
  refine sk_S.bipush (v := 8) (dd DJ6_bitCount_0f7a4 28 rfl) (by decide) ?_
  refine sk_S.iushr (dd DJ6_bitCount_0f7a4 29 rfl) ?_
  refine sk_S.iadd (dd DJ6_bitCount_0f7a4 30 rfl) ?_
  refine sk_S.istore_n (i := 0) (dd DJ6_bitCount_0f7a4 31 rfl) rfl (Nat.le_of_ble_eq_true rfl) rfl ?_
  refine sk_S.iload_n (i := 0) (dd DJ6_bitCount_0f7a4 32 rfl) rfl rfl ?_
  refine sk_S.iload_n (i := 0) (dd DJ6_bitCount_0f7a4 33 rfl) rfl rfl ?_
  refine sk_S.bipush (v := 16) (dd DJ6_bitCount_0f7a4 34 rfl) (by decide) ?_
  refine sk_S.iushr (dd DJ6_bitCount_0f7a4 35 rfl) ?_
  refine sk_S.iadd (dd DJ6_bitCount_0f7a4 36 rfl) ?_
  refine sk_S.istore_n (i := 0) (dd DJ6_bitCount_0f7a4 37 rfl) rfl (Nat.le_of_ble_eq_true rfl) rfl ?_
  refine sk_S.iload_n (i := 0) (dd DJ6_bitCount_0f7a4 38 rfl) rfl rfl ?_
  refine sk_S.bipush (v := 63) (dd DJ6_bitCount_0f7a4 39 rfl) (by decide) ?_
  refine sk_S.iand (dd DJ6_bitCount_0f7a4 40 rfl) ?_
  refine sk_S.iret (dd DJ6_bitCount_0f7a4 41 rfl) rfl rfl ?_
  refine ⟨rfl, congrArg (fun z => some (Value.int z)) ?_⟩
  revert s
  decide +kernel
set_option maxRecDepth 100000 in
set_option maxHeartbeats 1000000 in
theorem lq_ie1 {l : Launch} {E : sk_V} {d : Nat} {h : sk_M} {Q : Option Value → sk_M → Prop} {g : Nat → Int32} {s f : Nat} (hf : f < 4) (hs : s < 64) (hR : RQ 1 18 h g) (hG : RG g) (kk : ∀ f2 : sk_M, sk_o [34, 35] h f2 → sk_S l E (d + 5) MX5_isEnough 61 [some (.ref 1), some (.int (nI s)), some (.int (nI f)), some (.int (sumN (fun b => if bitP s b then lndX g b f else 0) (boN g))), some (.int (nI (boN g)))] [] f2 Q) : ∀ (m b : Nat) (k : sk_M), b + m = boN g → sk_o [34, 35] h k → sk_S l E (d + 5) MX5_isEnough 12 [some (.ref 1), some (.int (nI s)), some (.int (nI f)), some (.int (sumN (fun b => if bitP s b then lndX g b f else 0) b)), some (.int (nI b))] [] k Q
  | 0, b, k, hb, ho => by
    have hR1 : RQ 1 18 k g := hR.o ho (by decide)
    have eb : k 1 6 = nI (boN g) := hR1.bo.trans hG.b.1
    have hb6 := hG.b.2
    have e : b = boN g := by omega
    subst e
    refine sk_S.iload (i := 4) (dd DX5_isEnough 9 rfl) rfl ?_
    refine sk_S.aload_n (i := 0) (dd DX5_isEnough 10 rfl) rfl rfl ?_
    refine sk_S.geti (dd DX5_isEnough 11 rfl) rfl fX5_48 se_1 (by decide) rfl ?_
    refine sk_S.icmp_ge (tgt := 61) (dd DX5_isEnough 12 rfl) (by decide) (fun c18 => ?_) (fun c18 => absurd (by rw [eb]; exact Int32.le_refl _) c18)
    exact kk _ ho
  | m + 1, b, k, hb, ho => by
    have hR1 : RQ 1 18 k g := hR.o ho (by decide)
    have eb : k 1 6 = nI (boN g) := hR1.bo.trans hG.b.1
    have hb6 := hG.b.2
    have hb6 : b < 6 := by omega
    
    refine sk_S.iload (i := 4) (dd DX5_isEnough 9 rfl) rfl ?_
    refine sk_S.aload_n (i := 0) (dd DX5_isEnough 10 rfl) rfl rfl ?_
    refine sk_S.geti (dd DX5_isEnough 11 rfl) rfl fX5_48 se_1 (by decide) rfl ?_
    refine sk_S.icmp_ge (tgt := 61) (dd DX5_isEnough 12 rfl) (by decide) (fun c18 => absurd c18 (by rw [eb]; exact nI_ge (by omega) (by omega))) (fun c18 => ?_)
    refine sk_S.iload_n (i := 1) (dd DX5_isEnough 13 rfl) rfl rfl ?_
    refine sk_S.iload (i := 4) (dd DX5_isEnough 14 rfl) rfl ?_
    refine sk_S.ishr (dd DX5_isEnough 15 rfl) ?_
    refine sk_S.iconst (v := 1) (dd DX5_isEnough 16 rfl) (by decide) ?_
    refine sk_S.iand (dd DX5_isEnough 17 rfl) ?_
    refine sk_S.iconst (v := 1) (dd DX5_isEnough 18 rfl) (by decide) ?_
    refine sk_S.icmp_ne (tgt := 55) (dd DX5_isEnough 19 rfl) (by decide) (fun c28 => ?_) (fun c28 => ?_)
    · refine sk_S.iinc (i := 4) (v := _ + 1) (dd DX5_isEnough 35 rfl) rfl rfl rfl ?_
      refine sk_S.goto (tgt := 12) (dd DX5_isEnough 36 rfl) (by decide) ?_
      exact sk_S.L (lq_ie1 hf hs hR hG kk m (b + 1) _ (by omega) ho) (by rw [show (sumN (fun b => if bitP s b then lndX g b f else 0) (b + 1)) = (sumN (fun b => if bitP s b then lndX g b f else 0) b) + 0 from congrArg _ (if_neg c28), Int32.add_zero, nI_succ]; rfl)
    · refine sk_S.iload_n (i := 3) (dd DX5_isEnough 20 rfl) rfl rfl ?_
      refine sk_S.aload_n (i := 0) (dd DX5_isEnough 21 rfl) rfl rfl ?_
      refine sk_S.iload (i := 4) (dd DX5_isEnough 22 rfl) rfl ?_
      refine sk_S.iload_n (i := 2) (dd DX5_isEnough 23 rfl) rfl rfl ?_
      refine sk_S.aload_n (i := 0) (dd DX5_isEnough 24 rfl) rfl rfl ?_
      refine sk_S.getr (dd DX5_isEnough 25 rfl) rfl fX5_61 se_1 (by decide) rfl ?_
      refine sk_S.iload_n (i := 2) (dd DX5_isEnough 26 rfl) rfl rfl ?_
      refine sk_S.iald (dd DX5_isEnough 27 rfl) se_18 (sk_ix_nI (k := f) rfl hf (by decide)) ?_
      refine sk_S.aload_n (i := 0) (dd DX5_isEnough 28 rfl) rfl rfl ?_
      refine sk_S.geti (dd DX5_isEnough 29 rfl) rfl fX5_42 se_1 (by decide) rfl ?_
      refine sk_S.aload_n (i := 0) (dd DX5_isEnough 30 rfl) rfl rfl ?_
      refine sk_S.geti (dd DX5_isEnough 31 rfl) rfl fX5_15 se_1 (by decide) rfl ?_
      refine sk_S.callV (dd DX5_isEnough 32 rfl) rfl kX5_64 (cQ_landed hb6 hR1 hG) se_1 (by decide) rfl rfl rfl rfl (Nat.le_of_ble_eq_true rfl) (fun r50 h50 q50 => ?_)
      obtain ⟨og, rfl⟩ := q50
      rw [hR1.da, hR1.wa, hR1.so hf]
      show sk_S _ _ _ _ _ _ (.int _ :: _) _ _
      refine sk_S.iadd (dd DX5_isEnough 33 rfl) ?_
      refine sk_S.istore_n (i := 3) (dd DX5_isEnough 34 rfl) rfl (Nat.le_of_ble_eq_true rfl) rfl ?_
      refine sk_S.iinc (i := 4) (v := _ + 1) (dd DX5_isEnough 35 rfl) rfl rfl rfl ?_
      refine sk_S.goto (tgt := 12) (dd DX5_isEnough 36 rfl) (by decide) ?_
      exact sk_S.L (lq_ie1 hf hs hR hG kk m (b + 1) _ (by omega) (ho.tr og)) (by rw [show (sumN (fun b => if bitP s b then lndX g b f else 0) (b + 1)) = (sumN (fun b => if bitP s b then lndX g b f else 0) b) + lndX g b f from congrArg _ (if_pos c28), nI_succ]; rfl)
set_option maxRecDepth 100000 in
set_option maxHeartbeats 1000000 in
theorem lq_ie3 {l : Launch} {E : sk_V} {d : Nat} {h : sk_M} {g : Nat → Int32} {k : sk_M} {s f : Nat} {x4 : Option Value} (hs : s < 64) (hf : f < 4) (hR : RQ 1 18 h g) (hG : RG g) (hE : setE g (lndX g) s f) (ho : sk_o [34, 35] h k) (kk : ∀ x3 : Option Value, setE g (lndX g) s (f + 1) → sk_S l E (d + 5) MX5_isEnough 2 [some (.ref 1), some (.int (nI s)), some (.int (nI (f + 1))), some (.int (setS (lndX g) s f (boN g))), x4] [] k (fun r h1 => sk_o [34, 35] h h1 ∧ some (.int (@bi (setE g (lndX g) s 4) (Classical.propDecidable _))) = r)) : sk_S l E (d + 5) MX5_isEnough 61 [some (.ref 1), some (.int (nI s)), some (.int (nI f)), some (.int (setS (lndX g) s f (boN g))), x4] [] k (fun r h1 => sk_o [34, 35] h h1 ∧ some (.int (@bi (setE g (lndX g) s 4) (Classical.propDecidable _))) = r) := by
  have hR1 : RQ 1 18 k g := hR.o ho (by decide)
  refine sk_S.iload_n (i := 3) (dd DX5_isEnough 37 rfl) rfl rfl ?_
  refine sk_S.aload_n (i := 0) (dd DX5_isEnough 38 rfl) rfl rfl ?_
  refine sk_S.getr (dd DX5_isEnough 39 rfl) rfl fX5_61 se_1 (by decide) rfl ?_
  refine sk_S.iload_n (i := 2) (dd DX5_isEnough 40 rfl) rfl rfl ?_
  refine sk_S.iald (dd DX5_isEnough 41 rfl) se_18 (sk_ix_nI (k := f) rfl hf (by decide)) ?_
  refine sk_S.icmp_ge (tgt := 73) (dd DX5_isEnough 42 rfl) (by decide) (fun c68 => ?_) (fun c68 => ?_)
  · refine sk_S.iinc (i := 2) (v := _ + 1) (dd DX5_isEnough 45 rfl) rfl rfl rfl ?_
    refine sk_S.goto (tgt := 2) (dd DX5_isEnough 46 rfl) (by decide) ?_
    refine sk_S.L (kk (some (.int (setS (lndX g) s f (boN g)))) ⟨hE, by rw [← hR1.so hf]; exact c68⟩) (by rw [nI_succ]; rfl)
  · refine sk_S.iconst (v := 0) (dd DX5_isEnough 43 rfl) (by decide) ?_
    refine sk_S.iret (dd DX5_isEnough 44 rfl) rfl rfl ?_
    refine ⟨ho, ?_⟩
    rw [@bi_f _ (Classical.propDecidable _) (fun hE4 => c68 (by rw [hR1.so hf]; exact (setE_dn hf (by omega) hE4).2))]
set_option maxRecDepth 100000 in
set_option maxHeartbeats 1000000 in
theorem lq_ie2 {l : Launch} {E : sk_V} {d : Nat} {h : sk_M} {g : Nat → Int32} {s : Nat} (hs : s < 64) (hR : RQ 1 18 h g) (hG : RG g) : ∀ (m f : Nat) (k : sk_M) (x3 x4 : Option Value), f + m = 4 → setE g (lndX g) s f → sk_o [34, 35] h k → sk_S l E (d + 5) MX5_isEnough 2 [some (.ref 1), some (.int (nI s)), some (.int (nI f)), x3, x4] [] k (fun r h1 => sk_o [34, 35] h h1 ∧ some (.int (@bi (setE g (lndX g) s 4) (Classical.propDecidable _))) = r)
  | 0, f, k, x3, x4, hf, hE, ho => by
    have e : f = 4 := by omega
    subst e
    refine sk_S.iload_n (i := 2) (dd DX5_isEnough 2 rfl) rfl rfl ?_
    refine sk_S.iconst (v := 4) (dd DX5_isEnough 3 rfl) (by decide) ?_
    refine sk_S.icmp_ge (tgt := 79) (dd DX5_isEnough 4 rfl) (by decide) (fun c4 => ?_) (fun c4 => absurd (by decide) c4)
    refine sk_S.iconst (v := 1) (dd DX5_isEnough 47 rfl) (by decide) ?_
    refine sk_S.iret (dd DX5_isEnough 48 rfl) rfl rfl ?_
    refine ⟨ho, ?_⟩
    rw [@bi_t _ (Classical.propDecidable _) hE]
  | m + 1, f, k, x3, x4, hf, hE, ho => by
    have hR1 : RQ 1 18 k g := hR.o ho (by decide)
    have hf4 : f < 4 := by omega
    
    refine sk_S.iload_n (i := 2) (dd DX5_isEnough 2 rfl) rfl rfl ?_
    refine sk_S.iconst (v := 4) (dd DX5_isEnough 3 rfl) (by decide) ?_
    refine sk_S.icmp_ge (tgt := 79) (dd DX5_isEnough 4 rfl) (by decide) (fun c4 => absurd c4 (by exact nI_ge (b := 4) (by omega) (by decide))) (fun c4 => ?_)
    refine sk_S.iconst (v := 0) (dd DX5_isEnough 5 rfl) (by decide) ?_
    refine sk_S.istore_n (i := 3) (dd DX5_isEnough 6 rfl) rfl (Nat.le_of_ble_eq_true rfl) rfl ?_
    refine sk_S.iconst (v := 0) (dd DX5_isEnough 7 rfl) (by decide) ?_
    refine sk_S.istore (i := 4) (dd DX5_isEnough 8 rfl) (Nat.le_of_ble_eq_true rfl) rfl ?_
    refine lq_ie1 hf4 hs hR1 hG (fun f2 of => ?_) (boN g) 0 k (Nat.zero_add _) sk_o.rf
    exact lq_ie3 hs hf4 hR hG hE (ho.tr of) (fun x3 hE2 => lq_ie2 hs hR hG m (f + 1) _ _ _ (by omega) hE2 (ho.tr of))
set_option maxRecDepth 100000 in
set_option maxHeartbeats 1000000 in
theorem cT_isEnough {l : Launch} {E : sk_V} {d : Nat} {h : sk_M} {g : Nat → Int32} {s : Nat} (hs : s < 64) (hR : RQ 1 18 h g) (hG : RG g) : sk_K l E (d + 5) MX5_isEnough [.ref 1, .int (nI s)] h (fun r h1 => sk_o [34, 35] h h1 ∧ some (.int (@bi (setE g (lndX g) s 4) (Classical.propDecidable _))) = r) := by
  refine sk_K.of (by decide +kernel) (Nat.le_of_ble_eq_true rfl) ?_
  show sk_S l E (d + 5) _ 0 [some (.ref 1), some (.int (nI s)), none, none, none] [] h _
  refine sk_S.iconst (v := 0) (dd DX5_isEnough 0 rfl) (by decide) ?_
  refine sk_S.istore_n (i := 2) (dd DX5_isEnough 1 rfl) rfl (Nat.le_of_ble_eq_true rfl) rfl ?_
  exact lq_ie2 hs hR hG 4 0 h none none rfl True.intro sk_o.rf
set_option maxRecDepth 100000 in
set_option maxHeartbeats 1000000 in
theorem fb_A {l : Launch} {E : sk_V} {d : Nat} {k : sk_M} {Q : Option Value → sk_M → Prop} {g : Nat → Int32} {s : Nat} {x3 : Option Value} (hR : RQ 1 18 k g) (hG : RG g) (hs : s < 2 ^ boN g) (k1 : ∀ f2 x, setE g (lndX g) s 4 → sk_o [34, 35] k f2 → sk_S l E (d + 6) MX5_fewestBoats 4 [some (.ref 1), some (.int (nI s)), some (.int (nI s + 1)), x] [] f2 Q) (k0 : ∀ f2 x, ¬ setE g (lndX g) s 4 → sk_o [34, 35] k f2 → sk_S l E (d + 6) MX5_fewestBoats 4 [some (.ref 1), some (.int (-1)), some (.int (nI s + 1)), x] [] f2 Q) : sk_S l E (d + 6) MX5_fewestBoats 4 [some (.ref 1), some (.int (-1)), some (.int (nI s)), x3] [] k Q := by
  have hb6 := hG.b.2
  have hp := pow_nb hb6
  have eP : (1 : Int32) <<< (k 1 6 &&& 31) = nI (2 ^ boN g) := by rw [hR.bo.trans hG.b.1]; exact shl_nb _ hb6
  refine sk_S.iload_n (i := 2) (dd DX5_fewestBoats 4 rfl) rfl rfl ?_
  refine sk_S.iconst (v := 1) (dd DX5_fewestBoats 5 rfl) (by decide) ?_
  refine sk_S.aload_n (i := 0) (dd DX5_fewestBoats 6 rfl) rfl rfl ?_
  refine sk_S.geti (dd DX5_fewestBoats 7 rfl) rfl fX5_48 se_1 (by decide) rfl ?_
  refine sk_S.ishl (dd DX5_fewestBoats 8 rfl) ?_
  refine sk_S.icmp_ge (tgt := 55) (dd DX5_fewestBoats 9 rfl) (by decide) (fun c11 => absurd c11 (by rw [eP]; exact nI_ge hs (by omega))) (fun c11 => ?_)
  refine sk_S.iload_n (i := 1) (dd DX5_fewestBoats 10 rfl) rfl rfl ?_
  refine sk_S.if_lt (tgt := 29) (dd DX5_fewestBoats 11 rfl) (by decide) (fun c15 => ?_) (fun c15 => absurd (by decide) c15)
  refine sk_S.iconst (v := 1) (dd DX5_fewestBoats 17 rfl) (by decide) ?_
  refine sk_S.goto (tgt := 34) (dd DX5_fewestBoats 18 rfl) (by decide) ?_
  refine sk_S.istore_n (i := 3) (dd DX5_fewestBoats 20 rfl) rfl (Nat.le_of_ble_eq_true rfl) rfl ?_
  refine sk_S.iload_n (i := 3) (dd DX5_fewestBoats 21 rfl) rfl rfl ?_
  refine sk_S.if_eq (tgt := 49) (dd DX5_fewestBoats 22 rfl) (by decide) (fun c36 => absurd c36 (by decide)) (fun c36 => ?_)
  refine sk_S.aload_n (i := 0) (dd DX5_fewestBoats 23 rfl) rfl rfl ?_
  refine sk_S.iload_n (i := 2) (dd DX5_fewestBoats 24 rfl) rfl rfl ?_
  refine sk_S.callS (dd DX5_fewestBoats 25 rfl) rfl kX5_57 (cT_isEnough (by omega) hR hG) rfl rfl rfl (Nat.le_of_ble_eq_true rfl) (fun r41 h41 q41 => ?_)
  obtain ⟨og, rfl⟩ := q41
  show sk_S _ _ _ _ _ _ (.int _ :: _) _ _
  refine sk_S.bic_eq (tgt := 49) (dd DX5_fewestBoats 26 rfl) (by decide) (fun c44 => ?_) (fun c44 => ?_)
  · refine sk_S.iinc (i := 2) (v := _ + 1) (dd DX5_fewestBoats 29 rfl) rfl rfl rfl ?_
    refine sk_S.goto (tgt := 4) (dd DX5_fewestBoats 30 rfl) (by decide) ?_
    exact k0 _ _ c44 og
  · refine sk_S.iload_n (i := 2) (dd DX5_fewestBoats 27 rfl) rfl rfl ?_
    refine sk_S.istore_n (i := 1) (dd DX5_fewestBoats 28 rfl) rfl (Nat.le_of_ble_eq_true rfl) rfl ?_
    refine sk_S.iinc (i := 2) (v := _ + 1) (dd DX5_fewestBoats 29 rfl) rfl rfl rfl ?_
    refine sk_S.goto (tgt := 4) (dd DX5_fewestBoats 30 rfl) (by decide) ?_
    exact k1 _ _ c44 og
set_option maxRecDepth 100000 in
set_option maxHeartbeats 1000000 in
theorem fb_B {l : Launch} {E : sk_V} {d : Nat} {k : sk_M} {Q : Option Value → sk_M → Prop} {g : Nat → Int32} {s : Nat} {x3 : Option Value} (hR : RQ 1 18 k g) (hG : RG g) (hs : s < 2 ^ boN g) {q : Nat} (hq : q < 64) (k1 : ∀ f2 x, pcN s < pcN q → setE g (lndX g) s 4 → sk_o [34, 35] k f2 → sk_S l E (d + 6) MX5_fewestBoats 4 [some (.ref 1), some (.int (nI s)), some (.int (nI s + 1)), x] [] f2 Q) (k0 : ∀ f2 x, ¬ (pcN s < pcN q ∧ setE g (lndX g) s 4) → sk_o [34, 35] k f2 → sk_S l E (d + 6) MX5_fewestBoats 4 [some (.ref 1), some (.int (nI q)), some (.int (nI s + 1)), x] [] f2 Q) : sk_S l E (d + 6) MX5_fewestBoats 4 [some (.ref 1), some (.int (nI q)), some (.int (nI s)), x3] [] k Q := by
  have hb6 := hG.b.2
  have hp := pow_nb hb6
  have eP : (1 : Int32) <<< (k 1 6 &&& 31) = nI (2 ^ boN g) := by rw [hR.bo.trans hG.b.1]; exact shl_nb _ hb6
  refine sk_S.iload_n (i := 2) (dd DX5_fewestBoats 4 rfl) rfl rfl ?_
  refine sk_S.iconst (v := 1) (dd DX5_fewestBoats 5 rfl) (by decide) ?_
  refine sk_S.aload_n (i := 0) (dd DX5_fewestBoats 6 rfl) rfl rfl ?_
  refine sk_S.geti (dd DX5_fewestBoats 7 rfl) rfl fX5_48 se_1 (by decide) rfl ?_
  refine sk_S.ishl (dd DX5_fewestBoats 8 rfl) ?_
  refine sk_S.icmp_ge (tgt := 55) (dd DX5_fewestBoats 9 rfl) (by decide) (fun c11 => absurd c11 (by rw [eP]; exact nI_ge hs (by omega))) (fun c11 => ?_)
  refine sk_S.iload_n (i := 1) (dd DX5_fewestBoats 10 rfl) rfl rfl ?_
  refine sk_S.if_lt (tgt := 29) (dd DX5_fewestBoats 11 rfl) (by decide) (fun c15 => absurd c15 (nI_pos (by omega))) (fun c15 => ?_)
  refine sk_S.iload_n (i := 2) (dd DX5_fewestBoats 12 rfl) rfl rfl ?_
  refine sk_S.callS (dd DX5_fewestBoats 13 rfl) rfl kX5_51 (cJ_bitCount (s := s) (by omega)) rfl rfl rfl (Nat.le_of_ble_eq_true rfl) (fun r19 h19 q19 => ?_)
  obtain ⟨rfl, rfl⟩ := q19
  show sk_S _ _ _ _ _ _ (.int _ :: _) _ _
  refine sk_S.iload_n (i := 1) (dd DX5_fewestBoats 14 rfl) rfl rfl ?_
  refine sk_S.callS (dd DX5_fewestBoats 15 rfl) rfl kX5_51 (cJ_bitCount (s := q) (by omega)) rfl rfl rfl (Nat.le_of_ble_eq_true rfl) (fun r23 h23 q23 => ?_)
  obtain ⟨rfl, rfl⟩ := q23
  show sk_S _ _ _ _ _ _ (.int _ :: _) _ _
  refine sk_S.icmp_ge (tgt := 33) (dd DX5_fewestBoats 16 rfl) (by decide) (fun c26 => ?_) (fun c26 => ?_)
  · have hps := pcN_le s (by omega)
    have hpq := pcN_le q hq
    have c26n : ¬ pcN s < pcN q := by
      rw [nI_leI (by omega) (by omega)] at c26
      omega
    refine sk_S.iconst (v := 0) (dd DX5_fewestBoats 19 rfl) (by decide) ?_
    refine sk_S.istore_n (i := 3) (dd DX5_fewestBoats 20 rfl) rfl (Nat.le_of_ble_eq_true rfl) rfl ?_
    refine sk_S.iload_n (i := 3) (dd DX5_fewestBoats 21 rfl) rfl rfl ?_
    refine sk_S.if_eq (tgt := 49) (dd DX5_fewestBoats 22 rfl) (by decide) (fun c36 => ?_) (fun c36 => absurd rfl c36)
    refine sk_S.iinc (i := 2) (v := _ + 1) (dd DX5_fewestBoats 29 rfl) rfl rfl rfl ?_
    refine sk_S.goto (tgt := 4) (dd DX5_fewestBoats 30 rfl) (by decide) ?_
    exact k0 _ _ (fun z => c26n z.1) sk_o.rf
  · have hps := pcN_le s (by omega)
    have hpq := pcN_le q hq
    have c26p : pcN s < pcN q := by
      rw [nI_leI (by omega) (by omega)] at c26
      omega
    refine sk_S.iconst (v := 1) (dd DX5_fewestBoats 17 rfl) (by decide) ?_
    refine sk_S.goto (tgt := 34) (dd DX5_fewestBoats 18 rfl) (by decide) ?_
    refine sk_S.istore_n (i := 3) (dd DX5_fewestBoats 20 rfl) rfl (Nat.le_of_ble_eq_true rfl) rfl ?_
    refine sk_S.iload_n (i := 3) (dd DX5_fewestBoats 21 rfl) rfl rfl ?_
    refine sk_S.if_eq (tgt := 49) (dd DX5_fewestBoats 22 rfl) (by decide) (fun c36 => absurd c36 (by decide)) (fun c36 => ?_)
    refine sk_S.aload_n (i := 0) (dd DX5_fewestBoats 23 rfl) rfl rfl ?_
    refine sk_S.iload_n (i := 2) (dd DX5_fewestBoats 24 rfl) rfl rfl ?_
    refine sk_S.callS (dd DX5_fewestBoats 25 rfl) rfl kX5_57 (cT_isEnough (by omega) hR hG) rfl rfl rfl (Nat.le_of_ble_eq_true rfl) (fun r41 h41 q41 => ?_)
    obtain ⟨og, rfl⟩ := q41
    show sk_S _ _ _ _ _ _ (.int _ :: _) _ _
    refine sk_S.bic_eq (tgt := 49) (dd DX5_fewestBoats 26 rfl) (by decide) (fun c44 => ?_) (fun c44 => ?_)
    · refine sk_S.iinc (i := 2) (v := _ + 1) (dd DX5_fewestBoats 29 rfl) rfl rfl rfl ?_
      refine sk_S.goto (tgt := 4) (dd DX5_fewestBoats 30 rfl) (by decide) ?_
      exact k0 _ _ (fun z => c44 z.2) og
    · refine sk_S.iload_n (i := 2) (dd DX5_fewestBoats 27 rfl) rfl rfl ?_
      refine sk_S.istore_n (i := 1) (dd DX5_fewestBoats 28 rfl) rfl (Nat.le_of_ble_eq_true rfl) rfl ?_
      refine sk_S.iinc (i := 2) (v := _ + 1) (dd DX5_fewestBoats 29 rfl) rfl rfl rfl ?_
      refine sk_S.goto (tgt := 4) (dd DX5_fewestBoats 30 rfl) (by decide) ?_
      exact k1 _ _ c26p c44 og
set_option maxRecDepth 100000 in
set_option maxHeartbeats 1000000 in
theorem lq_few {l : Launch} {E : sk_V} {d : Nat} {h : sk_M} {g : Nat → Int32} (hR : RQ 1 18 h g) (hG : RG g) : ∀ (m s : Nat) (k : sk_M) (x3 : Option Value), s + m = 2 ^ boN g → sk_o [34, 35] h k → sk_S l E (d + 6) MX5_fewestBoats 4 [some (.ref 1), some (.int (ndI (ndN g (lndX g) s))), some (.int (nI s)), x3] [] k (fun r h1 => sk_o [34, 35] h h1 ∧ some (.int (ndI (ndN g (lndX g) (2 ^ boN g)))) = r)
  | 0, s, k, x3, hs, ho => by
    have e : s = 2 ^ boN g := by omega
    subst e
    have hR1 : RQ 1 18 k g := hR.o ho (by decide)
    have hb6 := hG.b.2
    have eP : (1 : Int32) <<< (k 1 6 &&& 31) = nI (2 ^ boN g) := by rw [hR1.bo.trans hG.b.1]; exact shl_nb _ hb6
    refine sk_S.iload_n (i := 2) (dd DX5_fewestBoats 4 rfl) rfl rfl ?_
    refine sk_S.iconst (v := 1) (dd DX5_fewestBoats 5 rfl) (by decide) ?_
    refine sk_S.aload_n (i := 0) (dd DX5_fewestBoats 6 rfl) rfl rfl ?_
    refine sk_S.geti (dd DX5_fewestBoats 7 rfl) rfl fX5_48 se_1 (by decide) rfl ?_
    refine sk_S.ishl (dd DX5_fewestBoats 8 rfl) ?_
    refine sk_S.icmp_ge (tgt := 55) (dd DX5_fewestBoats 9 rfl) (by decide) (fun c11 => ?_) (fun c11 => absurd (by rw [eP]; exact Int32.le_refl _) c11)
    refine sk_S.iload_n (i := 1) (dd DX5_fewestBoats 31 rfl) rfl rfl ?_
    refine sk_S.iret (dd DX5_fewestBoats 32 rfl) rfl rfl ?_
    exact ⟨ho, rfl⟩
  | m + 1, s, k, x3, hs, ho => by
    have hR1 : RQ 1 18 k g := hR.o ho (by decide)
    have hb6 := hG.b.2
    have hp := pow_nb hb6
    have go : ∀ (f2 : sk_M) (x : Option Value) (n : Nat) (v : Int32), ndN g (lndX g) (s + 1) = n → ndI n = v → sk_o [34, 35] k f2 → sk_S l E (d + 6) MX5_fewestBoats 4 [some (.ref 1), some (.int v), some (.int (nI s + 1)), x] [] f2 (fun r h1 => sk_o [34, 35] h h1 ∧ some (.int (ndI (ndN g (lndX g) (2 ^ boN g)))) = r) := by
      intro f2 x n v e1 e2 of
      rw [← e2, ← e1, ← nI_succ]
      exact lq_few hR hG m (s + 1) f2 x (by omega) (ho.tr of)
    rcases ndN_le (g := g) (X := lndX g) s with hN | hN
    · rw [hN, show ndI 64 = -1 from rfl]
      refine fb_A hR1 hG (by omega) (fun f2 x hE of => ?_) (fun f2 x hE of => ?_)
      · exact go f2 x s _ (ndN_1 ⟨Or.inl hN, hE⟩) (ndI_pos (by omega)) of
      · exact go f2 x 64 _ ((ndN_0 (fun z => hE z.2)).trans hN) rfl of
    · rw [ndI_pos (n := ndN g (lndX g) s) (by omega)]
      refine fb_B hR1 hG (by omega) (by omega) (fun f2 x hc hE of => ?_) (fun f2 x hE of => ?_)
      · exact go f2 x s _ (ndN_1 ⟨Or.inr hc, hE⟩) (ndI_pos (by omega)) of
      · exact go f2 x (ndN g (lndX g) s) _ (ndN_0 (fun z => hE ⟨z.1.resolve_left (by omega), z.2⟩)) (ndI_pos (by omega)) of
set_option maxRecDepth 100000 in
set_option maxHeartbeats 1000000 in
theorem cT_fewest {l : Launch} {E : sk_V} {d : Nat} {h : sk_M} {g : Nat → Int32} (hR : RQ 1 18 h g) (hG : RG g) : sk_K l E (d + 6) MX5_fewestBoats [.ref 1] h (fun r h1 => sk_o [34, 35] h h1 ∧ some (.int (ndI (ndN g (lndX g) (2 ^ boN g)))) = r) := by
  refine sk_K.of (by decide +kernel) (Nat.le_of_ble_eq_true rfl) ?_
  show sk_S l E (d + 6) _ 0 [some (.ref 1), none, none, none] [] h _
  refine sk_S.iconst (v := -1) (dd DX5_fewestBoats 0 rfl) (by decide) ?_
  refine sk_S.istore_n (i := 1) (dd DX5_fewestBoats 1 rfl) rfl (Nat.le_of_ble_eq_true rfl) rfl ?_
  refine sk_S.iconst (v := 0) (dd DX5_fewestBoats 2 rfl) (by decide) ?_
  refine sk_S.istore_n (i := 2) (dd DX5_fewestBoats 3 rfl) rfl (Nat.le_of_ble_eq_true rfl) rfl ?_
  exact lq_few hR hG (2 ^ boN g) 0 h none (Nat.zero_add _) sk_o.rf
set_option maxRecDepth 100000 in
set_option maxHeartbeats 1000000 in
theorem lq_nt74 {l : Launch} {E : sk_V} {d : Nat} {h : sk_M} {x y : Int32} : sk_S l E (d + 0) MJ6_numberOfTrailingZeros_0f7a4 74 [some (.int x), some (.int y)] [] h (fun r h1 => h = h1 ∧ (∃ v : Int32, some (.int v) = r)) := by
  refine sk_S.iload_n (i := 1) (dd DJ6_numberOfTrailingZeros_0f7a4 48 rfl) rfl rfl ?_
  refine sk_S.iload_n (i := 0) (dd DJ6_numberOfTrailingZeros_0f7a4 49 rfl) rfl rfl ?_
  refine sk_S.iconst (v := 1) (dd DJ6_numberOfTrailingZeros_0f7a4 50 rfl) (by decide) ?_
  refine sk_S.iushr (dd DJ6_numberOfTrailingZeros_0f7a4 51 rfl) ?_
  refine sk_S.iadd (dd DJ6_numberOfTrailingZeros_0f7a4 52 rfl) ?_
  refine sk_S.iret (dd DJ6_numberOfTrailingZeros_0f7a4 53 rfl) rfl rfl ?_
  exact ⟨rfl, _, rfl⟩
set_option maxRecDepth 100000 in
set_option maxHeartbeats 1000000 in
theorem lq_nt62 {l : Launch} {E : sk_V} {d : Nat} {h : sk_M} {x y : Int32} : sk_S l E (d + 0) MJ6_numberOfTrailingZeros_0f7a4 62 [some (.int x), some (.int y)] [] h (fun r h1 => h = h1 ∧ (∃ v : Int32, some (.int v) = r)) := by
  refine sk_S.iload_n (i := 0) (dd DJ6_numberOfTrailingZeros_0f7a4 40 rfl) rfl rfl ?_
  refine sk_S.iconst (v := 4) (dd DJ6_numberOfTrailingZeros_0f7a4 41 rfl) (by decide) ?_
  refine sk_S.icmp_le (tgt := 74) (dd DJ6_numberOfTrailingZeros_0f7a4 42 rfl) (by decide) (fun c64 => ?_) (fun c64 => ?_)
  · exact lq_nt74
  · refine sk_S.iinc (i := 1) (v := _ + 2) (dd DJ6_numberOfTrailingZeros_0f7a4 43 rfl) rfl rfl rfl ?_
    refine sk_S.iload_n (i := 0) (dd DJ6_numberOfTrailingZeros_0f7a4 44 rfl) rfl rfl ?_
    refine sk_S.iconst (v := 2) (dd DJ6_numberOfTrailingZeros_0f7a4 45 rfl) (by decide) ?_
    refine sk_S.iushr (dd DJ6_numberOfTrailingZeros_0f7a4 46 rfl) ?_
    refine sk_S.istore_n (i := 0) (dd DJ6_numberOfTrailingZeros_0f7a4 47 rfl) rfl (Nat.le_of_ble_eq_true rfl) rfl ?_
    exact lq_nt74
set_option maxRecDepth 100000 in
set_option maxHeartbeats 1000000 in
theorem lq_nt49 {l : Launch} {E : sk_V} {d : Nat} {h : sk_M} {x y : Int32} : sk_S l E (d + 0) MJ6_numberOfTrailingZeros_0f7a4 49 [some (.int x), some (.int y)] [] h (fun r h1 => h = h1 ∧ (∃ v : Int32, some (.int v) = r)) := by
  refine sk_S.iload_n (i := 0) (dd DJ6_numberOfTrailingZeros_0f7a4 32 rfl) rfl rfl ?_
  refine sk_S.bipush (v := 16) (dd DJ6_numberOfTrailingZeros_0f7a4 33 rfl) (by decide) ?_
  refine sk_S.icmp_le (tgt := 62) (dd DJ6_numberOfTrailingZeros_0f7a4 34 rfl) (by decide) (fun c52 => ?_) (fun c52 => ?_)
  · exact lq_nt62
  · refine sk_S.iinc (i := 1) (v := _ + 4) (dd DJ6_numberOfTrailingZeros_0f7a4 35 rfl) rfl rfl rfl ?_
    refine sk_S.iload_n (i := 0) (dd DJ6_numberOfTrailingZeros_0f7a4 36 rfl) rfl rfl ?_
    refine sk_S.iconst (v := 4) (dd DJ6_numberOfTrailingZeros_0f7a4 37 rfl) (by decide) ?_
    refine sk_S.iushr (dd DJ6_numberOfTrailingZeros_0f7a4 38 rfl) ?_
    refine sk_S.istore_n (i := 0) (dd DJ6_numberOfTrailingZeros_0f7a4 39 rfl) rfl (Nat.le_of_ble_eq_true rfl) rfl ?_
    exact lq_nt62
set_option maxRecDepth 100000 in
set_option maxHeartbeats 1000000 in
theorem lq_nt34 {l : Launch} {E : sk_V} {d : Nat} {h : sk_M} {x y : Int32} : sk_S l E (d + 0) MJ6_numberOfTrailingZeros_0f7a4 34 [some (.int x), some (.int y)] [] h (fun r h1 => h = h1 ∧ (∃ v : Int32, some (.int v) = r)) := by
  refine sk_S.iload_n (i := 0) (dd DJ6_numberOfTrailingZeros_0f7a4 24 rfl) rfl rfl ?_
  refine sk_S.sipush (v := 256) (dd DJ6_numberOfTrailingZeros_0f7a4 25 rfl) (by decide) ?_
  refine sk_S.icmp_le (tgt := 49) (dd DJ6_numberOfTrailingZeros_0f7a4 26 rfl) (by decide) (fun c38 => ?_) (fun c38 => ?_)
  · exact lq_nt49
  · refine sk_S.iinc (i := 1) (v := _ + 8) (dd DJ6_numberOfTrailingZeros_0f7a4 27 rfl) rfl rfl rfl ?_
    refine sk_S.iload_n (i := 0) (dd DJ6_numberOfTrailingZeros_0f7a4 28 rfl) rfl rfl ?_
    refine sk_S.bipush (v := 8) (dd DJ6_numberOfTrailingZeros_0f7a4 29 rfl) (by decide) ?_
    refine sk_S.iushr (dd DJ6_numberOfTrailingZeros_0f7a4 30 rfl) ?_
    refine sk_S.istore_n (i := 0) (dd DJ6_numberOfTrailingZeros_0f7a4 31 rfl) rfl (Nat.le_of_ble_eq_true rfl) rfl ?_
    exact lq_nt49
set_option maxRecDepth 100000 in
set_option maxHeartbeats 1000000 in
theorem cJ_ntz {l : Launch} {E : sk_V} {d : Nat} {h : sk_M} {x : Int32}  : sk_K l E (d + 0) MJ6_numberOfTrailingZeros_0f7a4 [.int x] h (fun r h1 => h = h1 ∧ (∃ v : Int32, some (.int v) = r)) := by
  refine sk_K.of (by decide +kernel) (Nat.le_of_ble_eq_true rfl) ?_
  show sk_S l E (d + 0) _ 0 [some (.int x), none] [] h _
  refine sk_S.iload_n (i := 0) (dd DJ6_numberOfTrailingZeros_0f7a4 0 rfl) rfl rfl ?_
  refine sk_S.iconst (v := -1) (dd DJ6_numberOfTrailingZeros_0f7a4 1 rfl) (by decide) ?_
  refine sk_S.ixor (dd DJ6_numberOfTrailingZeros_0f7a4 2 rfl) ?_
  refine sk_S.iload_n (i := 0) (dd DJ6_numberOfTrailingZeros_0f7a4 3 rfl) rfl rfl ?_
  refine sk_S.iconst (v := 1) (dd DJ6_numberOfTrailingZeros_0f7a4 4 rfl) (by decide) ?_
  refine sk_S.isub (dd DJ6_numberOfTrailingZeros_0f7a4 5 rfl) ?_
  refine sk_S.iand (dd DJ6_numberOfTrailingZeros_0f7a4 6 rfl) ?_
  refine sk_S.istore_n (i := 0) (dd DJ6_numberOfTrailingZeros_0f7a4 7 rfl) rfl (Nat.le_of_ble_eq_true rfl) rfl ?_
  refine sk_S.iload_n (i := 0) (dd DJ6_numberOfTrailingZeros_0f7a4 8 rfl) rfl rfl ?_
  refine sk_S.if_gt (tgt := 17) (dd DJ6_numberOfTrailingZeros_0f7a4 9 rfl) (by decide) (fun c9 => ?_) (fun c9 => ?_)
  · refine sk_S.iconst (v := 1) (dd DJ6_numberOfTrailingZeros_0f7a4 14 rfl) (by decide) ?_
    refine sk_S.istore_n (i := 1) (dd DJ6_numberOfTrailingZeros_0f7a4 15 rfl) rfl (Nat.le_of_ble_eq_true rfl) rfl ?_
    refine sk_S.iload_n (i := 0) (dd DJ6_numberOfTrailingZeros_0f7a4 16 rfl) rfl rfl ?_
    refine sk_S.ldc_w (dd DJ6_numberOfTrailingZeros_0f7a4 17 rfl) rfl cnJ6_264 ?_
    refine sk_S.icmp_le (tgt := 34) (dd DJ6_numberOfTrailingZeros_0f7a4 18 rfl) (by decide) (fun c23 => ?_) (fun c23 => ?_)
    · exact lq_nt34
    · refine sk_S.iinc (i := 1) (v := _ + 16) (dd DJ6_numberOfTrailingZeros_0f7a4 19 rfl) rfl rfl rfl ?_
      refine sk_S.iload_n (i := 0) (dd DJ6_numberOfTrailingZeros_0f7a4 20 rfl) rfl rfl ?_
      refine sk_S.bipush (v := 16) (dd DJ6_numberOfTrailingZeros_0f7a4 21 rfl) (by decide) ?_
      refine sk_S.iushr (dd DJ6_numberOfTrailingZeros_0f7a4 22 rfl) ?_
      refine sk_S.istore_n (i := 0) (dd DJ6_numberOfTrailingZeros_0f7a4 23 rfl) rfl (Nat.le_of_ble_eq_true rfl) rfl ?_
      exact lq_nt34
  · refine sk_S.iload_n (i := 0) (dd DJ6_numberOfTrailingZeros_0f7a4 10 rfl) rfl rfl ?_
    refine sk_S.bipush (v := 32) (dd DJ6_numberOfTrailingZeros_0f7a4 11 rfl) (by decide) ?_
    refine sk_S.iand (dd DJ6_numberOfTrailingZeros_0f7a4 12 rfl) ?_
    refine sk_S.iret (dd DJ6_numberOfTrailingZeros_0f7a4 13 rfl) rfl rfl ?_
    exact ⟨rfl, _, rfl⟩
set_option maxRecDepth 100000 in
set_option maxHeartbeats 1000000 in
theorem lq_soBy {l : Launch} {E : sk_V} {d : Nat} {h : sk_M} {g : Nat → Int32} {s n : Nat} (hs : sk_e s = (1, 4, 3, [some n])) (hn : sk_e n = (0, 0, 24, [])) (hsq : s ≠ 34 ∧ s ≠ 35) {len : Nat} (hl : h s 2 = nI len) (hl24 : len ≤ 24) (h4 : len ≤ 4) {sea : Int32} (hR : RQ 1 18 h g) (hG : RG g) : ∀ (m j : Nat) (k : sk_M), j + m = len → sk_o [34, 35] h k → sk_S l E (d + 6) MX5_isSoBy 12 [some (.ref 1), some (.ref s), some (.int sea), some (.int (nI j))] [] k (fun r h1 => sk_o [34, 35] h h1 ∧ ∃ v : Int32, (v = 0 ∨ v = 1) ∧ some (.int v) = r)
  | 0, j, k, hj, ho => by
    have el : k s 2 = nI len := by rw [ho s (by simp only [List.mem_cons, not_or, List.not_mem_nil, not_false_eq_true, and_true]; exact hsq)]; exact hl
    have e : j = len := by omega
    subst e
    refine sk_S.iload_n (i := 3) (dd DX5_isSoBy 8 rfl) rfl rfl ?_
    refine sk_S.aload_n (i := 1) (dd DX5_isSoBy 9 rfl) rfl rfl ?_
    refine sk_S.geti (dd DX5_isSoBy 10 rfl) rfl fX5_72 hs (by decide) rfl ?_
    refine sk_S.icmp_ge (tgt := 53) (dd DX5_isSoBy 11 rfl) (by decide) (fun c17 => ?_) (fun c17 => absurd (by rw [el]; exact Int32.le_refl _) c17)
    refine sk_S.iconst (v := 1) (dd DX5_isSoBy 31 rfl) (by decide) ?_
    refine sk_S.iret (dd DX5_isSoBy 32 rfl) rfl rfl ?_
    exact ⟨ho, 1, Or.inr rfl, rfl⟩
  | m + 1, j, k, hj, ho => by
    have hR1 : RQ 1 18 k g := hR.o ho (by decide)
    have el : k s 2 = nI len := by rw [ho s (by simp only [List.mem_cons, not_or, List.not_mem_nil, not_false_eq_true, and_true]; exact hsq)]; exact hl
    
    refine sk_S.iload_n (i := 3) (dd DX5_isSoBy 8 rfl) rfl rfl ?_
    refine sk_S.aload_n (i := 1) (dd DX5_isSoBy 9 rfl) rfl rfl ?_
    refine sk_S.geti (dd DX5_isSoBy 10 rfl) rfl fX5_72 hs (by decide) rfl ?_
    refine sk_S.icmp_ge (tgt := 53) (dd DX5_isSoBy 11 rfl) (by decide) (fun c17 => absurd c17 (by rw [el]; exact nI_ge (by omega) (by omega))) (fun c17 => ?_)
    refine sk_S.aload_n (i := 0) (dd DX5_isSoBy 12 rfl) rfl rfl ?_
    refine sk_S.iload_n (i := 3) (dd DX5_isSoBy 13 rfl) rfl rfl ?_
    refine sk_S.aload_n (i := 0) (dd DX5_isSoBy 14 rfl) rfl rfl ?_
    refine sk_S.getr (dd DX5_isSoBy 15 rfl) rfl fX5_61 se_1 (by decide) rfl ?_
    refine sk_S.iload_n (i := 3) (dd DX5_isSoBy 16 rfl) rfl rfl ?_
    refine sk_S.iald (dd DX5_isSoBy 17 rfl) se_18 (sk_ix_nI (k := j) rfl (by omega) (by decide)) ?_
    refine sk_S.iload_n (i := 2) (dd DX5_isSoBy 18 rfl) rfl rfl ?_
    refine sk_S.aload_n (i := 0) (dd DX5_isSoBy 19 rfl) rfl rfl ?_
    refine sk_S.geti (dd DX5_isSoBy 20 rfl) rfl fX5_15 se_1 (by decide) rfl ?_
    refine sk_S.callV (dd DX5_isSoBy 21 rfl) rfl kX5_21 (cQ_caught hR1 hG) se_1 (by decide) rfl rfl rfl rfl (Nat.le_of_ble_eq_true rfl) (fun r33 h33 q33 => ?_)
    obtain ⟨og, rfl⟩ := q33
    show sk_S _ _ _ _ _ _ (.int _ :: _) _ _
    refine sk_S.aload_n (i := 1) (dd DX5_isSoBy 22 rfl) rfl rfl ?_
    refine sk_S.getr (dd DX5_isSoBy 23 rfl) rfl fX5_77 hs (by decide) rfl ?_
    refine sk_S.iload_n (i := 3) (dd DX5_isSoBy 24 rfl) rfl rfl ?_
    refine sk_S.iald (dd DX5_isSoBy 25 rfl) hn (sk_ix_nI (k := j) rfl (by omega) (by decide)) ?_
    refine sk_S.icmp_eq (tgt := 47) (dd DX5_isSoBy 26 rfl) (by decide) (fun c42 => ?_) (fun c42 => ?_)
    · refine sk_S.iinc (i := 3) (v := _ + 1) (dd DX5_isSoBy 29 rfl) rfl rfl rfl ?_
      refine sk_S.goto (tgt := 12) (dd DX5_isSoBy 30 rfl) (by decide) ?_
      exact sk_S.L (lq_soBy hs hn hsq hl hl24 h4 hR hG m (j + 1) _ (by omega) (ho.tr og)) (by rw [nI_succ]; rfl)
    · refine sk_S.iconst (v := 0) (dd DX5_isSoBy 27 rfl) (by decide) ?_
      refine sk_S.iret (dd DX5_isSoBy 28 rfl) rfl rfl ?_
      exact ⟨ho.tr og, 0, Or.inl rfl, rfl⟩
set_option maxRecDepth 100000 in
set_option maxHeartbeats 1000000 in
theorem cT_soBy {l : Launch} {E : sk_V} {d : Nat} {h : sk_M} {g : Nat → Int32} {s n : Nat} (hs : sk_e s = (1, 4, 3, [some n])) (hn : sk_e n = (0, 0, 24, [])) {sea : Int32} (hsq : s ≠ 34 ∧ s ≠ 35) {len : Nat} (hl : h s 2 = nI len) (hl24 : len ≤ 24) (hR : RQ 1 18 h g) (hG : RG g) : sk_K l E (d + 6) MX5_isSoBy [.ref 1, .ref s, .int sea] h (fun r h1 => sk_o [34, 35] h h1 ∧ ∃ v : Int32, (v = 0 ∨ v = 1) ∧ some (.int v) = r) := by
  refine sk_K.of (by decide +kernel) (Nat.le_of_ble_eq_true rfl) ?_
  show sk_S l E (d + 6) _ 0 [some (.ref 1), some (.ref s), some (.int sea), none] [] h _
  refine sk_S.aload_n (i := 1) (dd DX5_isSoBy 0 rfl) rfl rfl ?_
  refine sk_S.geti (dd DX5_isSoBy 1 rfl) rfl fX5_72 hs (by decide) rfl ?_
  refine sk_S.iconst (v := 4) (dd DX5_isSoBy 2 rfl) (by decide) ?_
  refine sk_S.icmp_le (tgt := 10) (dd DX5_isSoBy 3 rfl) (by decide) (fun c5 => ?_) (fun c5 => ?_)
  · refine sk_S.iconst (v := 0) (dd DX5_isSoBy 6 rfl) (by decide) ?_
    refine sk_S.istore_n (i := 3) (dd DX5_isSoBy 7 rfl) rfl (Nat.le_of_ble_eq_true rfl) rfl ?_
    have h4 : len ≤ 4 := by
      rw [hl] at c5
      have e : nI len ≤ nI 4 := c5
      rwa [nI_leI (by omega) (by decide)] at e
    exact lq_soBy hs hn hsq hl hl24 h4 hR hG len 0 h (Nat.zero_add _) sk_o.rf
  · refine sk_S.iconst (v := 0) (dd DX5_isSoBy 4 rfl) (by decide) ?_
    refine sk_S.iret (dd DX5_isSoBy 5 rfl) rfl rfl ?_
    exact ⟨sk_o.rf, 0, Or.inl rfl, rfl⟩
set_option maxRecDepth 100000 in
set_option maxHeartbeats 1000000 in
theorem lq_fit {l : Launch} {E : sk_V} {d : Nat} {h : sk_M} {g : Nat → Int32} {s n : Nat} (hs : sk_e s = (1, 4, 3, [some n])) (hn : sk_e n = (0, 0, 24, [])) (hsq : s ≠ 34 ∧ s ≠ 35) {len : Nat} (hl : h s 2 = nI len) (hl24 : len ≤ 24) (hR : RQ 1 18 h g) (hG : RG g) : ∀ (m j : Nat) (k : sk_M) (v : Int32), j + m = 10 → sk_o [34, 35] h k → sk_S l E (d + 7) MX5_seasThatFit 4 [some (.ref 1), some (.ref s), some (.int v), some (.int (nI j))] [] k (fun r h1 => sk_o [34, 35] h h1 ∧ (∃ v : Int32, some (.int v) = r))
  | 0, j, k, v, hj, ho => by
    have e : j = 10 := by omega
    subst e
    refine sk_S.iload_n (i := 3) (dd DX5_seasThatFit 4 rfl) rfl rfl ?_
    refine sk_S.bipush (v := 10) (dd DX5_seasThatFit 5 rfl) (by decide) ?_
    refine sk_S.icmp_ge (tgt := 31) (dd DX5_seasThatFit 6 rfl) (by decide) (fun c7 => ?_) (fun c7 => absurd (by decide) c7)
    refine sk_S.iload_n (i := 2) (dd DX5_seasThatFit 20 rfl) rfl rfl ?_
    refine sk_S.iret (dd DX5_seasThatFit 21 rfl) rfl rfl ?_
    exact ⟨ho, _, rfl⟩
  | m + 1, j, k, v, hj, ho => by
    have hR1 : RQ 1 18 k g := hR.o ho (by decide)
    have el : k s 2 = nI len := by rw [ho s (by simp only [List.mem_cons, not_or, List.not_mem_nil, not_false_eq_true, and_true]; exact hsq)]; exact hl
    
    refine sk_S.iload_n (i := 3) (dd DX5_seasThatFit 4 rfl) rfl rfl ?_
    refine sk_S.bipush (v := 10) (dd DX5_seasThatFit 5 rfl) (by decide) ?_
    refine sk_S.icmp_ge (tgt := 31) (dd DX5_seasThatFit 6 rfl) (by decide) (fun c7 => absurd c7 (by exact nI_ge (b := 10) (by omega) (by decide))) (fun c7 => ?_)
    refine sk_S.aload_n (i := 0) (dd DX5_seasThatFit 7 rfl) rfl rfl ?_
    refine sk_S.aload_n (i := 1) (dd DX5_seasThatFit 8 rfl) rfl rfl ?_
    refine sk_S.iload_n (i := 3) (dd DX5_seasThatFit 9 rfl) rfl rfl ?_
    refine sk_S.callS (dd DX5_seasThatFit 10 rfl) rfl kX5_68 (cT_soBy hs hn hsq el hl24 hR1 hG) rfl rfl rfl (Nat.le_of_ble_eq_true rfl) (fun r13 h13 q13 => ?_)
    obtain ⟨og, v1, -, rfl⟩ := q13
    show sk_S _ _ _ _ _ _ (.int _ :: _) _ _
    refine sk_S.if_eq (tgt := 25) (dd DX5_seasThatFit 11 rfl) (by decide) (fun c16 => ?_) (fun c16 => ?_)
    · refine sk_S.iinc (i := 3) (v := _ + 1) (dd DX5_seasThatFit 18 rfl) rfl rfl rfl ?_
      refine sk_S.goto (tgt := 4) (dd DX5_seasThatFit 19 rfl) (by decide) ?_
      exact sk_S.L (lq_fit hs hn hsq hl hl24 hR hG m (j + 1) _ _ (by omega) (ho.tr og)) (by rw [nI_succ]; rfl)
    · refine sk_S.iload_n (i := 2) (dd DX5_seasThatFit 12 rfl) rfl rfl ?_
      refine sk_S.iconst (v := 1) (dd DX5_seasThatFit 13 rfl) (by decide) ?_
      refine sk_S.iload_n (i := 3) (dd DX5_seasThatFit 14 rfl) rfl rfl ?_
      refine sk_S.ishl (dd DX5_seasThatFit 15 rfl) ?_
      refine sk_S.ior (dd DX5_seasThatFit 16 rfl) ?_
      refine sk_S.istore_n (i := 2) (dd DX5_seasThatFit 17 rfl) rfl (Nat.le_of_ble_eq_true rfl) rfl ?_
      refine sk_S.iinc (i := 3) (v := _ + 1) (dd DX5_seasThatFit 18 rfl) rfl rfl rfl ?_
      refine sk_S.goto (tgt := 4) (dd DX5_seasThatFit 19 rfl) (by decide) ?_
      exact sk_S.L (lq_fit hs hn hsq hl hl24 hR hG m (j + 1) _ _ (by omega) (ho.tr og)) (by rw [nI_succ]; rfl)
set_option maxRecDepth 100000 in
set_option maxHeartbeats 1000000 in
theorem cT_fit {l : Launch} {E : sk_V} {d : Nat} {h : sk_M} {g : Nat → Int32} {s n : Nat} (hs : sk_e s = (1, 4, 3, [some n])) (hn : sk_e n = (0, 0, 24, [])) (hsq : s ≠ 34 ∧ s ≠ 35) {len : Nat} (hl : h s 2 = nI len) (hl24 : len ≤ 24) (hR : RQ 1 18 h g) (hG : RG g) : sk_K l E (d + 7) MX5_seasThatFit [.ref 1, .ref s] h (fun r h1 => sk_o [34, 35] h h1 ∧ (∃ v : Int32, some (.int v) = r)) := by
  refine sk_K.of (by decide +kernel) (Nat.le_of_ble_eq_true rfl) ?_
  show sk_S l E (d + 7) _ 0 [some (.ref 1), some (.ref s), none, none] [] h _
  refine sk_S.iconst (v := 0) (dd DX5_seasThatFit 0 rfl) (by decide) ?_
  refine sk_S.istore_n (i := 2) (dd DX5_seasThatFit 1 rfl) rfl (Nat.le_of_ble_eq_true rfl) rfl ?_
  refine sk_S.iconst (v := 0) (dd DX5_seasThatFit 2 rfl) (by decide) ?_
  refine sk_S.istore_n (i := 3) (dd DX5_seasThatFit 3 rfl) rfl (Nat.le_of_ble_eq_true rfl) rfl ?_
  exact lq_fit hs hn hsq hl hl24 hR hG 10 0 h _ rfl sk_o.rf
end C5
