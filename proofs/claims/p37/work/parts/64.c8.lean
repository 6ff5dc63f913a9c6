section C8
set_option maxRecDepth 100000 in
set_option maxHeartbeats 1000000 in
theorem cC_lay {l : Launch} {E : sk_V} {d : Nat} {h : sk_M} {s n : Nat} (hs : sk_e s = (1, 4, 3, [some n])) (hn : sk_e n = (0, 0, 24, [])) {x y : Int32}  : sk_K l E (d + 1) MX4_lay [.ref s, .int x, .int y] h (fun r h1 => sk_r (sk_u (sk_u h s 1 x) s 2 y) n (filN ((sk_u (sk_u h s 1 x) s 2 y) n) 24 0) = h1 ∧ none = r) := by
  refine sk_K.of (by decide +kernel) (Nat.le_of_ble_eq_true rfl) ?_
  show sk_S l E (d + 1) _ 0 [some (.ref s), some (.int x), some (.int y)] [] h _
  refine sk_S.aload_n (i := 0) (dd DX4_lay 0 rfl) rfl rfl ?_
  refine sk_S.iload_n (i := 1) (dd DX4_lay 1 rfl) rfl rfl ?_
  refine sk_S.putf (dd DX4_lay 2 rfl) rfl pX4_15 hs (by decide) rfl rfl rfl ?_
  refine sk_S.aload_n (i := 0) (dd DX4_lay 3 rfl) rfl rfl ?_
  refine sk_S.iload_n (i := 2) (dd DX4_lay 4 rfl) rfl rfl ?_
  refine sk_S.putf (dd DX4_lay 5 rfl) rfl pX4_19 hs (by decide) rfl rfl rfl ?_
  refine sk_S.aload_n (i := 0) (dd DX4_lay 6 rfl) rfl rfl ?_
  refine sk_S.getr (dd DX4_lay 7 rfl) rfl fX4_9 hs (by decide) rfl ?_
  refine sk_S.iconst (v := 0) (dd DX4_lay 8 rfl) (by decide) ?_
  refine sk_S.callS (dd DX4_lay 9 rfl) rfl kX4_22 (cJ_fill24 hn) rfl rfl rfl (Nat.le_of_ble_eq_true rfl) (fun r15 h15 q15 => ?_)
  obtain ⟨rfl, rfl⟩ := q15
  show sk_S _ _ _ _ 18 _ _ _ _
  refine sk_S.vret (dd DX4_lay 10 rfl) rfl ?_
  exact ⟨rfl, rfl⟩
set_option maxRecDepth 100000 in
set_option maxHeartbeats 1000000 in
theorem cC_has {l : Launch} {E : sk_V} {d : Nat} {h : sk_M} {s n : Nat} (hs : sk_e s = (1, 4, 3, [some n])) {x y : Int32}  : sk_K l E (d + 0) MX4_has [.ref s, .int x, .int y] h (fun r h1 => h = h1 ∧ some (.int (bi (¬ x < 0 ∧ ¬ y < 0 ∧ ¬ h s 2 < y ∧ ¬ h s 2 - y < x))) = r) := by
  refine sk_K.of (by decide +kernel) (Nat.le_of_ble_eq_true rfl) ?_
  show sk_S l E (d + 0) _ 0 [some (.ref s), some (.int x), some (.int y)] [] h _
  refine sk_S.iload_n (i := 1) (dd DX4_has 0 rfl) rfl rfl ?_
  refine sk_S.if_lt (tgt := 30) (dd DX4_has 1 rfl) (by decide) (fun c1 => ?_) (fun c1 => ?_)
  · refine sk_S.iconst (v := 0) (dd DX4_has 16 rfl) (by decide) ?_
    refine sk_S.iret (dd DX4_has 17 rfl) rfl rfl ?_
    refine ⟨rfl, ?_⟩
    unfold bi
    simp only [Int32.lt_iff_toInt_lt, Int32.le_iff_toInt_le] at *
    split <;> first | rfl | (exfalso; omega)
  · refine sk_S.iload_n (i := 2) (dd DX4_has 2 rfl) rfl rfl ?_
    refine sk_S.if_lt (tgt := 30) (dd DX4_has 3 rfl) (by decide) (fun c5 => ?_) (fun c5 => ?_)
    · refine sk_S.iconst (v := 0) (dd DX4_has 16 rfl) (by decide) ?_
      refine sk_S.iret (dd DX4_has 17 rfl) rfl rfl ?_
      refine ⟨rfl, ?_⟩
      unfold bi
      simp only [Int32.lt_iff_toInt_lt, Int32.le_iff_toInt_le] at *
      split <;> first | rfl | (exfalso; omega)
    · refine sk_S.iload_n (i := 2) (dd DX4_has 4 rfl) rfl rfl ?_
      refine sk_S.aload_n (i := 0) (dd DX4_has 5 rfl) rfl rfl ?_
      refine sk_S.geti (dd DX4_has 6 rfl) rfl fX4_19 hs (by decide) rfl ?_
      refine sk_S.icmp_gt (tgt := 30) (dd DX4_has 7 rfl) (by decide) (fun c13 => ?_) (fun c13 => ?_)
      · refine sk_S.iconst (v := 0) (dd DX4_has 16 rfl) (by decide) ?_
        refine sk_S.iret (dd DX4_has 17 rfl) rfl rfl ?_
        refine ⟨rfl, ?_⟩
        unfold bi
        simp only [Int32.lt_iff_toInt_lt, Int32.le_iff_toInt_le] at *
        split <;> first | rfl | (exfalso; omega)
      · refine sk_S.iload_n (i := 1) (dd DX4_has 8 rfl) rfl rfl ?_
        refine sk_S.aload_n (i := 0) (dd DX4_has 9 rfl) rfl rfl ?_
        refine sk_S.geti (dd DX4_has 10 rfl) rfl fX4_19 hs (by decide) rfl ?_
        refine sk_S.iload_n (i := 2) (dd DX4_has 11 rfl) rfl rfl ?_
        refine sk_S.isub (dd DX4_has 12 rfl) ?_
        refine sk_S.icmp_gt (tgt := 30) (dd DX4_has 13 rfl) (by decide) (fun c23 => ?_) (fun c23 => ?_)
        · refine sk_S.iconst (v := 0) (dd DX4_has 16 rfl) (by decide) ?_
          refine sk_S.iret (dd DX4_has 17 rfl) rfl rfl ?_
          refine ⟨rfl, ?_⟩
          unfold bi
          simp only [Int32.lt_iff_toInt_lt, Int32.le_iff_toInt_le] at *
          split <;> first | rfl | (exfalso; omega)
        · refine sk_S.iconst (v := 1) (dd DX4_has 14 rfl) (by decide) ?_
          refine sk_S.goto (tgt := 31) (dd DX4_has 15 rfl) (by decide) ?_
          refine sk_S.iret (dd DX4_has 17 rfl) rfl rfl ?_
          refine ⟨rfl, ?_⟩
          unfold bi
          simp only [Int32.lt_iff_toInt_lt, Int32.le_iff_toInt_le] at *
          split <;> first | rfl | (exfalso; omega)
set_option maxRecDepth 100000 in
set_option maxHeartbeats 1000000 in
theorem cC_take {l : Launch} {E : sk_V} {d : Nat} {h : sk_M} {lo co qo fr : Nat} (hlo : sk_e lo = (1, 1, 4, [some co, some qo])) (hco : sk_e co = (0, 0, 60, [])) (hfr : sk_e fr = (0, 0, 60, [])) (hlc : lo ≠ co) (hlf : fr ≠ lo) {x : Int32} {w : Nat} (hw : heldV x 0 60 = nI w) (hw60 : w ≤ 60) : sk_K l E (d + 2) MX1_take [.ref lo, .ref fr, .int x] h (fun r h1 => tkM h lo co fr w 1 = h1 ∧ none = r) := by
  refine sk_K.of (by decide +kernel) (Nat.le_of_ble_eq_true rfl) ?_
  show sk_S l E (d + 2) _ 0 [some (.ref lo), some (.ref fr), some (.int x)] [] h _
  refine sk_S.aload_n (i := 0) (dd DX1_take 0 rfl) rfl rfl ?_
  refine sk_S.iload_n (i := 2) (dd DX1_take 1 rfl) rfl rfl ?_
  refine sk_S.iconst (v := 0) (dd DX1_take 2 rfl) (by decide) ?_
  refine sk_S.bipush (v := 60) (dd DX1_take 3 rfl) (by decide) ?_
  refine sk_S.aload_n (i := 1) (dd DX1_take 4 rfl) rfl rfl ?_
  refine sk_S.alen (v := 60) (t := 0) (dd DX1_take 5 rfl) hfr (by decide) (by decide) ?_
  refine sk_S.mmin (dd DX1_take 6 rfl) rfl blX1_18 mm_min_s mm_i mm_min_c rfl (Nat.le_of_ble_eq_true rfl) ?_
  refine sk_S.V 60 (by decide) ?_
  refine sk_S.callS (dd DX1_take 7 rfl) rfl kX1_24 (cC_held (by decide)) rfl rfl rfl (Nat.le_of_ble_eq_true rfl) (fun r10 h10 q10 => ?_)
  obtain ⟨rfl, rfl⟩ := q10
  show sk_S _ _ _ _ _ _ (.int _ :: _) _ _
  refine sk_S.V (nI w) hw ?_
  refine sk_S.putf (dd DX1_take 8 rfl) rfl pX1_28 hlo (by decide) rfl rfl rfl ?_
  refine sk_S.aload_n (i := 1) (dd DX1_take 9 rfl) rfl rfl ?_
  refine sk_S.iconst (v := 0) (dd DX1_take 10 rfl) (by decide) ?_
  refine sk_S.aload_n (i := 0) (dd DX1_take 11 rfl) rfl rfl ?_
  refine sk_S.getr (dd DX1_take 12 rfl) rfl fX1_9 hlo (by decide) rfl ?_
  refine sk_S.iconst (v := 0) (dd DX1_take 13 rfl) (by decide) ?_
  refine sk_S.aload_n (i := 0) (dd DX1_take 14 rfl) rfl rfl ?_
  refine sk_S.geti (dd DX1_take 15 rfl) rfl fX1_28 hlo (by decide) rfl ?_
  refine sk_S.V (nI w) (by rw [sk_u_at, if_pos rfl, if_pos rfl]) ?_
  refine sk_S.acopy (dd DX1_take 16 rfl) rfl blX1_32 ac_n ac_s ac_i rfl (Nat.le_of_ble_eq_true rfl) hfr hco (by decide) (by decide) (sn := 0) (dn := 0) (nn := w) (by decide) (by decide) (nI_pos (by omega)) rfl rfl (nI_clamp (by omega)) (by omega) (by omega) ?_
  refine sk_S.aload_n (i := 0) (dd DX1_take 17 rfl) rfl rfl ?_
  refine sk_S.iconst (v := 1) (dd DX1_take 18 rfl) (by decide) ?_
  refine sk_S.putf (dd DX1_take 19 rfl) rfl pX1_38 hlo (by decide) rfl rfl rfl ?_
  refine sk_S.vret (dd DX1_take 20 rfl) rfl ?_
  refine ⟨?_, rfl⟩
  unfold tkM
  rw [cpy_0]
  have e1 : sk_u h lo 2 (nI w) fr = h fr := sk_r_ne _ _ hlf
  have e2 : sk_u h lo 2 (nI w) co = h co := sk_r_ne _ _ (Ne.symm hlc)
  rw [e1, e2]
set_option maxRecDepth 100000 in
set_option maxHeartbeats 1000000 in
theorem cC_lawFrom {l : Launch} {E : sk_V} {d : Nat} {h : sk_M} {lp qp : Nat} {lo co qo fr : Nat} (hlo : sk_e lo = (1, 1, 4, [some co, some qo])) (hco : sk_e co = (0, 0, 60, [])) (hfr : sk_e fr = (0, 0, 60, [])) (hlc : lo ≠ co) (hlf : fr ≠ lo) (hlp : sk_e lp = (1, 1, 4, [some fr, some qp])) (hpl : lp ≠ lo) (hpc : lp ≠ co) (hz : h lp 3 = 0 ∨ h lp 3 = 1) : sk_K l E (d + 3) MX1_takeFrom [.ref lo, .ref lp] h (fun r h1 => sk_o [lo, co] h h1 ∧ (∀ (g : Nat → Int32) (u : Nat), laN g u ≤ 60 → lawC h lp fr g u → lawC h1 lo co g u) ∧ none = r) := by
  refine sk_K.of (by decide +kernel) (Nat.le_of_ble_eq_true rfl) ?_
  show sk_S l E (d + 3) _ 0 [some (.ref lo), some (.ref lp)] [] h _
  obtain ⟨w, hw60, hw⟩ := held_60 (x := h lp 2)
  refine sk_S.aload_n (i := 0) (dd DX1_takeFrom 0 rfl) rfl rfl ?_
  refine sk_S.aload_n (i := 1) (dd DX1_takeFrom 1 rfl) rfl rfl ?_
  refine sk_S.getr (dd DX1_takeFrom 2 rfl) rfl fX1_9 hlp (by decide) rfl ?_
  refine sk_S.aload_n (i := 1) (dd DX1_takeFrom 3 rfl) rfl rfl ?_
  refine sk_S.geti (dd DX1_takeFrom 4 rfl) rfl fX1_28 hlp (by decide) rfl ?_
  refine sk_S.callV (dd DX1_takeFrom 5 rfl) rfl kX1_42 (cC_take hlo hco hfr hlc hlf hw hw60) hlo (by decide) rfl rfl rfl rfl (Nat.le_of_ble_eq_true rfl) (fun r9 h9 q9 => ?_)
  obtain ⟨rfl, rfl⟩ := q9
  show sk_S _ _ _ _ 12 _ _ _ _
  refine sk_S.aload_n (i := 0) (dd DX1_takeFrom 6 rfl) rfl rfl ?_
  have hz2 : tkM h lo co fr w 1 lp 3 = 0 ∨ tkM h lo co fr w 1 lp 3 = 1 := by rw [tkM_o lp (by simp [hpl, hpc])]; exact hz
  refine sk_S.aload_n (i := 1) (dd DX1_takeFrom 7 rfl) rfl rfl ?_
  refine sk_S.geti (dd DX1_takeFrom 8 rfl) rfl fX1_38 hlp (by decide) rfl ?_
  refine sk_S.putf (dd DX1_takeFrom 9 rfl) rfl pX1_38 hlo (by decide) rfl (by rcases hz2 with e | e <;> rw [e] <;> rfl) (by rcases hz2 with e | e <;> rw [e] <;> rfl) ?_
  refine sk_S.vret (dd DX1_takeFrom 10 rfl) rfl ?_
  have o1 : sk_o [lo, co] h (tkM h lo co fr w 1) := tkM_o
  have ep : tkM h lo co fr w 1 lp = h lp := o1 lp (by simp [hpl, hpc])
  refine ⟨o1.u (by simp), fun g u hn hC => ?_, rfl⟩
  refine ⟨?_, fun h0 => ?_, fun k hk => ?_⟩
  · rw [sk_u_at, if_pos rfl, if_pos rfl, ep]
    exact hC.1
  · rw [sk_u_at, if_pos rfl, if_neg (by decide), tkM_2 hlc, ← hw, hC.2.1 h0, held_id hn]
  · have hk0 : 0 < laN g u := by omega
    have ew : w = laN g u := by
      rw [hC.2.1 hk0, held_id hn] at hw
      exact (nI_inj (by omega) (by omega) hw).symm
    rw [sk_u_at, if_neg (Ne.symm hlc), tkM_c hlc (by omega)]
    exact hC.2.2 k hk
set_option maxRecDepth 100000 in
set_option maxHeartbeats 1000000 in
theorem qf_ea {l : Launch} {E : sk_V} {d : Nat} {k : sk_M} {x : Option Value} : sk_S l E (d + 0) MX2_takeFrom 115 [some (.ref 1), some (.ref 2), x] [] k (fun r h1 => sk_o [1] k h1 ∧ (∀ i, 6 ≤ i → i < 15 → h1 1 i = k 2 i) ∧ none = r) := by
  refine sk_S.aload_n (i := 0) (dd DX2_takeFrom_p1 64 rfl) rfl rfl ?_
  refine sk_S.aload_n (i := 1) (dd DX2_takeFrom_p1 65 rfl) rfl rfl ?_
  refine sk_S.geti (dd DX2_takeFrom_p1 66 rfl) rfl fX2_64 se_2 (by decide) rfl ?_
  refine sk_S.putf (dd DX2_takeFrom_p1 67 rfl) rfl pX2_64 se_1 (by decide) rfl rfl rfl ?_
  refine sk_S.aload_n (i := 0) (dd DX2_takeFrom_p1 68 rfl) rfl rfl ?_
  refine sk_S.aload_n (i := 1) (dd DX2_takeFrom_p1 69 rfl) rfl rfl ?_
  refine sk_S.geti (dd DX2_takeFrom_p1 70 rfl) rfl fX2_67 se_2 (by decide) rfl ?_
  refine sk_S.putf (dd DX2_takeFrom_p1 71 rfl) rfl pX2_67 se_1 (by decide) rfl rfl rfl ?_
  refine sk_S.aload_n (i := 0) (dd DX2_takeFrom_p1 72 rfl) rfl rfl ?_
  refine sk_S.aload_n (i := 1) (dd DX2_takeFrom_p1 73 rfl) rfl rfl ?_
  refine sk_S.geti (dd DX2_takeFrom_p1 74 rfl) rfl fX2_70 se_2 (by decide) rfl ?_
  refine sk_S.putf (dd DX2_takeFrom_p1 75 rfl) rfl pX2_70 se_1 (by decide) rfl rfl rfl ?_
  refine sk_S.aload_n (i := 0) (dd DX2_takeFrom_p1 76 rfl) rfl rfl ?_
  refine sk_S.aload_n (i := 1) (dd DX2_takeFrom_p1 77 rfl) rfl rfl ?_
  refine sk_S.geti (dd DX2_takeFrom_p1 78 rfl) rfl fX2_73 se_2 (by decide) rfl ?_
  refine sk_S.putf (dd DX2_takeFrom_p1 79 rfl) rfl pX2_73 se_1 (by decide) rfl rfl rfl ?_
  refine sk_S.aload_n (i := 0) (dd DX2_takeFrom_p1 80 rfl) rfl rfl ?_
  refine sk_S.aload_n (i := 1) (dd DX2_takeFrom_p1 81 rfl) rfl rfl ?_
  refine sk_S.geti (dd DX2_takeFrom_p1 82 rfl) rfl fX2_76 se_2 (by decide) rfl ?_
  refine sk_S.putf (dd DX2_takeFrom_p1 83 rfl) rfl pX2_76 se_1 (by decide) rfl rfl rfl ?_
  refine sk_S.aload_n (i := 0) (dd DX2_takeFrom_p1 84 rfl) rfl rfl ?_
  refine sk_S.aload_n (i := 1) (dd DX2_takeFrom_p1 85 rfl) rfl rfl ?_
  refine sk_S.geti (dd DX2_takeFrom_p1 86 rfl) rfl fX2_36 se_2 (by decide) rfl ?_
  refine sk_S.putf (dd DX2_takeFrom_p1 87 rfl) rfl pX2_36 se_1 (by decide) rfl rfl rfl ?_
  refine sk_S.aload_n (i := 0) (dd DX2_takeFrom_p1 88 rfl) rfl rfl ?_
  refine sk_S.aload_n (i := 1) (dd DX2_takeFrom_p1 89 rfl) rfl rfl ?_
  refine sk_S.geti (dd DX2_takeFrom_p1 90 rfl) rfl fX2_79 se_2 (by decide) rfl ?_
  refine sk_S.putf (dd DX2_takeFrom_p1 91 rfl) rfl pX2_79 se_1 (by decide) rfl rfl rfl ?_
  refine sk_S.aload_n (i := 0) (dd DX2_takeFrom_p1 92 rfl) rfl rfl ?_
  refine sk_S.aload_n (i := 1) (dd DX2_takeFrom_p1 93 rfl) rfl rfl ?_
  refine sk_S.geti (dd DX2_takeFrom_p1 94 rfl) rfl fX2_82 se_2 (by decide) rfl ?_
  refine sk_S.putf (dd DX2_takeFrom_p1 95 rfl) rfl pX2_82 se_1 (by decide) rfl rfl rfl ?_
  refine sk_S.aload_n (i := 0) (dd DX2_takeFrom_p1 96 rfl) rfl rfl ?_
  refine sk_S.aload_n (i := 1) (dd DX2_takeFrom_p1 97 rfl) rfl rfl ?_
  refine sk_S.geti (dd DX2_takeFrom_p1 98 rfl) rfl fX2_40 se_2 (by decide) rfl ?_
  refine sk_S.putf (dd DX2_takeFrom_p1 99 rfl) rfl pX2_40 se_1 (by decide) rfl rfl rfl ?_
  refine sk_S.vret (dd DX2_takeFrom_p2 0 rfl) rfl ?_
  refine ⟨((((((((sk_o.rf.u (by decide)).u (by decide)).u (by decide)).u (by decide)).u (by decide)).u (by decide)).u (by decide)).u (by decide)).u (by decide), fun i h1 h2 => ?_, rfl⟩
  rcases (by omega : i = 6 ∨ i = 7 ∨ i = 8 ∨ i = 9 ∨ i = 10 ∨ i = 11 ∨ i = 12 ∨ i = 13 ∨ i = 14) with rfl | rfl | rfl | rfl | rfl | rfl | rfl | rfl | rfl <;> simp [sk_u_at]
set_option maxRecDepth 100000 in
set_option maxHeartbeats 1000000 in
theorem qf_2a {l : Launch} {E : sk_V} {d : Nat} {k k1 : sk_M} (o1 : sk_o [31, 33] k k1) (l1 : ∀ (g : Nat → Int32) (u : Nat), laN g u ≤ 60 → lawC k 49 51 g u → lawC k1 31 33 g u) : sk_S l E (d + 4) MX2_takeFrom 89 [some (.ref 1), some (.ref 2), some (.int 2)] [] k1 (fun r h1 => sk_o [1, 31, 33] k h1 ∧ (∀ i, 6 ≤ i → i < 15 → h1 1 i = k 2 i) ∧ (∀ g : Nat → Int32, laN g 1 ≤ 60 → lawC k 49 51 g 1 → lawC h1 31 33 g 1) ∧ none = r) := by
  refine sk_S.iload_n (i := 2) (dd DX2_takeFrom_p1 50 rfl) rfl rfl ?_
  refine sk_S.iconst (v := 2) (dd DX2_takeFrom_p1 51 rfl) (by decide) ?_
  refine sk_S.icmp_ge (tgt := 115) (dd DX2_takeFrom_p1 52 rfl) (by decide) (fun c91 => ?_) (fun c91 => absurd (by decide) c91)
  refine sk_S.mono (qf_ea (d := d + 4)) (fun r h1 z => ?_)
  obtain ⟨z1, z2, z3⟩ := z
  refine ⟨(o1.more (by decide)).tr (z1.more (by decide)), fun i a c => (z2 i a c).trans (by rw [o1 2 (by decide)]), fun g hn hC => (l1 g 1 hn hC).o (z1 31 (by decide)) (z1 33 (by decide)), z3⟩
set_option maxRecDepth 100000 in
set_option maxHeartbeats 1000000 in
theorem qf_1a {l : Launch} {E : sk_V} {d : Nat} {k : sk_M} (z1 : k 49 3 = 0 ∨ k 49 3 = 1) : sk_S l E (d + 4) MX2_takeFrom 89 [some (.ref 1), some (.ref 2), some (.int 1)] [] k (fun r h1 => sk_o [1, 31, 33] k h1 ∧ (∀ i, 6 ≤ i → i < 15 → h1 1 i = k 2 i) ∧ (∀ g : Nat → Int32, laN g 1 ≤ 60 → lawC k 49 51 g 1 → lawC h1 31 33 g 1) ∧ none = r) := by
  refine sk_S.iload_n (i := 2) (dd DX2_takeFrom_p1 50 rfl) rfl rfl ?_
  refine sk_S.iconst (v := 2) (dd DX2_takeFrom_p1 51 rfl) (by decide) ?_
  refine sk_S.icmp_ge (tgt := 115) (dd DX2_takeFrom_p1 52 rfl) (by decide) (fun c91 => absurd c91 (by decide)) (fun c91 => ?_)
  refine sk_S.aload_n (i := 0) (dd DX2_takeFrom_p1 53 rfl) rfl rfl ?_
  refine sk_S.getr (dd DX2_takeFrom_p1 54 rfl) rfl fX2_26 se_1 (by decide) rfl ?_
  refine sk_S.iload_n (i := 2) (dd DX2_takeFrom_p1 55 rfl) rfl rfl ?_
  refine sk_S.aald (dd DX2_takeFrom_p1 56 rfl) se_21 rfl (j := 1) ⟨by decide, by decide, by decide⟩ rfl ?_
  refine sk_S.aload_n (i := 1) (dd DX2_takeFrom_p1 57 rfl) rfl rfl ?_
  refine sk_S.getr (dd DX2_takeFrom_p1 58 rfl) rfl fX2_26 se_2 (by decide) rfl ?_
  refine sk_S.iload_n (i := 2) (dd DX2_takeFrom_p1 59 rfl) rfl rfl ?_
  refine sk_S.aald (dd DX2_takeFrom_p1 60 rfl) se_39 rfl (j := 1) ⟨by decide, by decide, by decide⟩ rfl ?_
  refine sk_S.callV (dd DX2_takeFrom_p1 61 rfl) rfl kX2_61 (cC_lawFrom se_31 se_33 se_51 (by decide) (by decide) se_49 (by decide) (by decide) z1) se_31 (by decide) rfl rfl rfl rfl (Nat.le_of_ble_eq_true rfl) (fun r106 h106 q106 => ?_)
  obtain ⟨o106, l106, rfl⟩ := q106
  show sk_S _ _ _ _ 109 _ _ _ _
  refine sk_S.iinc (i := 2) (v := _ + 1) (dd DX2_takeFrom_p1 62 rfl) rfl rfl rfl ?_
  refine sk_S.goto (tgt := 89) (dd DX2_takeFrom_p1 63 rfl) (by decide) ?_
  rw [show (1 : Int32) + 1 = 2 from rfl]
  exact qf_2a o106 l106
set_option maxRecDepth 100000 in
set_option maxHeartbeats 1000000 in
theorem qf_0a {l : Launch} {E : sk_V} {d : Nat} {k : sk_M} (z0 : k 48 3 = 0 ∨ k 48 3 = 1) (z1 : k 49 3 = 0 ∨ k 49 3 = 1) : sk_S l E (d + 4) MX2_takeFrom 89 [some (.ref 1), some (.ref 2), some (.int 0)] [] k (fun r h1 => sk_o [1, 30, 32, 31, 33] k h1 ∧ (∀ i, 6 ≤ i → i < 15 → h1 1 i = k 2 i) ∧ (∀ g : Nat → Int32, laN g 0 ≤ 60 → laN g 1 ≤ 60 → lawC k 48 50 g 0 → lawC k 49 51 g 1 → lawC h1 30 32 g 0 ∧ lawC h1 31 33 g 1) ∧ none = r) := by
  refine sk_S.iload_n (i := 2) (dd DX2_takeFrom_p1 50 rfl) rfl rfl ?_
  refine sk_S.iconst (v := 2) (dd DX2_takeFrom_p1 51 rfl) (by decide) ?_
  refine sk_S.icmp_ge (tgt := 115) (dd DX2_takeFrom_p1 52 rfl) (by decide) (fun c91 => absurd c91 (by decide)) (fun c91 => ?_)
  refine sk_S.aload_n (i := 0) (dd DX2_takeFrom_p1 53 rfl) rfl rfl ?_
  refine sk_S.getr (dd DX2_takeFrom_p1 54 rfl) rfl fX2_26 se_1 (by decide) rfl ?_
  refine sk_S.iload_n (i := 2) (dd DX2_takeFrom_p1 55 rfl) rfl rfl ?_
  refine sk_S.aald (dd DX2_takeFrom_p1 56 rfl) se_21 rfl (j := 0) ⟨by decide, by decide, by decide⟩ rfl ?_
  refine sk_S.aload_n (i := 1) (dd DX2_takeFrom_p1 57 rfl) rfl rfl ?_
  refine sk_S.getr (dd DX2_takeFrom_p1 58 rfl) rfl fX2_26 se_2 (by decide) rfl ?_
  refine sk_S.iload_n (i := 2) (dd DX2_takeFrom_p1 59 rfl) rfl rfl ?_
  refine sk_S.aald (dd DX2_takeFrom_p1 60 rfl) se_39 rfl (j := 0) ⟨by decide, by decide, by decide⟩ rfl ?_
  refine sk_S.callV (dd DX2_takeFrom_p1 61 rfl) rfl kX2_61 (cC_lawFrom se_30 se_32 se_50 (by decide) (by decide) se_48 (by decide) (by decide) z0) se_30 (by decide) rfl rfl rfl rfl (Nat.le_of_ble_eq_true rfl) (fun r106 h106 q106 => ?_)
  obtain ⟨o106, l106, rfl⟩ := q106
  show sk_S _ _ _ _ 109 _ _ _ _
  refine sk_S.iinc (i := 2) (v := _ + 1) (dd DX2_takeFrom_p1 62 rfl) rfl rfl rfl ?_
  refine sk_S.goto (tgt := 89) (dd DX2_takeFrom_p1 63 rfl) (by decide) ?_
  rw [show (0 : Int32) + 1 = 1 from rfl]
  refine sk_S.mono (qf_1a (by rw [o106 49 (by decide)]; exact z1)) (fun r h1 z => ?_)
  obtain ⟨z1, z2, z3, z4⟩ := z
  refine ⟨(o106.more (by decide)).tr (z1.more (by decide)), fun i a c => (z2 i a c).trans (by rw [o106 2 (by decide)]), fun g n0 n1 c0 c1 => ⟨(l106 g 0 n0 c0).o (z1 30 (by decide)) (z1 32 (by decide)), z3 g n1 (c1.o (o106 49 (by decide)) (o106 51 (by decide)))⟩, z4⟩
theorem bt_mema {j : Nat} (hj : j < 6) : 24 + j ∈ ([24, 25, 26, 27, 28, 29] : List Nat) := by
  rcases (by omega : j = 0 ∨ j = 1 ∨ j = 2 ∨ j = 3 ∨ j = 4 ∨ j = 5) with rfl | rfl | rfl | rfl | rfl | rfl <;> decide
theorem bt_noma {j : Nat} (hj : j < 6) : 42 + j ∉ ([24, 25, 26, 27, 28, 29] : List Nat) := by
  rcases (by omega : j = 0 ∨ j = 1 ∨ j = 2 ∨ j = 3 ∨ j = 4 ∨ j = 5) with rfl | rfl | rfl | rfl | rfl | rfl <;> decide
set_option maxRecDepth 100000 in
set_option maxHeartbeats 1000000 in
theorem qf_ba {l : Launch} {E : sk_V} {d : Nat} {h : sk_M} {Q : Option Value → sk_M → Prop} (kk : ∀ f2 : sk_M, sk_o [24, 25, 26, 27, 28, 29] h f2 → (∀ i w, i < 6 → w < 3 → f2 (24 + i) w = h (42 + i) w) → sk_S l E (d + 4) MX2_takeFrom 87 [some (.ref 1), some (.ref 2), some (.int (nI 6))] [] f2 Q) : ∀ (m j : Nat) (k : sk_M), j + m = 6 → sk_o [24, 25, 26, 27, 28, 29] h k → (∀ i w, i < j → w < 3 → k (24 + i) w = h (42 + i) w) → sk_S l E (d + 4) MX2_takeFrom 60 [some (.ref 1), some (.ref 2), some (.int (nI j))] [] k Q
  | 0, j, k, hj, ho, hb => by
    have e : j = 6 := by omega
    subst e
    refine sk_S.iload_n (i := 2) (dd DX2_takeFrom_p1 34 rfl) rfl rfl ?_
    refine sk_S.bipush (v := 6) (dd DX2_takeFrom_p1 35 rfl) (by decide) ?_
    refine sk_S.icmp_ge (tgt := 87) (dd DX2_takeFrom_p1 36 rfl) (by decide) (fun c63 => ?_) (fun c63 => absurd (by decide) c63)
    exact kk k ho hb
  | m + 1, j, k, hj, ho, hb => by
    have hj : j < 6 := by omega
    refine sk_S.iload_n (i := 2) (dd DX2_takeFrom_p1 34 rfl) rfl rfl ?_
    refine sk_S.bipush (v := 6) (dd DX2_takeFrom_p1 35 rfl) (by decide) ?_
    refine sk_S.icmp_ge (tgt := 87) (dd DX2_takeFrom_p1 36 rfl) (by decide) (fun c63 => absurd c63 (by exact nI_ge (b := 6) (by omega) (by decide))) (fun c63 => ?_)
    refine sk_S.aload_n (i := 0) (dd DX2_takeFrom_p1 37 rfl) rfl rfl ?_
    refine sk_S.getr (dd DX2_takeFrom_p1 38 rfl) rfl fX2_20 se_1 (by decide) rfl ?_
    refine sk_S.iload_n (i := 2) (dd DX2_takeFrom_p1 39 rfl) rfl rfl ?_
    refine sk_S.aald (dd DX2_takeFrom_p1 40 rfl) se_20 rfl (sk_ix_nI (k := j) rfl hj (by decide)) (rf_fleet hj) ?_
    refine sk_S.aload_n (i := 1) (dd DX2_takeFrom_p1 41 rfl) rfl rfl ?_
    refine sk_S.getr (dd DX2_takeFrom_p1 42 rfl) rfl fX2_20 se_2 (by decide) rfl ?_
    refine sk_S.iload_n (i := 2) (dd DX2_takeFrom_p1 43 rfl) rfl rfl ?_
    refine sk_S.aald (dd DX2_takeFrom_p1 44 rfl) se_38 rfl (sk_ix_nI (k := j) rfl hj (by decide)) (rf_fleet2 hj) ?_
    refine sk_S.callV (dd DX2_takeFrom_p1 45 rfl) rfl kX2_57 (cC_boatFrom (se_bt hj) (se_bt2 hj) (by omega)) (se_bt hj) (by decide) rfl rfl rfl rfl (Nat.le_of_ble_eq_true rfl) (fun r78 h78 q78 => ?_)
    obtain ⟨rfl, rfl⟩ := q78
    show sk_S _ _ _ _ 81 _ _ _ _
    refine sk_S.iinc (i := 2) (v := _ + 1) (dd DX2_takeFrom_p1 46 rfl) rfl rfl rfl ?_
    refine sk_S.goto (tgt := 60) (dd DX2_takeFrom_p1 47 rfl) (by decide) ?_
    have hne : ∀ i, i < 6 → 42 + i ≠ 24 + j := fun i hi => by omega
    have ob : sk_o [24, 25, 26, 27, 28, 29] k (sk_u (sk_u (sk_u k (24 + j) 0 (k (42 + j) 0)) (24 + j) 1 (k (42 + j) 1)) (24 + j) 2 (k (42 + j) 2)) := ((sk_o.rf.u (bt_mema hj)).u (bt_mema hj)).u (bt_mema hj)
    refine sk_S.L (qf_ba kk m (j + 1) _ (by omega) (ho.tr ob) (fun i w hi hw => ?_)) (by rw [nI_succ]; rfl)
    have e0 : ∀ w, k (42 + j) w = h (42 + j) w := fun w => by rw [ho (42 + j) (bt_noma hj)]
    by_cases c : i = j
    · subst c
      rcases (by omega : w = 0 ∨ w = 1 ∨ w = 2) with rfl | rfl | rfl
      · rw [sk_u_at, if_pos rfl, if_neg (by decide), sk_u_at, if_pos rfl, if_neg (by decide), sk_u_at, if_pos rfl, if_pos rfl, e0]
      · rw [sk_u_at, if_pos rfl, if_neg (by decide), sk_u_at, if_pos rfl, if_pos rfl, e0]
      · rw [sk_u_at, if_pos rfl, if_pos rfl, e0]
    · rw [sk_u_at, if_neg (by omega), sk_u_at, if_neg (by omega), sk_u_at, if_neg (by omega)]
      exact hb i w (by omega) hw
set_option maxRecDepth 100000 in
set_option maxHeartbeats 1000000 in
theorem qf_ta {l : Launch} {E : sk_V} {d : Nat} {h A f : sk_M} {x : Option Value} (z0 : h 48 3 = 0 ∨ h 48 3 = 1) (z1 : h 49 3 = 0 ∨ h 49 3 = 1) (oA : sk_o [18, 19, 22, 23] h A) (a1 : ∀ j, j < 4 → A 18 j = h 36 j) (a2 : ∀ j, j < 4 → A 19 j = h 37 j) (a3 : ∀ j, j < 60 → A 22 j = h 40 j) (a4 : ∀ j, j < 24 → A 23 j = h 41 j) (of : sk_o [24, 25, 26, 27, 28, 29] A f) (hb : ∀ i w, i < 6 → w < 3 → f (24 + i) w = A (42 + i) w) : sk_S l E (d + 4) MX2_takeFrom 87 [some (.ref 1), some (.ref 2), x] [] f (fun r h1 => sk_o [1, 18, 19, 22, 23, 24, 25, 26, 27, 28, 29, 30, 31, 32, 33] h h1 ∧ (∀ g : Nat → Int32, laN g 0 ≤ 60 → laN g 1 ≤ 60 → RQ 2 36 h g → RQ 1 18 h1 g) ∧ none = r) := by
  refine sk_S.iconst (v := 0) (dd DX2_takeFrom_p1 48 rfl) (by decide) ?_
  refine sk_S.istore_n (i := 2) (dd DX2_takeFrom_p1 49 rfl) rfl (Nat.le_of_ble_eq_true rfl) rfl ?_
  refine sk_S.mono (qf_0a (by rw [of 48 (by decide), oA 48 (by decide)]; exact z0) (by rw [of 49 (by decide), oA 49 (by decide)]; exact z1)) (fun r h1 z => ?_)
  obtain ⟨z1, z2, z3, z4⟩ := z
  have oAll : sk_o [1, 18, 19, 22, 23, 24, 25, 26, 27, 28, 29, 30, 31, 32, 33] h h1 := ((oA.more (by decide)).tr (of.more (by decide))).tr (z1.more (by decide))
  refine ⟨oAll, fun g n0 n1 H => ?_, z4⟩
  have oT : sk_o [18, 19, 22, 23, 24, 25, 26, 27, 28, 29] h f := (oA.more (by decide)).tr (of.more (by decide))
  obtain ⟨c0, c1⟩ := z3 g n0 n1 (H.2.1.o (oT 48 (by decide)) (oT 50 (by decide))) (H.2.2.o (oT 49 (by decide)) (oT 51 (by decide)))
  refine H.asm (fun i h1 h2 => ?_) (fun j hj => ?_) (fun j hj => ?_) (fun j hj => ?_) (fun j hj => ?_) (fun j w hj hw => ?_) c0 c1
  · rw [z2 i h1 h2, oT 2 (by decide)]
  · rw [z1 18 (by decide), of 18 (by decide), a1 j hj]
  · rw [z1 19 (by decide), of 19 (by decide), a2 j hj]
  · rw [z1 22 (by decide), of 22 (by decide), a3 j hj]
  · rw [z1 23 (by decide), of 23 (by decide), a4 j hj]
  · have e1 : h1 (18 + 6 + j) = f (24 + j) := z1 (24 + j) (by
      rcases (by omega : j = 0 ∨ j = 1 ∨ j = 2 ∨ j = 3 ∨ j = 4 ∨ j = 5) with rfl | rfl | rfl | rfl | rfl | rfl <;> decide)
    have e2 : A (42 + j) = h (36 + 6 + j) := oA (42 + j) (by
      rcases (by omega : j = 0 ∨ j = 1 ∨ j = 2 ∨ j = 3 ∨ j = 4 ∨ j = 5) with rfl | rfl | rfl | rfl | rfl | rfl <;> decide)
    rw [e1, hb j w hj hw, e2]
theorem qf_ma {l : Launch} {E : sk_V} {d : Nat}  {h A : sk_M} (z0 : h 48 3 = 0 ∨ h 48 3 = 1) (z1 : h 49 3 = 0 ∨ h 49 3 = 1) (oA : sk_o [18, 19, 22, 23] h A) (a1 : ∀ j, j < 4 → A 18 j = h 36 j) (a2 : ∀ j, j < 4 → A 19 j = h 37 j) (a3 : ∀ j, j < 60 → A 22 j = h 40 j) (a4 : ∀ j, j < 24 → A 23 j = h 41 j) : sk_S l E (d + 4) MX2_takeFrom 60 [some (.ref 1), some (.ref 2), some (.int (nI 0))] [] A (fun r h1 => sk_o [1, 18, 19, 22, 23, 24, 25, 26, 27, 28, 29, 30, 31, 32, 33] h h1 ∧ (∀ g : Nat → Int32, laN g 0 ≤ 60 → laN g 1 ≤ 60 → RQ 2 36 h g → RQ 1 18 h1 g) ∧ none = r) :=
  qf_ba (fun f2 of hb => qf_ta z0 z1 oA a1 a2 a3 a4 of hb) 6 0 A (Nat.zero_add _) sk_o.rf (fun i w hi _ => absurd hi (Nat.not_lt_zero _))
set_option maxRecDepth 100000 in
set_option maxHeartbeats 1000000 in
theorem cQ_takeFrom_a {l : Launch} {E : sk_V} {d : Nat} {h : sk_M}  (z0 : h 48 3 = 0 ∨ h 48 3 = 1) (z1 : h 49 3 = 0 ∨ h 49 3 = 1)  : sk_K l E (d + 4) MX2_takeFrom [.ref 1, .ref 2] h (fun r h1 => sk_o [1, 18, 19, 22, 23, 24, 25, 26, 27, 28, 29, 30, 31, 32, 33] h h1 ∧ (∀ g : Nat → Int32, laN g 0 ≤ 60 → laN g 1 ≤ 60 → RQ 2 36 h g → RQ 1 18 h1 g) ∧ none = r) := by
  refine sk_K.of (by decide +kernel) (Nat.le_of_ble_eq_true rfl) ?_
  show sk_S l E (d + 4) _ 0 [some (.ref 1), some (.ref 2), none] [] h _
  refine sk_S.aload_n (i := 1) (dd DX2_takeFrom_p1 0 rfl) rfl rfl ?_
  refine sk_S.getr (dd DX2_takeFrom_p1 1 rfl) rfl fX2_9 se_2 (by decide) rfl ?_
  refine sk_S.iconst (v := 0) (dd DX2_takeFrom_p1 2 rfl) (by decide) ?_
  refine sk_S.aload_n (i := 0) (dd DX2_takeFrom_p1 3 rfl) rfl rfl ?_
  refine sk_S.getr (dd DX2_takeFrom_p1 4 rfl) rfl fX2_9 se_1 (by decide) rfl ?_
  refine sk_S.iconst (v := 0) (dd DX2_takeFrom_p1 5 rfl) (by decide) ?_
  refine sk_S.iconst (v := 4) (dd DX2_takeFrom_p1 6 rfl) (by decide) ?_
  refine sk_S.acopy (dd DX2_takeFrom_p1 7 rfl) rfl blX2_51 ac_n ac_s ac_i rfl (Nat.le_of_ble_eq_true rfl) se_36 se_18 (by decide) (by decide) (sn := 0) (dn := 0) (nn := 4) (by decide) (by decide) (by decide) rfl rfl rfl (by decide) (by decide) ?_
  refine sk_S.aload_n (i := 1) (dd DX2_takeFrom_p1 8 rfl) rfl rfl ?_
  refine sk_S.getr (dd DX2_takeFrom_p1 9 rfl) rfl fX2_15 se_2 (by decide) rfl ?_
  refine sk_S.iconst (v := 0) (dd DX2_takeFrom_p1 10 rfl) (by decide) ?_
  refine sk_S.aload_n (i := 0) (dd DX2_takeFrom_p1 11 rfl) rfl rfl ?_
  refine sk_S.getr (dd DX2_takeFrom_p1 12 rfl) rfl fX2_15 se_1 (by decide) rfl ?_
  refine sk_S.iconst (v := 0) (dd DX2_takeFrom_p1 13 rfl) (by decide) ?_
  refine sk_S.iconst (v := 4) (dd DX2_takeFrom_p1 14 rfl) (by decide) ?_
  refine sk_S.acopy (dd DX2_takeFrom_p1 15 rfl) rfl blX2_51 ac_n ac_s ac_i rfl (Nat.le_of_ble_eq_true rfl) se_37 se_19 (by decide) (by decide) (sn := 0) (dn := 0) (nn := 4) (by decide) (by decide) (by decide) rfl rfl rfl (by decide) (by decide) ?_
  refine sk_S.aload_n (i := 1) (dd DX2_takeFrom_p1 16 rfl) rfl rfl ?_
  refine sk_S.getr (dd DX2_takeFrom_p1 17 rfl) rfl fX2_30 se_2 (by decide) rfl ?_
  refine sk_S.iconst (v := 0) (dd DX2_takeFrom_p1 18 rfl) (by decide) ?_
  refine sk_S.aload_n (i := 0) (dd DX2_takeFrom_p1 19 rfl) rfl rfl ?_
  refine sk_S.getr (dd DX2_takeFrom_p1 20 rfl) rfl fX2_30 se_1 (by decide) rfl ?_
  refine sk_S.iconst (v := 0) (dd DX2_takeFrom_p1 21 rfl) (by decide) ?_
  refine sk_S.bipush (v := 60) (dd DX2_takeFrom_p1 22 rfl) (by decide) ?_
  refine sk_S.acopy (dd DX2_takeFrom_p1 23 rfl) rfl blX2_51 ac_n ac_s ac_i rfl (Nat.le_of_ble_eq_true rfl) se_40 se_22 (by decide) (by decide) (sn := 0) (dn := 0) (nn := 60) (by decide) (by decide) (by decide) rfl rfl rfl (by decide) (by decide) ?_
  refine sk_S.aload_n (i := 1) (dd DX2_takeFrom_p1 24 rfl) rfl rfl ?_
  refine sk_S.getr (dd DX2_takeFrom_p1 25 rfl) rfl fX2_33 se_2 (by decide) rfl ?_
  refine sk_S.iconst (v := 0) (dd DX2_takeFrom_p1 26 rfl) (by decide) ?_
  refine sk_S.aload_n (i := 0) (dd DX2_takeFrom_p1 27 rfl) rfl rfl ?_
  refine sk_S.getr (dd DX2_takeFrom_p1 28 rfl) rfl fX2_33 se_1 (by decide) rfl ?_
  refine sk_S.iconst (v := 0) (dd DX2_takeFrom_p1 29 rfl) (by decide) ?_
  refine sk_S.bipush (v := 24) (dd DX2_takeFrom_p1 30 rfl) (by decide) ?_
  refine sk_S.acopy (dd DX2_takeFrom_p1 31 rfl) rfl blX2_51 ac_n ac_s ac_i rfl (Nat.le_of_ble_eq_true rfl) se_41 se_23 (by decide) (by decide) (sn := 0) (dn := 0) (nn := 24) (by decide) (by decide) (by decide) rfl rfl rfl (by decide) (by decide) ?_
  refine sk_S.iconst (v := 0) (dd DX2_takeFrom_p1 32 rfl) (by decide) ?_
  refine sk_S.istore_n (i := 2) (dd DX2_takeFrom_p1 33 rfl) rfl (Nat.le_of_ble_eq_true rfl) rfl ?_
  have oA : sk_o [18, 19, 22, 23] h (sk_r (sk_r (sk_r (sk_r h 18 (va_cpy (h 36) (h 18) 0 0 4)) 19 (va_cpy (h 37) (h 19) 0 0 4)) 22 (va_cpy (h 40) (h 22) 0 0 60)) 23 (va_cpy (h 41) (h 23) 0 0 24)) := (((sk_o.rf.r (by decide)).r (by decide)).r (by decide)).r (by decide)
  have a1 : ∀ j, j < 4 → (sk_r (sk_r (sk_r (sk_r h 18 (va_cpy (h 36) (h 18) 0 0 4)) 19 (va_cpy (h 37) (h 19) 0 0 4)) 22 (va_cpy (h 40) (h 22) 0 0 60)) 23 (va_cpy (h 41) (h 23) 0 0 24)) 18 j = h 36 j := fun j hj => by
    rw [sk_r_ne _ _ (by decide), sk_r_ne _ _ (by decide), sk_r_ne _ _ (by decide), sk_r_eq, cpy_0]
    exact if_pos hj
  have a2 : ∀ j, j < 4 → (sk_r (sk_r (sk_r (sk_r h 18 (va_cpy (h 36) (h 18) 0 0 4)) 19 (va_cpy (h 37) (h 19) 0 0 4)) 22 (va_cpy (h 40) (h 22) 0 0 60)) 23 (va_cpy (h 41) (h 23) 0 0 24)) 19 j = h 37 j := fun j hj => by
    rw [sk_r_ne _ _ (by decide), sk_r_ne _ _ (by decide), sk_r_eq, cpy_0]
    exact if_pos hj
  have a3 : ∀ j, j < 60 → (sk_r (sk_r (sk_r (sk_r h 18 (va_cpy (h 36) (h 18) 0 0 4)) 19 (va_cpy (h 37) (h 19) 0 0 4)) 22 (va_cpy (h 40) (h 22) 0 0 60)) 23 (va_cpy (h 41) (h 23) 0 0 24)) 22 j = h 40 j := fun j hj => by
    rw [sk_r_ne _ _ (by decide), sk_r_eq, cpy_0]
    exact if_pos hj
  have a4 : ∀ j, j < 24 → (sk_r (sk_r (sk_r (sk_r h 18 (va_cpy (h 36) (h 18) 0 0 4)) 19 (va_cpy (h 37) (h 19) 0 0 4)) 22 (va_cpy (h 40) (h 22) 0 0 60)) 23 (va_cpy (h 41) (h 23) 0 0 24)) 23 j = h 41 j := fun j hj => by
    rw [sk_r_eq, cpy_0]
    exact if_pos hj
  exact qf_ma z0 z1 oA a1 a2 a3 a4
set_option maxRecDepth 100000 in
set_option maxHeartbeats 1000000 in
theorem qf_eb {l : Launch} {E : sk_V} {d : Nat} {k : sk_M} {x : Option Value} : sk_S l E (d + 0) MX2_takeFrom 115 [some (.ref 2), some (.ref 1), x] [] k (fun r h1 => sk_o [2] k h1 ∧ (∀ i, 6 ≤ i → i < 15 → h1 2 i = k 1 i) ∧ none = r) := by
  refine sk_S.aload_n (i := 0) (dd DX2_takeFrom_p1 64 rfl) rfl rfl ?_
  refine sk_S.aload_n (i := 1) (dd DX2_takeFrom_p1 65 rfl) rfl rfl ?_
  refine sk_S.geti (dd DX2_takeFrom_p1 66 rfl) rfl fX2_64 se_1 (by decide) rfl ?_
  refine sk_S.putf (dd DX2_takeFrom_p1 67 rfl) rfl pX2_64 se_2 (by decide) rfl rfl rfl ?_
  refine sk_S.aload_n (i := 0) (dd DX2_takeFrom_p1 68 rfl) rfl rfl ?_
  refine sk_S.aload_n (i := 1) (dd DX2_takeFrom_p1 69 rfl) rfl rfl ?_
  refine sk_S.geti (dd DX2_takeFrom_p1 70 rfl) rfl fX2_67 se_1 (by decide) rfl ?_
  refine sk_S.putf (dd DX2_takeFrom_p1 71 rfl) rfl pX2_67 se_2 (by decide) rfl rfl rfl ?_
  refine sk_S.aload_n (i := 0) (dd DX2_takeFrom_p1 72 rfl) rfl rfl ?_
  refine sk_S.aload_n (i := 1) (dd DX2_takeFrom_p1 73 rfl) rfl rfl ?_
  refine sk_S.geti (dd DX2_takeFrom_p1 74 rfl) rfl fX2_70 se_1 (by decide) rfl ?_
  refine sk_S.putf (dd DX2_takeFrom_p1 75 rfl) rfl pX2_70 se_2 (by decide) rfl rfl rfl ?_
  refine sk_S.aload_n (i := 0) (dd DX2_takeFrom_p1 76 rfl) rfl rfl ?_
  refine sk_S.aload_n (i := 1) (dd DX2_takeFrom_p1 77 rfl) rfl rfl ?_
  refine sk_S.geti (dd DX2_takeFrom_p1 78 rfl) rfl fX2_73 se_1 (by decide) rfl ?_
  refine sk_S.putf (dd DX2_takeFrom_p1 79 rfl) rfl pX2_73 se_2 (by decide) rfl rfl rfl ?_
  refine sk_S.aload_n (i := 0) (dd DX2_takeFrom_p1 80 rfl) rfl rfl ?_
  refine sk_S.aload_n (i := 1) (dd DX2_takeFrom_p1 81 rfl) rfl rfl ?_
  refine sk_S.geti (dd DX2_takeFrom_p1 82 rfl) rfl fX2_76 se_1 (by decide) rfl ?_
  refine sk_S.putf (dd DX2_takeFrom_p1 83 rfl) rfl pX2_76 se_2 (by decide) rfl rfl rfl ?_
  refine sk_S.aload_n (i := 0) (dd DX2_takeFrom_p1 84 rfl) rfl rfl ?_
  refine sk_S.aload_n (i := 1) (dd DX2_takeFrom_p1 85 rfl) rfl rfl ?_
  refine sk_S.geti (dd DX2_takeFrom_p1 86 rfl) rfl fX2_36 se_1 (by decide) rfl ?_
  refine sk_S.putf (dd DX2_takeFrom_p1 87 rfl) rfl pX2_36 se_2 (by decide) rfl rfl rfl ?_
  refine sk_S.aload_n (i := 0) (dd DX2_takeFrom_p1 88 rfl) rfl rfl ?_
  refine sk_S.aload_n (i := 1) (dd DX2_takeFrom_p1 89 rfl) rfl rfl ?_
  refine sk_S.geti (dd DX2_takeFrom_p1 90 rfl) rfl fX2_79 se_1 (by decide) rfl ?_
  refine sk_S.putf (dd DX2_takeFrom_p1 91 rfl) rfl pX2_79 se_2 (by decide) rfl rfl rfl ?_
  refine sk_S.aload_n (i := 0) (dd DX2_takeFrom_p1 92 rfl) rfl rfl ?_
  refine sk_S.aload_n (i := 1) (dd DX2_takeFrom_p1 93 rfl) rfl rfl ?_
  refine sk_S.geti (dd DX2_takeFrom_p1 94 rfl) rfl fX2_82 se_1 (by decide) rfl ?_
  refine sk_S.putf (dd DX2_takeFrom_p1 95 rfl) rfl pX2_82 se_2 (by decide) rfl rfl rfl ?_
  refine sk_S.aload_n (i := 0) (dd DX2_takeFrom_p1 96 rfl) rfl rfl ?_
  refine sk_S.aload_n (i := 1) (dd DX2_takeFrom_p1 97 rfl) rfl rfl ?_
  refine sk_S.geti (dd DX2_takeFrom_p1 98 rfl) rfl fX2_40 se_1 (by decide) rfl ?_
  refine sk_S.putf (dd DX2_takeFrom_p1 99 rfl) rfl pX2_40 se_2 (by decide) rfl rfl rfl ?_
  refine sk_S.vret (dd DX2_takeFrom_p2 0 rfl) rfl ?_
  refine ⟨((((((((sk_o.rf.u (by decide)).u (by decide)).u (by decide)).u (by decide)).u (by decide)).u (by decide)).u (by decide)).u (by decide)).u (by decide), fun i h1 h2 => ?_, rfl⟩
  rcases (by omega : i = 6 ∨ i = 7 ∨ i = 8 ∨ i = 9 ∨ i = 10 ∨ i = 11 ∨ i = 12 ∨ i = 13 ∨ i = 14) with rfl | rfl | rfl | rfl | rfl | rfl | rfl | rfl | rfl <;> simp [sk_u_at]
set_option maxRecDepth 100000 in
set_option maxHeartbeats 1000000 in
theorem qf_2b {l : Launch} {E : sk_V} {d : Nat} {k k1 : sk_M} (o1 : sk_o [49, 51] k k1) (l1 : ∀ (g : Nat → Int32) (u : Nat), laN g u ≤ 60 → lawC k 31 33 g u → lawC k1 49 51 g u) : sk_S l E (d + 4) MX2_takeFrom 89 [some (.ref 2), some (.ref 1), some (.int 2)] [] k1 (fun r h1 => sk_o [2, 49, 51] k h1 ∧ (∀ i, 6 ≤ i → i < 15 → h1 2 i = k 1 i) ∧ (∀ g : Nat → Int32, laN g 1 ≤ 60 → lawC k 31 33 g 1 → lawC h1 49 51 g 1) ∧ none = r) := by
  refine sk_S.iload_n (i := 2) (dd DX2_takeFrom_p1 50 rfl) rfl rfl ?_
  refine sk_S.iconst (v := 2) (dd DX2_takeFrom_p1 51 rfl) (by decide) ?_
  refine sk_S.icmp_ge (tgt := 115) (dd DX2_takeFrom_p1 52 rfl) (by decide) (fun c91 => ?_) (fun c91 => absurd (by decide) c91)
  refine sk_S.mono (qf_eb (d := d + 4)) (fun r h1 z => ?_)
  obtain ⟨z1, z2, z3⟩ := z
  refine ⟨(o1.more (by decide)).tr (z1.more (by decide)), fun i a c => (z2 i a c).trans (by rw [o1 1 (by decide)]), fun g hn hC => (l1 g 1 hn hC).o (z1 49 (by decide)) (z1 51 (by decide)), z3⟩
set_option maxRecDepth 100000 in
set_option maxHeartbeats 1000000 in
theorem qf_1b {l : Launch} {E : sk_V} {d : Nat} {k : sk_M} (z1 : k 31 3 = 0 ∨ k 31 3 = 1) : sk_S l E (d + 4) MX2_takeFrom 89 [some (.ref 2), some (.ref 1), some (.int 1)] [] k (fun r h1 => sk_o [2, 49, 51] k h1 ∧ (∀ i, 6 ≤ i → i < 15 → h1 2 i = k 1 i) ∧ (∀ g : Nat → Int32, laN g 1 ≤ 60 → lawC k 31 33 g 1 → lawC h1 49 51 g 1) ∧ none = r) := by
  refine sk_S.iload_n (i := 2) (dd DX2_takeFrom_p1 50 rfl) rfl rfl ?_
  refine sk_S.iconst (v := 2) (dd DX2_takeFrom_p1 51 rfl) (by decide) ?_
  refine sk_S.icmp_ge (tgt := 115) (dd DX2_takeFrom_p1 52 rfl) (by decide) (fun c91 => absurd c91 (by decide)) (fun c91 => ?_)
  refine sk_S.aload_n (i := 0) (dd DX2_takeFrom_p1 53 rfl) rfl rfl ?_
  refine sk_S.getr (dd DX2_takeFrom_p1 54 rfl) rfl fX2_26 se_2 (by decide) rfl ?_
  refine sk_S.iload_n (i := 2) (dd DX2_takeFrom_p1 55 rfl) rfl rfl ?_
  refine sk_S.aald (dd DX2_takeFrom_p1 56 rfl) se_39 rfl (j := 1) ⟨by decide, by decide, by decide⟩ rfl ?_
  refine sk_S.aload_n (i := 1) (dd DX2_takeFrom_p1 57 rfl) rfl rfl ?_
  refine sk_S.getr (dd DX2_takeFrom_p1 58 rfl) rfl fX2_26 se_1 (by decide) rfl ?_
  refine sk_S.iload_n (i := 2) (dd DX2_takeFrom_p1 59 rfl) rfl rfl ?_
  refine sk_S.aald (dd DX2_takeFrom_p1 60 rfl) se_21 rfl (j := 1) ⟨by decide, by decide, by decide⟩ rfl ?_
  refine sk_S.callV (dd DX2_takeFrom_p1 61 rfl) rfl kX2_61 (cC_lawFrom se_49 se_51 se_33 (by decide) (by decide) se_31 (by decide) (by decide) z1) se_49 (by decide) rfl rfl rfl rfl (Nat.le_of_ble_eq_true rfl) (fun r106 h106 q106 => ?_)
  obtain ⟨o106, l106, rfl⟩ := q106
  show sk_S _ _ _ _ 109 _ _ _ _
  refine sk_S.iinc (i := 2) (v := _ + 1) (dd DX2_takeFrom_p1 62 rfl) rfl rfl rfl ?_
  refine sk_S.goto (tgt := 89) (dd DX2_takeFrom_p1 63 rfl) (by decide) ?_
  rw [show (1 : Int32) + 1 = 2 from rfl]
  exact qf_2b o106 l106
set_option maxRecDepth 100000 in
set_option maxHeartbeats 1000000 in
theorem qf_0b {l : Launch} {E : sk_V} {d : Nat} {k : sk_M} (z0 : k 30 3 = 0 ∨ k 30 3 = 1) (z1 : k 31 3 = 0 ∨ k 31 3 = 1) : sk_S l E (d + 4) MX2_takeFrom 89 [some (.ref 2), some (.ref 1), some (.int 0)] [] k (fun r h1 => sk_o [2, 48, 50, 49, 51] k h1 ∧ (∀ i, 6 ≤ i → i < 15 → h1 2 i = k 1 i) ∧ (∀ g : Nat → Int32, laN g 0 ≤ 60 → laN g 1 ≤ 60 → lawC k 30 32 g 0 → lawC k 31 33 g 1 → lawC h1 48 50 g 0 ∧ lawC h1 49 51 g 1) ∧ none = r) := by
  refine sk_S.iload_n (i := 2) (dd DX2_takeFrom_p1 50 rfl) rfl rfl ?_
  refine sk_S.iconst (v := 2) (dd DX2_takeFrom_p1 51 rfl) (by decide) ?_
  refine sk_S.icmp_ge (tgt := 115) (dd DX2_takeFrom_p1 52 rfl) (by decide) (fun c91 => absurd c91 (by decide)) (fun c91 => ?_)
  refine sk_S.aload_n (i := 0) (dd DX2_takeFrom_p1 53 rfl) rfl rfl ?_
  refine sk_S.getr (dd DX2_takeFrom_p1 54 rfl) rfl fX2_26 se_2 (by decide) rfl ?_
  refine sk_S.iload_n (i := 2) (dd DX2_takeFrom_p1 55 rfl) rfl rfl ?_
  refine sk_S.aald (dd DX2_takeFrom_p1 56 rfl) se_39 rfl (j := 0) ⟨by decide, by decide, by decide⟩ rfl ?_
  refine sk_S.aload_n (i := 1) (dd DX2_takeFrom_p1 57 rfl) rfl rfl ?_
  refine sk_S.getr (dd DX2_takeFrom_p1 58 rfl) rfl fX2_26 se_1 (by decide) rfl ?_
  refine sk_S.iload_n (i := 2) (dd DX2_takeFrom_p1 59 rfl) rfl rfl ?_
  refine sk_S.aald (dd DX2_takeFrom_p1 60 rfl) se_21 rfl (j := 0) ⟨by decide, by decide, by decide⟩ rfl ?_
  refine sk_S.callV (dd DX2_takeFrom_p1 61 rfl) rfl kX2_61 (cC_lawFrom se_48 se_50 se_32 (by decide) (by decide) se_30 (by decide) (by decide) z0) se_48 (by decide) rfl rfl rfl rfl (Nat.le_of_ble_eq_true rfl) (fun r106 h106 q106 => ?_)
  obtain ⟨o106, l106, rfl⟩ := q106
  show sk_S _ _ _ _ 109 _ _ _ _
  refine sk_S.iinc (i := 2) (v := _ + 1) (dd DX2_takeFrom_p1 62 rfl) rfl rfl rfl ?_
  refine sk_S.goto (tgt := 89) (dd DX2_takeFrom_p1 63 rfl) (by decide) ?_
  rw [show (0 : Int32) + 1 = 1 from rfl]
  refine sk_S.mono (qf_1b (by rw [o106 31 (by decide)]; exact z1)) (fun r h1 z => ?_)
  obtain ⟨z1, z2, z3, z4⟩ := z
  refine ⟨(o106.more (by decide)).tr (z1.more (by decide)), fun i a c => (z2 i a c).trans (by rw [o106 1 (by decide)]), fun g n0 n1 c0 c1 => ⟨(l106 g 0 n0 c0).o (z1 48 (by decide)) (z1 50 (by decide)), z3 g n1 (c1.o (o106 31 (by decide)) (o106 33 (by decide)))⟩, z4⟩
theorem bt_memb {j : Nat} (hj : j < 6) : 42 + j ∈ ([42, 43, 44, 45, 46, 47] : List Nat) := by
  rcases (by omega : j = 0 ∨ j = 1 ∨ j = 2 ∨ j = 3 ∨ j = 4 ∨ j = 5) with rfl | rfl | rfl | rfl | rfl | rfl <;> decide
theorem bt_nomb {j : Nat} (hj : j < 6) : 24 + j ∉ ([42, 43, 44, 45, 46, 47] : List Nat) := by
  rcases (by omega : j = 0 ∨ j = 1 ∨ j = 2 ∨ j = 3 ∨ j = 4 ∨ j = 5) with rfl | rfl | rfl | rfl | rfl | rfl <;> decide
set_option maxRecDepth 100000 in
set_option maxHeartbeats 1000000 in
theorem qf_bb {l : Launch} {E : sk_V} {d : Nat} {h : sk_M} {Q : Option Value → sk_M → Prop} (kk : ∀ f2 : sk_M, sk_o [42, 43, 44, 45, 46, 47] h f2 → (∀ i w, i < 6 → w < 3 → f2 (42 + i) w = h (24 + i) w) → sk_S l E (d + 4) MX2_takeFrom 87 [some (.ref 2), some (.ref 1), some (.int (nI 6))] [] f2 Q) : ∀ (m j : Nat) (k : sk_M), j + m = 6 → sk_o [42, 43, 44, 45, 46, 47] h k → (∀ i w, i < j → w < 3 → k (42 + i) w = h (24 + i) w) → sk_S l E (d + 4) MX2_takeFrom 60 [some (.ref 2), some (.ref 1), some (.int (nI j))] [] k Q
  | 0, j, k, hj, ho, hb => by
    have e : j = 6 := by omega
    subst e
    refine sk_S.iload_n (i := 2) (dd DX2_takeFrom_p1 34 rfl) rfl rfl ?_
    refine sk_S.bipush (v := 6) (dd DX2_takeFrom_p1 35 rfl) (by decide) ?_
    refine sk_S.icmp_ge (tgt := 87) (dd DX2_takeFrom_p1 36 rfl) (by decide) (fun c63 => ?_) (fun c63 => absurd (by decide) c63)
    exact kk k ho hb
  | m + 1, j, k, hj, ho, hb => by
    have hj : j < 6 := by omega
    refine sk_S.iload_n (i := 2) (dd DX2_takeFrom_p1 34 rfl) rfl rfl ?_
    refine sk_S.bipush (v := 6) (dd DX2_takeFrom_p1 35 rfl) (by decide) ?_
    refine sk_S.icmp_ge (tgt := 87) (dd DX2_takeFrom_p1 36 rfl) (by decide) (fun c63 => absurd c63 (by exact nI_ge (b := 6) (by omega) (by decide))) (fun c63 => ?_)
    refine sk_S.aload_n (i := 0) (dd DX2_takeFrom_p1 37 rfl) rfl rfl ?_
    refine sk_S.getr (dd DX2_takeFrom_p1 38 rfl) rfl fX2_20 se_2 (by decide) rfl ?_
    refine sk_S.iload_n (i := 2) (dd DX2_takeFrom_p1 39 rfl) rfl rfl ?_
    refine sk_S.aald (dd DX2_takeFrom_p1 40 rfl) se_38 rfl (sk_ix_nI (k := j) rfl hj (by decide)) (rf_fleet2 hj) ?_
    refine sk_S.aload_n (i := 1) (dd DX2_takeFrom_p1 41 rfl) rfl rfl ?_
    refine sk_S.getr (dd DX2_takeFrom_p1 42 rfl) rfl fX2_20 se_1 (by decide) rfl ?_
    refine sk_S.iload_n (i := 2) (dd DX2_takeFrom_p1 43 rfl) rfl rfl ?_
    refine sk_S.aald (dd DX2_takeFrom_p1 44 rfl) se_20 rfl (sk_ix_nI (k := j) rfl hj (by decide)) (rf_fleet hj) ?_
    refine sk_S.callV (dd DX2_takeFrom_p1 45 rfl) rfl kX2_57 (cC_boatFrom (se_bt2 hj) (se_bt hj) (by omega)) (se_bt2 hj) (by decide) rfl rfl rfl rfl (Nat.le_of_ble_eq_true rfl) (fun r78 h78 q78 => ?_)
    obtain ⟨rfl, rfl⟩ := q78
    show sk_S _ _ _ _ 81 _ _ _ _
    refine sk_S.iinc (i := 2) (v := _ + 1) (dd DX2_takeFrom_p1 46 rfl) rfl rfl rfl ?_
    refine sk_S.goto (tgt := 60) (dd DX2_takeFrom_p1 47 rfl) (by decide) ?_
    have hne : ∀ i, i < 6 → 24 + i ≠ 42 + j := fun i hi => by omega
    have ob : sk_o [42, 43, 44, 45, 46, 47] k (sk_u (sk_u (sk_u k (42 + j) 0 (k (24 + j) 0)) (42 + j) 1 (k (24 + j) 1)) (42 + j) 2 (k (24 + j) 2)) := ((sk_o.rf.u (bt_memb hj)).u (bt_memb hj)).u (bt_memb hj)
    refine sk_S.L (qf_bb kk m (j + 1) _ (by omega) (ho.tr ob) (fun i w hi hw => ?_)) (by rw [nI_succ]; rfl)
    have e0 : ∀ w, k (24 + j) w = h (24 + j) w := fun w => by rw [ho (24 + j) (bt_nomb hj)]
    by_cases c : i = j
    · subst c
      rcases (by omega : w = 0 ∨ w = 1 ∨ w = 2) with rfl | rfl | rfl
      · rw [sk_u_at, if_pos rfl, if_neg (by decide), sk_u_at, if_pos rfl, if_neg (by decide), sk_u_at, if_pos rfl, if_pos rfl, e0]
      · rw [sk_u_at, if_pos rfl, if_neg (by decide), sk_u_at, if_pos rfl, if_pos rfl, e0]
      · rw [sk_u_at, if_pos rfl, if_pos rfl, e0]
    · rw [sk_u_at, if_neg (by omega), sk_u_at, if_neg (by omega), sk_u_at, if_neg (by omega)]
      exact hb i w (by omega) hw
set_option maxRecDepth 100000 in
set_option maxHeartbeats 1000000 in
theorem qf_tb {l : Launch} {E : sk_V} {d : Nat} {h A f : sk_M} {x : Option Value} (z0 : h 30 3 = 0 ∨ h 30 3 = 1) (z1 : h 31 3 = 0 ∨ h 31 3 = 1) (oA : sk_o [36, 37, 40, 41] h A) (a1 : ∀ j, j < 4 → A 36 j = h 18 j) (a2 : ∀ j, j < 4 → A 37 j = h 19 j) (a3 : ∀ j, j < 60 → A 40 j = h 22 j) (a4 : ∀ j, j < 24 → A 41 j = h 23 j) (of : sk_o [42, 43, 44, 45, 46, 47] A f) (hb : ∀ i w, i < 6 → w < 3 → f (42 + i) w = A (24 + i) w) : sk_S l E (d + 4) MX2_takeFrom 87 [some (.ref 2), some (.ref 1), x] [] f (fun r h1 => sk_o [2, 36, 37, 40, 41, 42, 43, 44, 45, 46, 47, 48, 49, 50, 51] h h1 ∧ (∀ g : Nat → Int32, laN g 0 ≤ 60 → laN g 1 ≤ 60 → RQ 1 18 h g → RQ 2 36 h1 g) ∧ none = r) := by
  refine sk_S.iconst (v := 0) (dd DX2_takeFrom_p1 48 rfl) (by decide) ?_
  refine sk_S.istore_n (i := 2) (dd DX2_takeFrom_p1 49 rfl) rfl (Nat.le_of_ble_eq_true rfl) rfl ?_
  refine sk_S.mono (qf_0b (by rw [of 30 (by decide), oA 30 (by decide)]; exact z0) (by rw [of 31 (by decide), oA 31 (by decide)]; exact z1)) (fun r h1 z => ?_)
  obtain ⟨z1, z2, z3, z4⟩ := z
  have oAll : sk_o [2, 36, 37, 40, 41, 42, 43, 44, 45, 46, 47, 48, 49, 50, 51] h h1 := ((oA.more (by decide)).tr (of.more (by decide))).tr (z1.more (by decide))
  refine ⟨oAll, fun g n0 n1 H => ?_, z4⟩
  have oT : sk_o [36, 37, 40, 41, 42, 43, 44, 45, 46, 47] h f := (oA.more (by decide)).tr (of.more (by decide))
  obtain ⟨c0, c1⟩ := z3 g n0 n1 (H.2.1.o (oT 30 (by decide)) (oT 32 (by decide))) (H.2.2.o (oT 31 (by decide)) (oT 33 (by decide)))
  refine H.asm (fun i h1 h2 => ?_) (fun j hj => ?_) (fun j hj => ?_) (fun j hj => ?_) (fun j hj => ?_) (fun j w hj hw => ?_) c0 c1
  · rw [z2 i h1 h2, oT 1 (by decide)]
  · rw [z1 36 (by decide), of 36 (by decide), a1 j hj]
  · rw [z1 37 (by decide), of 37 (by decide), a2 j hj]
  · rw [z1 40 (by decide), of 40 (by decide), a3 j hj]
  · rw [z1 41 (by decide), of 41 (by decide), a4 j hj]
  · have e1 : h1 (36 + 6 + j) = f (42 + j) := z1 (42 + j) (by
      rcases (by omega : j = 0 ∨ j = 1 ∨ j = 2 ∨ j = 3 ∨ j = 4 ∨ j = 5) with rfl | rfl | rfl | rfl | rfl | rfl <;> decide)
    have e2 : A (24 + j) = h (18 + 6 + j) := oA (24 + j) (by
      rcases (by omega : j = 0 ∨ j = 1 ∨ j = 2 ∨ j = 3 ∨ j = 4 ∨ j = 5) with rfl | rfl | rfl | rfl | rfl | rfl <;> decide)
    rw [e1, hb j w hj hw, e2]
theorem qf_mb {l : Launch} {E : sk_V} {d : Nat}  {h A : sk_M} (z0 : h 30 3 = 0 ∨ h 30 3 = 1) (z1 : h 31 3 = 0 ∨ h 31 3 = 1) (oA : sk_o [36, 37, 40, 41] h A) (a1 : ∀ j, j < 4 → A 36 j = h 18 j) (a2 : ∀ j, j < 4 → A 37 j = h 19 j) (a3 : ∀ j, j < 60 → A 40 j = h 22 j) (a4 : ∀ j, j < 24 → A 41 j = h 23 j) : sk_S l E (d + 4) MX2_takeFrom 60 [some (.ref 2), some (.ref 1), some (.int (nI 0))] [] A (fun r h1 => sk_o [2, 36, 37, 40, 41, 42, 43, 44, 45, 46, 47, 48, 49, 50, 51] h h1 ∧ (∀ g : Nat → Int32, laN g 0 ≤ 60 → laN g 1 ≤ 60 → RQ 1 18 h g → RQ 2 36 h1 g) ∧ none = r) :=
  qf_bb (fun f2 of hb => qf_tb z0 z1 oA a1 a2 a3 a4 of hb) 6 0 A (Nat.zero_add _) sk_o.rf (fun i w hi _ => absurd hi (Nat.not_lt_zero _))
set_option maxRecDepth 100000 in
set_option maxHeartbeats 1000000 in
theorem cQ_takeFrom_b {l : Launch} {E : sk_V} {d : Nat} {h : sk_M}  (z0 : h 30 3 = 0 ∨ h 30 3 = 1) (z1 : h 31 3 = 0 ∨ h 31 3 = 1)  : sk_K l E (d + 4) MX2_takeFrom [.ref 2, .ref 1] h (fun r h1 => sk_o [2, 36, 37, 40, 41, 42, 43, 44, 45, 46, 47, 48, 49, 50, 51] h h1 ∧ (∀ g : Nat → Int32, laN g 0 ≤ 60 → laN g 1 ≤ 60 → RQ 1 18 h g → RQ 2 36 h1 g) ∧ none = r) := by
  refine sk_K.of (by decide +kernel) (Nat.le_of_ble_eq_true rfl) ?_
  show sk_S l E (d + 4) _ 0 [some (.ref 2), some (.ref 1), none] [] h _
  refine sk_S.aload_n (i := 1) (dd DX2_takeFrom_p1 0 rfl) rfl rfl ?_
  refine sk_S.getr (dd DX2_takeFrom_p1 1 rfl) rfl fX2_9 se_1 (by decide) rfl ?_
  refine sk_S.iconst (v := 0) (dd DX2_takeFrom_p1 2 rfl) (by decide) ?_
  refine sk_S.aload_n (i := 0) (dd DX2_takeFrom_p1 3 rfl) rfl rfl ?_
  refine sk_S.getr (dd DX2_takeFrom_p1 4 rfl) rfl fX2_9 se_2 (by decide) rfl ?_
  refine sk_S.iconst (v := 0) (dd DX2_takeFrom_p1 5 rfl) (by decide) ?_
  refine sk_S.iconst (v := 4) (dd DX2_takeFrom_p1 6 rfl) (by decide) ?_
  refine sk_S.acopy (dd DX2_takeFrom_p1 7 rfl) rfl blX2_51 ac_n ac_s ac_i rfl (Nat.le_of_ble_eq_true rfl) se_18 se_36 (by decide) (by decide) (sn := 0) (dn := 0) (nn := 4) (by decide) (by decide) (by decide) rfl rfl rfl (by decide) (by decide) ?_
  refine sk_S.aload_n (i := 1) (dd DX2_takeFrom_p1 8 rfl) rfl rfl ?_
  refine sk_S.getr (dd DX2_takeFrom_p1 9 rfl) rfl fX2_15 se_1 (by decide) rfl ?_
  refine sk_S.iconst (v := 0) (dd DX2_takeFrom_p1 10 rfl) (by decide) ?_
  refine sk_S.aload_n (i := 0) (dd DX2_takeFrom_p1 11 rfl) rfl rfl ?_
  refine sk_S.getr (dd DX2_takeFrom_p1 12 rfl) rfl fX2_15 se_2 (by decide) rfl ?_
  refine sk_S.iconst (v := 0) (dd DX2_takeFrom_p1 13 rfl) (by decide) ?_
  refine sk_S.iconst (v := 4) (dd DX2_takeFrom_p1 14 rfl) (by decide) ?_
  refine sk_S.acopy (dd DX2_takeFrom_p1 15 rfl) rfl blX2_51 ac_n ac_s ac_i rfl (Nat.le_of_ble_eq_true rfl) se_19 se_37 (by decide) (by decide) (sn := 0) (dn := 0) (nn := 4) (by decide) (by decide) (by decide) rfl rfl rfl (by decide) (by decide) ?_
  refine sk_S.aload_n (i := 1) (dd DX2_takeFrom_p1 16 rfl) rfl rfl ?_
  refine sk_S.getr (dd DX2_takeFrom_p1 17 rfl) rfl fX2_30 se_1 (by decide) rfl ?_
  refine sk_S.iconst (v := 0) (dd DX2_takeFrom_p1 18 rfl) (by decide) ?_
  refine sk_S.aload_n (i := 0) (dd DX2_takeFrom_p1 19 rfl) rfl rfl ?_
  refine sk_S.getr (dd DX2_takeFrom_p1 20 rfl) rfl fX2_30 se_2 (by decide) rfl ?_
  refine sk_S.iconst (v := 0) (dd DX2_takeFrom_p1 21 rfl) (by decide) ?_
  refine sk_S.bipush (v := 60) (dd DX2_takeFrom_p1 22 rfl) (by decide) ?_
  refine sk_S.acopy (dd DX2_takeFrom_p1 23 rfl) rfl blX2_51 ac_n ac_s ac_i rfl (Nat.le_of_ble_eq_true rfl) se_22 se_40 (by decide) (by decide) (sn := 0) (dn := 0) (nn := 60) (by decide) (by decide) (by decide) rfl rfl rfl (by decide) (by decide) ?_
  refine sk_S.aload_n (i := 1) (dd DX2_takeFrom_p1 24 rfl) rfl rfl ?_
  refine sk_S.getr (dd DX2_takeFrom_p1 25 rfl) rfl fX2_33 se_1 (by decide) rfl ?_
  refine sk_S.iconst (v := 0) (dd DX2_takeFrom_p1 26 rfl) (by decide) ?_
  refine sk_S.aload_n (i := 0) (dd DX2_takeFrom_p1 27 rfl) rfl rfl ?_
  refine sk_S.getr (dd DX2_takeFrom_p1 28 rfl) rfl fX2_33 se_2 (by decide) rfl ?_
  refine sk_S.iconst (v := 0) (dd DX2_takeFrom_p1 29 rfl) (by decide) ?_
  refine sk_S.bipush (v := 24) (dd DX2_takeFrom_p1 30 rfl) (by decide) ?_
  refine sk_S.acopy (dd DX2_takeFrom_p1 31 rfl) rfl blX2_51 ac_n ac_s ac_i rfl (Nat.le_of_ble_eq_true rfl) se_23 se_41 (by decide) (by decide) (sn := 0) (dn := 0) (nn := 24) (by decide) (by decide) (by decide) rfl rfl rfl (by decide) (by decide) ?_
  refine sk_S.iconst (v := 0) (dd DX2_takeFrom_p1 32 rfl) (by decide) ?_
  refine sk_S.istore_n (i := 2) (dd DX2_takeFrom_p1 33 rfl) rfl (Nat.le_of_ble_eq_true rfl) rfl ?_
  have oA : sk_o [36, 37, 40, 41] h (sk_r (sk_r (sk_r (sk_r h 36 (va_cpy (h 18) (h 36) 0 0 4)) 37 (va_cpy (h 19) (h 37) 0 0 4)) 40 (va_cpy (h 22) (h 40) 0 0 60)) 41 (va_cpy (h 23) (h 41) 0 0 24)) := (((sk_o.rf.r (by decide)).r (by decide)).r (by decide)).r (by decide)
  have a1 : ∀ j, j < 4 → (sk_r (sk_r (sk_r (sk_r h 36 (va_cpy (h 18) (h 36) 0 0 4)) 37 (va_cpy (h 19) (h 37) 0 0 4)) 40 (va_cpy (h 22) (h 40) 0 0 60)) 41 (va_cpy (h 23) (h 41) 0 0 24)) 36 j = h 18 j := fun j hj => by
    rw [sk_r_ne _ _ (by decide), sk_r_ne _ _ (by decide), sk_r_ne _ _ (by decide), sk_r_eq, cpy_0]
    exact if_pos hj
  have a2 : ∀ j, j < 4 → (sk_r (sk_r (sk_r (sk_r h 36 (va_cpy (h 18) (h 36) 0 0 4)) 37 (va_cpy (h 19) (h 37) 0 0 4)) 40 (va_cpy (h 22) (h 40) 0 0 60)) 41 (va_cpy (h 23) (h 41) 0 0 24)) 37 j = h 19 j := fun j hj => by
    rw [sk_r_ne _ _ (by decide), sk_r_ne _ _ (by decide), sk_r_eq, cpy_0]
    exact if_pos hj
  have a3 : ∀ j, j < 60 → (sk_r (sk_r (sk_r (sk_r h 36 (va_cpy (h 18) (h 36) 0 0 4)) 37 (va_cpy (h 19) (h 37) 0 0 4)) 40 (va_cpy (h 22) (h 40) 0 0 60)) 41 (va_cpy (h 23) (h 41) 0 0 24)) 40 j = h 22 j := fun j hj => by
    rw [sk_r_ne _ _ (by decide), sk_r_eq, cpy_0]
    exact if_pos hj
  have a4 : ∀ j, j < 24 → (sk_r (sk_r (sk_r (sk_r h 36 (va_cpy (h 18) (h 36) 0 0 4)) 37 (va_cpy (h 19) (h 37) 0 0 4)) 40 (va_cpy (h 22) (h 40) 0 0 60)) 41 (va_cpy (h 23) (h 41) 0 0 24)) 41 j = h 23 j := fun j hj => by
    rw [sk_r_eq, cpy_0]
    exact if_pos hj
  exact qf_mb z0 z1 oA a1 a2 a3 a4
end C8
