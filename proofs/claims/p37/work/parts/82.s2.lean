section S2
def Inv0 (h : sk_M) : Prop := Inv h ∧ (∀ j, j < 4 → h 58 j = 0) ∧ (∀ k, k < 7 → h 6 k = 0 ∧ h 57 k = 0)
set_option maxRecDepth 100000 in
set_option maxHeartbeats 1000000 in
theorem cP_fits0 {l : Launch} {E : sk_V} {d : Nat} {h : sk_M} {s w : Int32} {g : Nat → Int32} (hR : RQ 1 18 h g) (hS : ∀ j, j < 4 → h (7 + j) 1 = 0) : sk_K l E (d + 8) MX7_fits [.ref 0, .int s, .int w] h (fun r h1 => oC h h1 g (cif (inN s 4 ∧ inN w 2) (erI 2) (erI 1)) r) := by
  refine sk_K.of (by decide +kernel) (Nat.le_of_ble_eq_true rfl) ?_
  show sk_S l E (d + 8) _ 0 [some (.ref 0), some (.int s), some (.int w), none] [] h _
  refine sk_S.iload_n (i := 1) (dd DX7_fits 0 rfl) rfl rfl ?_
  refine sk_S.callS (dd DX7_fits 1 rfl) rfl kX7_206 cC_isSheet rfl rfl rfl (Nat.le_of_ble_eq_true rfl) (fun r1 h1 q1 => ?_)
  obtain ⟨rfl, rfl⟩ := q1
  show sk_S _ _ _ _ _ _ (.int _ :: _) _ _
  refine sk_S.bif_eq (tgt := 15) (dd DX7_fits 2 rfl) (by decide) (fun c4 => ?_) (fun c4 => ?_)
  · refine sk_S.aload_n (i := 0) (dd DX7_fits 7 rfl) rfl rfl ?_
    refine sk_S.ldc (dd DX7_fits 8 rfl) rfl cnX7_48 ?_
    refine sk_S.callV (dd DX7_fits 9 rfl) rfl kX7_49 (cC_refuse (k := 1) (by decide) (by decide) (by decide)) se_0 (by decide) rfl rfl rfl rfl (Nat.le_of_ble_eq_true rfl) (fun r18 h18 q18 => ?_)
    obtain ⟨rfl, rfl⟩ := q18
    show sk_S _ _ _ _ _ _ (.int _ :: _) _ _
    refine sk_S.iret (dd DX7_fits 10 rfl) rfl rfl ?_
    rw [cif_f (fun z => (c4 ((inN_lt (M := 4) (n := 4) (by decide)).mpr z.1)))]
    exact oC.er (j := 1) hR sk_o.rf
  · refine sk_S.iload_n (i := 2) (dd DX7_fits 3 rfl) rfl rfl ?_
    refine sk_S.iconst (v := 1) (dd DX7_fits 4 rfl) (by decide) ?_
    refine sk_S.callS (dd DX7_fits 5 rfl) rfl kX7_74 cC_isWithin rfl rfl rfl (Nat.le_of_ble_eq_true rfl) (fun r9 h9 q9 => ?_)
    obtain ⟨rfl, rfl⟩ := q9
    show sk_S _ _ _ _ _ _ (.int _ :: _) _ _
    refine sk_S.bif_ne (tgt := 22) (dd DX7_fits 6 rfl) (by decide) (fun c12 => ?_) (fun c12 => ?_)
    · obtain ⟨j, hj, rfl⟩ := ((inN_lt (M := 4) (n := 4) (by decide)).mp c4)
      refine sk_S.aload_n (i := 0) (dd DX7_fits 11 rfl) rfl rfl ?_
      refine sk_S.getr (dd DX7_fits 12 rfl) rfl fX7_35 se_0 (by decide) rfl ?_
      refine sk_S.iload_n (i := 1) (dd DX7_fits 13 rfl) rfl rfl ?_
      refine sk_S.aald (dd DX7_fits 14 rfl) se_5 rfl (sk_ix_nI (k := j) rfl hj (by decide)) (rf_sh hj) ?_
      refine sk_S.callV (dd DX7_fits 15 rfl) rfl kX7_209 (cC_isMissing (se_sh hj)) (se_sh hj) (by decide) rfl rfl rfl rfl (Nat.le_of_ble_eq_true rfl) (fun r28 h28 q28 => ?_)
      obtain ⟨rfl, rfl⟩ := q28
      show sk_S _ _ _ _ _ _ (.int _ :: _) _ _
      refine sk_S.bif_eq (tgt := 41) (dd DX7_fits 16 rfl) (by decide) (fun c31 => absurd (hS j hj) c31) (fun c31 => ?_)
      refine sk_S.aload_n (i := 0) (dd DX7_fits 17 rfl) rfl rfl ?_
      refine sk_S.ldc (dd DX7_fits 18 rfl) rfl cnX7_184 ?_
      refine sk_S.callV (dd DX7_fits 19 rfl) rfl kX7_49 (cC_refuse (k := 2) (by decide) (by decide) (by decide)) se_0 (by decide) rfl rfl rfl rfl (Nat.le_of_ble_eq_true rfl) (fun r37 h37 q37 => ?_)
      obtain ⟨rfl, rfl⟩ := q37
      show sk_S _ _ _ _ _ _ (.int _ :: _) _ _
      refine sk_S.iret (dd DX7_fits 20 rfl) rfl rfl ?_
      rw [cif_t ⟨⟨j, hj, rfl⟩, ((inN_le (M := 1) (n := 2) (by decide)).mp c12)⟩]
      exact oC.er (j := 2) hR sk_o.rf
    · refine sk_S.aload_n (i := 0) (dd DX7_fits 7 rfl) rfl rfl ?_
      refine sk_S.ldc (dd DX7_fits 8 rfl) rfl cnX7_48 ?_
      refine sk_S.callV (dd DX7_fits 9 rfl) rfl kX7_49 (cC_refuse (k := 1) (by decide) (by decide) (by decide)) se_0 (by decide) rfl rfl rfl rfl (Nat.le_of_ble_eq_true rfl) (fun r18 h18 q18 => ?_)
      obtain ⟨rfl, rfl⟩ := q18
      show sk_S _ _ _ _ _ _ (.int _ :: _) _ _
      refine sk_S.iret (dd DX7_fits 10 rfl) rfl rfl ?_
      rw [cif_f (fun z => (c12 ((inN_le (M := 1) (n := 2) (by decide)).mpr z.2)))]
      exact oC.er (j := 1) hR sk_o.rf
set_option maxRecDepth 100000 in
set_option maxHeartbeats 1000000 in
theorem cP_judge0 {l : Launch} {E : sk_V} {d : Nat} {h : sk_M} {s : Int32} {g : Nat → Int32} (hR : RQ 1 18 h g) (hS : ∀ j, j < 4 → h (7 + j) 1 = 0) : sk_K l E (d + 8) MX7_judge [.ref 0, .int s] h (fun r h1 => oC h h1 g (cif (inN s 4) (erI 2) (erI 1)) r) := by
  refine sk_K.of (by decide +kernel) (Nat.le_of_ble_eq_true rfl) ?_
  show sk_S l E (d + 8) _ 0 [some (.ref 0), some (.int s), none, none, none] [] h _
  refine sk_S.iload_n (i := 1) (dd DX7_judge 0 rfl) rfl rfl ?_
  refine sk_S.callS (dd DX7_judge 1 rfl) rfl kX7_206 cC_isSheet rfl rfl rfl (Nat.le_of_ble_eq_true rfl) (fun r1 h1 q1 => ?_)
  obtain ⟨rfl, rfl⟩ := q1
  show sk_S _ _ _ _ _ _ (.int _ :: _) _ _
  refine sk_S.bif_ne (tgt := 14) (dd DX7_judge 2 rfl) (by decide) (fun c4 => ?_) (fun c4 => ?_)
  · obtain ⟨j, hj, rfl⟩ := ((inN_lt (M := 4) (n := 4) (by decide)).mp c4)
    refine sk_S.aload_n (i := 0) (dd DX7_judge 7 rfl) rfl rfl ?_
    refine sk_S.getr (dd DX7_judge 8 rfl) rfl fX7_35 se_0 (by decide) rfl ?_
    refine sk_S.iload_n (i := 1) (dd DX7_judge 9 rfl) rfl rfl ?_
    refine sk_S.aald (dd DX7_judge 10 rfl) se_5 rfl (sk_ix_nI (k := j) rfl hj (by decide)) (rf_sh hj) ?_
    refine sk_S.astore_n (i := 2) (dd DX7_judge 11 rfl) rfl (Nat.le_of_ble_eq_true rfl) rfl ?_
    refine sk_S.aload_n (i := 2) (dd DX7_judge 12 rfl) rfl rfl ?_
    refine sk_S.callV (dd DX7_judge 13 rfl) rfl kX7_209 (cC_isMissing (se_sh hj)) (se_sh hj) (by decide) rfl rfl rfl rfl (Nat.le_of_ble_eq_true rfl) (fun r22 h22 q22 => ?_)
    obtain ⟨rfl, rfl⟩ := q22
    show sk_S _ _ _ _ _ _ (.int _ :: _) _ _
    refine sk_S.bif_eq (tgt := 35) (dd DX7_judge 14 rfl) (by decide) (fun c25 => absurd (hS j hj) c25) (fun c25 => ?_)
    refine sk_S.aload_n (i := 0) (dd DX7_judge 15 rfl) rfl rfl ?_
    refine sk_S.ldc (dd DX7_judge 16 rfl) rfl cnX7_184 ?_
    refine sk_S.callV (dd DX7_judge 17 rfl) rfl kX7_49 (cC_refuse (k := 2) (by decide) (by decide) (by decide)) se_0 (by decide) rfl rfl rfl rfl (Nat.le_of_ble_eq_true rfl) (fun r31 h31 q31 => ?_)
    obtain ⟨rfl, rfl⟩ := q31
    show sk_S _ _ _ _ _ _ (.int _ :: _) _ _
    refine sk_S.iret (dd DX7_judge 18 rfl) rfl rfl ?_
    rw [cif_t ⟨j, hj, rfl⟩]
    exact oC.er (j := 2) hR sk_o.rf
  · refine sk_S.aload_n (i := 0) (dd DX7_judge 3 rfl) rfl rfl ?_
    refine sk_S.ldc (dd DX7_judge 4 rfl) rfl cnX7_48 ?_
    refine sk_S.callV (dd DX7_judge 5 rfl) rfl kX7_49 (cC_refuse (k := 1) (by decide) (by decide) (by decide)) se_0 (by decide) rfl rfl rfl rfl (Nat.le_of_ble_eq_true rfl) (fun r10 h10 q10 => ?_)
    obtain ⟨rfl, rfl⟩ := q10
    show sk_S _ _ _ _ _ _ (.int _ :: _) _ _
    refine sk_S.iret (dd DX7_judge 6 rfl) rfl rfl ?_
    rw [cif_f (fun z => (c4 ((inN_lt (M := 4) (n := 4) (by decide)).mpr z)))]
    exact oC.er (j := 1) hR sk_o.rf
set_option maxRecDepth 100000 in
set_option maxHeartbeats 1000000 in
theorem cP_told0 {l : Launch} {E : sk_V} {d : Nat} {h : sk_M} {k : Int32} {g : Nat → Int32} (hR : RQ 1 18 h g) (hZ : ∀ k, k < 7 → h 6 k = 0) : sk_K l E (d + 5) MX7_told [.ref 0, .int k] h (fun r h1 => oC h h1 g (cif (∃ j, 1 ≤ j ∧ j ≤ 6 ∧ k = nI j) 0 (erI 1)) r) := by
  refine sk_K.of (by decide +kernel) (Nat.le_of_ble_eq_true rfl) ?_
  show sk_S l E (d + 5) _ 0 [some (.ref 0), some (.int k)] [] h _
  refine sk_S.iload_n (i := 1) (dd DX7_told 0 rfl) rfl rfl ?_
  refine sk_S.iconst (v := 1) (dd DX7_told 1 rfl) (by decide) ?_
  refine sk_S.icmp_lt (tgt := 11) (dd DX7_told 2 rfl) (by decide) (fun c2 => ?_) (fun c2 => ?_)
  · refine sk_S.aload_n (i := 0) (dd DX7_told 6 rfl) rfl rfl ?_
    refine sk_S.ldc (dd DX7_told 7 rfl) rfl cnX7_48 ?_
    refine sk_S.callV (dd DX7_told 8 rfl) rfl kX7_49 (cC_refuse (k := 1) (by decide) (by decide) (by decide)) se_0 (by decide) rfl rfl rfl rfl (Nat.le_of_ble_eq_true rfl) (fun r14 h14 q14 => ?_)
    obtain ⟨rfl, rfl⟩ := q14
    show sk_S _ _ _ _ _ _ (.int _ :: _) _ _
    refine sk_S.iret (dd DX7_told 9 rfl) rfl rfl ?_
    rw [cif_f (fun z => by
      obtain ⟨j, h1, h2, rfl⟩ := z
      exact absurd c2 (Int32.not_lt.mpr (nI_le (a := 1) h1 (by omega))))]
    exact oC.er (j := 1) hR sk_o.rf
  · refine sk_S.iload_n (i := 1) (dd DX7_told 3 rfl) rfl rfl ?_
    refine sk_S.bipush (v := 6) (dd DX7_told 4 rfl) (by decide) ?_
    refine sk_S.icmp_le (tgt := 18) (dd DX7_told 5 rfl) (by decide) (fun c8 => ?_) (fun c8 => ?_)
    · obtain ⟨j, h1j, h6, rfl⟩ := rg16 ⟨Int32.not_lt.mp c2, c8⟩
      refine sk_S.aload_n (i := 0) (dd DX7_told 10 rfl) rfl rfl ?_
      refine sk_S.getr (dd DX7_told 11 rfl) rfl fX7_39 se_0 (by decide) rfl ?_
      refine sk_S.iload_n (i := 1) (dd DX7_told 12 rfl) rfl rfl ?_
      refine sk_S.iald (dd DX7_told 13 rfl) se_6 (sk_ix_nI (k := j) rfl (by omega) (by decide)) ?_
      refine sk_S.iret (dd DX7_told 14 rfl) rfl rfl ?_
      rw [cif_t ⟨j, h1j, h6, rfl⟩]
      exact ⟨sk_o.rf, hR, by rw [hZ j (by omega)]⟩
    · refine sk_S.aload_n (i := 0) (dd DX7_told 6 rfl) rfl rfl ?_
      refine sk_S.ldc (dd DX7_told 7 rfl) rfl cnX7_48 ?_
      refine sk_S.callV (dd DX7_told 8 rfl) rfl kX7_49 (cC_refuse (k := 1) (by decide) (by decide) (by decide)) se_0 (by decide) rfl rfl rfl rfl (Nat.le_of_ble_eq_true rfl) (fun r14 h14 q14 => ?_)
      obtain ⟨rfl, rfl⟩ := q14
      show sk_S _ _ _ _ _ _ (.int _ :: _) _ _
      refine sk_S.iret (dd DX7_told 9 rfl) rfl rfl ?_
      rw [cif_f (fun z => by
        obtain ⟨j, h1, h2, rfl⟩ := z
        exact c8 (nI_le (b := 6) h2 (by decide)))]
      exact oC.er (j := 1) hR sk_o.rf
theorem st_fits0 {l : Launch} {E : sk_V} {d : Nat} {h : sk_M} {s : Int32} {w : Int32} (HZ : Inv0 h) : sk_K l E (d + 200) MX7_fits [.ref 0, .int s, .int w] h (fun r h1 => ∃ v1, some (.int v1) = r ∧ sk_K l E (d + 200) MX8_fits [.ref 54, .int s, .int w] h1 (fun r2 h2 => ∃ w1, some (.int w1) = r2 ∧ Inv h2 ∧ v1 = w1)) := by
  have H := HZ.1
  exact st_of2 H (cP_fits0 (d := d + 192) H.1 (fun j hj => ((H.2.2.1 j hj).2.1).trans (HZ.2.1 j hj))) (fun h1 o1 => by
    have f55 : h1 55 = h 55 := o1 55 (by decide)
    have f58 : h1 58 = h 58 := o1 58 (by decide)
    have f59 : h1 59 = h 59 := o1 59 (by decide)
    have f60 : h1 60 = h 60 := o1 60 (by decide)
    have shi : shI h1 := fun j hj => by
      obtain ⟨-, -, ⟨len, l24, e1, -⟩, -⟩ := (H.2.2.1.o o1 (by decide)) j hj
      unfold shN
      rw [e1, nI_clamp (by omega)]
      exact ⟨rfl, l24⟩
    have boi : boI (h1 55) := by rw [f55]; exact H.2.1.b
    have i0 : lawI (h1 55) 0 := by rw [f55]; exact H.2.1.i0
    rw [← f55]
    refine (cM_fits (l := l) (E := E) (d := d + 193) (h := h1) (s := s) (w := w) boi i0 shi).mono (fun r h2 q => ?_)
    rcases q with ⟨c, q⟩ | ⟨j, hj, rfl, c, ⟨c2, q⟩ | ⟨c2, q⟩⟩
    · rw [cif_f c]
      exact oM.er q
    · rw [cif_t ⟨⟨j, hj, rfl⟩, c⟩]
      exact oM.er q
    · exact absurd (by rw [f58]; exact HZ.2.1 j hj) c2) H.2.1
theorem st_judge0 {l : Launch} {E : sk_V} {d : Nat} {h : sk_M} {s : Int32} (HZ : Inv0 h) : sk_K l E (d + 200) MX7_judge [.ref 0, .int s] h (fun r h1 => ∃ v1, some (.int v1) = r ∧ sk_K l E (d + 200) MX8_judge [.ref 54, .int s] h1 (fun r2 h2 => ∃ w1, some (.int w1) = r2 ∧ Inv h2 ∧ v1 = w1)) := by
  have H := HZ.1
  exact st_of2 H (cP_judge0 (d := d + 192) H.1 (fun j hj => ((H.2.2.1 j hj).2.1).trans (HZ.2.1 j hj))) (fun h1 o1 => by
    have f55 : h1 55 = h 55 := o1 55 (by decide)
    have f58 : h1 58 = h 58 := o1 58 (by decide)
    have f59 : h1 59 = h 59 := o1 59 (by decide)
    have f60 : h1 60 = h 60 := o1 60 (by decide)
    have shi : shI h1 := fun j hj => by
      obtain ⟨-, -, ⟨len, l24, e1, -⟩, -⟩ := (H.2.2.1.o o1 (by decide)) j hj
      unfold shN
      rw [e1, nI_clamp (by omega)]
      exact ⟨rfl, l24⟩
    have boi : boI (h1 55) := by rw [f55]; exact H.2.1.b
    have i0 : lawI (h1 55) 0 := by rw [f55]; exact H.2.1.i0
    rw [← f55]
    refine (cM_judge (l := l) (E := E) (d := d + 193) (h := h1) (s := s) boi i0 shi).mono (fun r h2 q => ?_)
    rcases q with ⟨c, q⟩ | ⟨j, hj, rfl, c, q⟩
    · by_cases z : inN s 4
      · rw [cif_t z]
        have e : ntK h1 s = 2 := by
          obtain ⟨j, hj, rfl⟩ := z
          unfold ntK
          rw [if_pos ⟨j, hj, rfl⟩, nI_clamp (by omega), if_pos (by rw [f58]; exact HZ.2.1 j hj)]
        rw [e] at q
        exact oM.er q
      · rw [cif_f z]
        have e : ntK h1 s = 1 := by
          unfold ntK
          rw [if_neg z]
        rw [e] at q
        exact oM.er q
    · exact absurd (by rw [f58]; exact HZ.2.1 j hj) c) H.2.1
theorem st_told0 {l : Launch} {E : sk_V} {d : Nat} {h : sk_M} {k : Int32} (HZ : Inv0 h) : sk_K l E (d + 200) MX7_told [.ref 0, .int k] h (fun r h1 => ∃ v1, some (.int v1) = r ∧ sk_K l E (d + 200) MX8_told [.ref 54, .int k] h1 (fun r2 h2 => ∃ w1, some (.int w1) = r2 ∧ Inv h2 ∧ v1 = w1)) := by
  have H := HZ.1
  exact st_of2 H (cP_told0 (d := d + 195) H.1 (fun k hk => (HZ.2.2 k hk).1)) (fun h1 o1 => by
    have f55 : h1 55 = h 55 := o1 55 (by decide)
    have f58 : h1 58 = h 58 := o1 58 (by decide)
    have f59 : h1 59 = h 59 := o1 59 (by decide)
    have f60 : h1 60 = h 60 := o1 60 (by decide)
    have shi : shI h1 := fun j hj => by
      obtain ⟨-, -, ⟨len, l24, e1, -⟩, -⟩ := (H.2.2.1.o o1 (by decide)) j hj
      unfold shN
      rw [e1, nI_clamp (by omega)]
      exact ⟨rfl, l24⟩
    have boi : boI (h1 55) := by rw [f55]; exact H.2.1.b
    have i0 : lawI (h1 55) 0 := by rw [f55]; exact H.2.1.i0
    rw [← f55]
    refine (cM_told (l := l) (E := E) (d := d + 199) (h := h1) (k := k) ).mono (fun r h2 q => ?_)
    rcases q with ⟨j, h1j, h6j, rfl, rfl, rfl⟩ | ⟨c, q⟩
    · rw [cif_t ⟨j, h1j, h6j, rfl⟩]
      have e : h1 57 j = 0 := by rw [o1 57 (by decide)]; exact (HZ.2.2 j (by omega)).2
      rw [← e]
      exact oM.o sk_o.rf rfl
    · rw [cif_f c]
      exact oM.er q) H.2.1
end S2
