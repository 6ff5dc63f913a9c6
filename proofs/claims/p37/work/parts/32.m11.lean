section M11
set_option maxRecDepth 100000 in
set_option maxHeartbeats 4000000 in
theorem lp_right {l : Launch} {E : sk_V} {d : Nat} {h : sk_M} {ρ : Nat → Int32} {s len : Nat} (hs4 : s < 4) (hρ : h 55 = ρ) (hb : boI ρ) (hI : lawI ρ 0) (hl : h 59 s = nI len) (hl24 : len ≤ 24) : ∀ (m i : Nat) (g : sk_M), i + m = 4 → sk_o [63, 64] h g → (soF (rgP ρ (ceV h s) len (ρ 3)) 4 0) = (soF (rgP ρ (ceV h s) len (ρ 3)) m i) → sk_S l E (d + 6) MX8_rightOf 2 [some (.ref 54), some (.int (nI s)), some (.int (nI i))] [] g (fun r h1 => sk_o [63, 64] h h1 ∧ some (.int (nI (soF (rgP ρ (ceV h s) len (ρ 3)) 4 0))) = r)
  | 0, i, g, hi, ho, hs => by
    have hi4 : i = 4 := by omega
    subst hi4
    refine sk_S.iload_n (i := 2) (dd DX8_rightOf 2 rfl) rfl rfl ?_
    refine sk_S.aload_n (i := 0) (dd DX8_rightOf 3 rfl) rfl rfl ?_
    refine sk_S.getr (dd DX8_rightOf 4 rfl) rfl fX8_22 se_54 (by decide) rfl ?_
    refine sk_S.iload_n (i := 1) (dd DX8_rightOf 5 rfl) rfl rfl ?_
    refine sk_S.iald (dd DX8_rightOf 6 rfl) se_59 (sk_ix_nI (k := s) rfl (by omega) (by decide)) ?_
    refine sk_S.icmp_ge (tgt := 42) (dd DX8_rightOf 7 rfl) (by decide) (fun c9 => ?_) (fun c9 => ?_)
    · refine sk_S.iload_n (i := 2) (dd DX8_rightOf 25 rfl) rfl rfl ?_
      refine sk_S.iret (dd DX8_rightOf 26 rfl) rfl rfl ?_
      refine ⟨ho, ?_⟩
      rw [hs]
      rfl
    · refine sk_S.iload_n (i := 2) (dd DX8_rightOf 8 rfl) rfl rfl ?_
      refine sk_S.iconst (v := 4) (dd DX8_rightOf 9 rfl) (by decide) ?_
      refine sk_S.icmp_ge (tgt := 42) (dd DX8_rightOf 10 rfl) (by decide) (fun c14 => ?_) (fun c14 => absurd (by decide) c14)
      refine sk_S.iload_n (i := 2) (dd DX8_rightOf 25 rfl) rfl rfl ?_
      refine sk_S.iret (dd DX8_rightOf 26 rfl) rfl rfl ?_
      refine ⟨ho, ?_⟩
      rw [hs]
      rfl
  | m + 1, i, g, hi, ho, hs => by
    have e55 : g 55 = ρ := (ho 55 (by decide)).trans hρ
    have e59 : g 59 = h 59 := ho 59 (by decide)
    have e60 : g 60 = h 60 := ho 60 (by decide)
    refine sk_S.iload_n (i := 2) (dd DX8_rightOf 2 rfl) rfl rfl ?_
    refine sk_S.aload_n (i := 0) (dd DX8_rightOf 3 rfl) rfl rfl ?_
    refine sk_S.getr (dd DX8_rightOf 4 rfl) rfl fX8_22 se_54 (by decide) rfl ?_
    refine sk_S.iload_n (i := 1) (dd DX8_rightOf 5 rfl) rfl rfl ?_
    refine sk_S.iald (dd DX8_rightOf 6 rfl) se_59 (sk_ix_nI (k := s) rfl (by omega) (by decide)) ?_
    refine sk_S.icmp_ge (tgt := 42) (dd DX8_rightOf 7 rfl) (by decide) (fun c9 => ?_) (fun c9 => ?_)
    · refine sk_S.iload_n (i := 2) (dd DX8_rightOf 25 rfl) rfl rfl ?_
      refine sk_S.iret (dd DX8_rightOf 26 rfl) rfl rfl ?_
      have c9n : ¬ i < len := by
        rw [e59, hl, nI_leI (by omega) (by omega)] at c9
        omega
      have eP : rgP ρ (ceV h s) len (ρ 3) i = true := by
        unfold rgP
        apply decide_eq_true
        intro q
        exact c9n q.1
      refine ⟨ho, ?_⟩
      rw [hs]
      show some (Value.int (nI (if _ then _ else _))) = _
      rw [eP]
      rfl
    · refine sk_S.iload_n (i := 2) (dd DX8_rightOf 8 rfl) rfl rfl ?_
      refine sk_S.iconst (v := 4) (dd DX8_rightOf 9 rfl) (by decide) ?_
      refine sk_S.icmp_ge (tgt := 42) (dd DX8_rightOf 10 rfl) (by decide) (fun c14 => absurd c14 (nI_ge (b := 4) (by omega) (by decide))) (fun c14 => ?_)
      refine sk_S.aload_n (i := 0) (dd DX8_rightOf 11 rfl) rfl rfl ?_
      refine sk_S.getr (dd DX8_rightOf 12 rfl) rfl fX8_25 se_54 (by decide) rfl ?_
      refine sk_S.bipush (v := 24) (dd DX8_rightOf 13 rfl) (by decide) ?_
      refine sk_S.iload_n (i := 1) (dd DX8_rightOf 14 rfl) rfl rfl ?_
      refine sk_S.imul (dd DX8_rightOf 15 rfl) ?_
      refine sk_S.iload_n (i := 2) (dd DX8_rightOf 16 rfl) rfl rfl ?_
      refine sk_S.iadd (dd DX8_rightOf 17 rfl) ?_
      refine sk_S.iald (dd DX8_rightOf 18 rfl) se_60 (sk_ix_e (k := 24 * s + i) (ix_24 s i) (by omega) (by decide)) ?_
      refine sk_S.aload_n (i := 0) (dd DX8_rightOf 19 rfl) rfl rfl ?_
      refine sk_S.iload_n (i := 2) (dd DX8_rightOf 20 rfl) rfl rfl ?_
      refine sk_S.callV (dd DX8_rightOf 21 rfl) rfl kX8_181 (cM_catchOf (f := i) (by omega) e55 hb hI) se_54 (by decide) rfl rfl rfl rfl (Nat.le_of_ble_eq_true rfl) (fun r30 h30 q30 => ?_)
      obtain ⟨o2, rfl⟩ := q30
      show sk_S _ _ _ _ _ _ (.int _ :: _) _ _
      refine sk_S.icmp_ne (tgt := 42) (dd DX8_rightOf 22 rfl) (by decide) (fun c33 => ?_) (fun c33 => ?_)
      · refine sk_S.iload_n (i := 2) (dd DX8_rightOf 25 rfl) rfl rfl ?_
        refine sk_S.iret (dd DX8_rightOf 26 rfl) rfl rfl ?_
        have eP : rgP ρ (ceV h s) len (ρ 3) i = true := by
          unfold rgP
          apply decide_eq_true
          intro q
          rw [e60] at c33; exact c33 q.2
        refine ⟨(ho.tr o2), ?_⟩
        rw [hs]
        show some (Value.int (nI (if _ then _ else _))) = _
        rw [eP]
        rfl
      · refine sk_S.iinc (i := 2) (v := _ + 1) (dd DX8_rightOf 23 rfl) rfl rfl rfl ?_
        refine sk_S.goto (tgt := 2) (dd DX8_rightOf 24 rfl) (by decide) ?_
        have eP : rgP ρ (ceV h s) len (ρ 3) i = false := by
          unfold rgP
          apply decide_eq_false
          intro q
          apply q
          refine ⟨Nat.lt_of_not_le (fun q2 => c9 (by rw [e59, hl]; exact nI_le q2 (by omega))), ?_⟩
          rw [e60] at c33
          exact c33
        have e9 : (soF (rgP ρ (ceV h s) len (ρ 3)) 4 0) = (soF (rgP ρ (ceV h s) len (ρ 3)) m (i + 1)) := by
          rw [hs]
          show (if _ then _ else _) = _
          rw [eP]
          rfl
        exact sk_S.L (lp_right hs4 hρ hb hI hl hl24 m (i + 1) _ (by omega) (ho.tr o2) e9) (by rw [nI_succ]; rfl)
set_option maxRecDepth 100000 in
set_option maxHeartbeats 4000000 in
theorem cM_rightOf {l : Launch} {E : sk_V} {d : Nat} {h : sk_M} {ρ : Nat → Int32} {s len : Nat} (hs4 : s < 4) (hρ : h 55 = ρ) (hb : boI ρ) (hI : lawI ρ 0) (hl : h 59 s = nI len) (hl24 : len ≤ 24) : sk_K l E (d + 6) MX8_rightOf [.ref 54, .int (nI s)] h (fun r h1 => sk_o [63, 64] h h1 ∧ some (.int (nI (rgN ρ (ceV h s) len (ρ 3)))) = r) := by
  refine sk_K.of (by decide +kernel) (Nat.le_of_ble_eq_true rfl) ?_
  show sk_S l E (d + 6) _ 0 [some (.ref 54), some (.int (nI s)), none] [] h _
  refine sk_S.iconst (v := 0) (dd DX8_rightOf 0 rfl) (by decide) ?_
  refine sk_S.istore_n (i := 2) (dd DX8_rightOf 1 rfl) rfl (Nat.le_of_ble_eq_true rfl) rfl ?_
  exact lp_right hs4 hρ hb hI hl hl24 4 0 h rfl sk_o.rf rfl
set_option maxRecDepth 100000 in
set_option maxHeartbeats 4000000 in
theorem cM_notThere {l : Launch} {E : sk_V} {d : Nat} {h : sk_M} {x : Int32}  : sk_K l E (d + 2) MX8_notThere [.ref 54, .int x] h (fun r h1 => h = h1 ∧ some (.int (wI (ntK h x))) = r) := by
  refine sk_K.of (by decide +kernel) (Nat.le_of_ble_eq_true rfl) ?_
  show sk_S l E (d + 2) _ 0 [some (.ref 54), some (.int x)] [] h _
  refine sk_S.iload_n (i := 1) (dd DX8_notThere 0 rfl) rfl rfl ?_
  refine sk_S.callS (dd DX8_notThere 1 rfl) rfl kX8_200 cM_isSheet rfl rfl rfl (Nat.le_of_ble_eq_true rfl) (fun r1 h1 q1 => ?_)
  obtain ⟨rfl, rfl⟩ := q1
  show sk_S _ _ _ _ _ _ (.int _ :: _) _ _
  refine sk_S.bif_ne (tgt := 12) (dd DX8_notThere 2 rfl) (by decide) (fun c4 => ?_) (fun c4 => ?_)
  · obtain ⟨j, hj, rfl⟩ := (inN_le (n := 4) (by decide)).mp c4
    refine sk_S.aload_n (i := 0) (dd DX8_notThere 5 rfl) rfl rfl ?_
    refine sk_S.getr (dd DX8_notThere 6 rfl) rfl fX8_19 se_54 (by decide) rfl ?_
    refine sk_S.iload_n (i := 1) (dd DX8_notThere 7 rfl) rfl rfl ?_
    refine sk_S.iald (dd DX8_notThere 8 rfl) se_58 (sk_ix_nI (k := j) rfl (by omega) (by decide)) ?_
    refine sk_S.if_ne (tgt := 26) (dd DX8_notThere 9 rfl) (by decide) (fun c18 => ?_) (fun c18 => ?_)
    · refine sk_S.iconst (v := 0) (dd DX8_notThere 12 rfl) (by decide) ?_
      refine sk_S.iret (dd DX8_notThere 13 rfl) rfl rfl ?_
      refine ⟨rfl, ?_⟩
      rw [ntK_in hj, if_neg c18]
      rfl
    · refine sk_S.ldc (dd DX8_notThere 10 rfl) rfl cnX8_190 ?_
      refine sk_S.goto (tgt := 27) (dd DX8_notThere 11 rfl) (by decide) ?_
      refine sk_S.iret (dd DX8_notThere 13 rfl) rfl rfl ?_
      refine ⟨rfl, ?_⟩
      rw [ntK_in hj, if_pos c18]
      rfl
  · refine sk_S.ldc (dd DX8_notThere 3 rfl) rfl cnX8_73 ?_
    refine sk_S.goto (tgt := 27) (dd DX8_notThere 4 rfl) (by decide) ?_
    refine sk_S.iret (dd DX8_notThere 13 rfl) rfl rfl ?_
    refine ⟨rfl, ?_⟩
    rw [ntK_no (fun q => c4 ((inN_le (by decide)).mpr q))]
    rfl
set_option maxRecDepth 100000 in
set_option maxHeartbeats 4000000 in
theorem cM_judge {l : Launch} {E : sk_V} {d : Nat} {h : sk_M} {s : Int32} (hb : boI (h 55)) (hI : lawI (h 55) 0) (hS : shI h) : sk_K l E (d + 7) MX8_judge [.ref 54, .int s] h (fun r h1 => (¬ ntK h s = 0 ∧ erM h (ntK h s) h1 r) ∨ (∃ j, j < 4 ∧ s = nI j ∧ ¬ h 58 j = 0 ∧ sk_o [63, 64] h h1 ∧ some (.int (nI (rgN (h 55) (ceV h j) (shN h j) (h 55 3)))) = r)) := by
  refine sk_K.of (by decide +kernel) (Nat.le_of_ble_eq_true rfl) ?_
  show sk_S l E (d + 7) _ 0 [some (.ref 54), some (.int s), none] [] h _
  refine sk_S.aload_n (i := 0) (dd DX8_judge 0 rfl) rfl rfl ?_
  refine sk_S.iload_n (i := 1) (dd DX8_judge 1 rfl) rfl rfl ?_
  refine sk_S.callV (dd DX8_judge 2 rfl) rfl kX8_246 cM_notThere se_54 (by decide) rfl rfl rfl rfl (Nat.le_of_ble_eq_true rfl) (fun r2 h2 q2 => ?_)
  obtain ⟨rfl, rfl⟩ := q2
  show sk_S _ _ _ _ _ _ (.int _ :: _) _ _
  refine sk_S.istore_n (i := 2) (dd DX8_judge 3 rfl) rfl (Nat.le_of_ble_eq_true rfl) rfl ?_
  refine sk_S.iload_n (i := 2) (dd DX8_judge 4 rfl) rfl rfl ?_
  refine sk_S.if_eq (tgt := 18) (dd DX8_judge 5 rfl) (by decide) (fun c7 => ?_) (fun c7 => ?_)
  · have k0 : ntK h s = 0 := wI_0 c7 (by have := ntK_le h s; omega)
    obtain ⟨j, hj, rfl, hbj⟩ := ntK_0 k0
    obtain ⟨hl, hl24⟩ := hS j hj
    refine sk_S.aload_n (i := 0) (dd DX8_judge 10 rfl) rfl rfl ?_
    refine sk_S.iload_n (i := 1) (dd DX8_judge 11 rfl) rfl rfl ?_
    refine sk_S.callV (dd DX8_judge 12 rfl) rfl kX8_203 (cM_rightOf hj rfl hb hI hl hl24) se_54 (by decide) rfl rfl rfl rfl (Nat.le_of_ble_eq_true rfl) (fun r20 h20 q20 => ?_)
    obtain ⟨ho, rfl⟩ := q20
    show sk_S _ _ _ _ _ _ (.int _ :: _) _ _
    refine sk_S.iret (dd DX8_judge 13 rfl) rfl rfl ?_
    exact Or.inr ⟨j, hj, rfl, hbj, ho, rfl⟩
  · have k0 : ¬ ntK h s = 0 := fun q => c7 (by rw [q]; rfl)
    refine sk_S.aload_n (i := 0) (dd DX8_judge 6 rfl) rfl rfl ?_
    refine sk_S.iload_n (i := 2) (dd DX8_judge 7 rfl) rfl rfl ?_
    refine sk_S.callV (dd DX8_judge 8 rfl) rfl kX8_74 (cM_error (k := ntK h s) (wI_ix k0 (by have := ntK_le h s; omega))) se_54 (by decide) rfl rfl rfl rfl (Nat.le_of_ble_eq_true rfl) (fun r12 h12 q12 => ?_)
    obtain ⟨rfl, rfl⟩ := q12
    show sk_S _ _ _ _ _ _ (.int _ :: _) _ _
    refine sk_S.goto (tgt := 23) (dd DX8_judge 9 rfl) (by decide) ?_
    refine sk_S.iret (dd DX8_judge 13 rfl) rfl rfl ?_
    exact Or.inl ⟨k0, rfl, by rw [wI_er k0]⟩
set_option maxRecDepth 100000 in
set_option maxHeartbeats 4000000 in
theorem cM_put {l : Launch} {E : sk_V} {d : Nat} {h : sk_M} {s i v : Int32} (hS : shI h) : sk_K l E (d + 3) MX8_put [.ref 54, .int s, .int i, .int v] h (fun r h1 => (¬ ntK h s = 0 ∧ erM h (ntK h s) h1 r) ∨ (∃ j, j < 4 ∧ s = nI j ∧ ¬ h 58 j = 0 ∧ ((¬ inN i (shN h j) ∧ erM h 1 h1 r) ∨ (∃ q, q < shN h j ∧ i = nI q ∧ sk_u h 60 (24 * j + q) (ptV (h 58 j) v) = h1 ∧ some (.int 1) = r)))) := by
  refine sk_K.of (by decide +kernel) (Nat.le_of_ble_eq_true rfl) ?_
  show sk_S l E (d + 3) _ 0 [some (.ref 54), some (.int s), some (.int i), some (.int v), none] [] h _
  refine sk_S.aload_n (i := 0) (dd DX8_put 0 rfl) rfl rfl ?_
  refine sk_S.iload_n (i := 1) (dd DX8_put 1 rfl) rfl rfl ?_
  refine sk_S.callV (dd DX8_put 2 rfl) rfl kX8_246 cM_notThere se_54 (by decide) rfl rfl rfl rfl (Nat.le_of_ble_eq_true rfl) (fun r2 h2 q2 => ?_)
  obtain ⟨rfl, rfl⟩ := q2
  show sk_S _ _ _ _ _ _ (.int _ :: _) _ _
  refine sk_S.istore (i := 4) (dd DX8_put 3 rfl) (Nat.le_of_ble_eq_true rfl) rfl ?_
  refine sk_S.iload (i := 4) (dd DX8_put 4 rfl) rfl ?_
  refine sk_S.if_ne (tgt := 33) (dd DX8_put 5 rfl) (by decide) (fun c9 => ?_) (fun c9 => ?_)
  · have k0 : ¬ ntK h s = 0 := fun q => c9 (by rw [q]; rfl)
    refine sk_S.iload (i := 4) (dd DX8_put 18 rfl) rfl ?_
    refine sk_S.istore (i := 4) (dd DX8_put 19 rfl) (Nat.le_of_ble_eq_true rfl) rfl ?_
    refine sk_S.iload (i := 4) (dd DX8_put 20 rfl) rfl ?_
    refine sk_S.if_eq (tgt := 49) (dd DX8_put 21 rfl) (by decide) (fun c39 => absurd c39 (fun q => k0 (wI_0 q (by have := ntK_le h s; omega)))) (fun c39 => ?_)
    refine sk_S.aload_n (i := 0) (dd DX8_put 22 rfl) rfl rfl ?_
    refine sk_S.iload (i := 4) (dd DX8_put 23 rfl) rfl ?_
    refine sk_S.callV (dd DX8_put 24 rfl) rfl kX8_74 (cM_error (k := ntK h s) (wI_ix k0 (by have := ntK_le h s; omega))) se_54 (by decide) rfl rfl rfl rfl (Nat.le_of_ble_eq_true rfl) (fun r45 h45 q45 => ?_)
    obtain ⟨rfl, rfl⟩ := q45
    show sk_S _ _ _ _ _ _ (.int _ :: _) _ _
    refine sk_S.iret (dd DX8_put 25 rfl) rfl rfl ?_
    exact Or.inl ⟨k0, rfl, by rw [wI_er k0]⟩
  · have k0 : ntK h s = 0 := wI_0 c9 (by have := ntK_le h s; omega)
    obtain ⟨j, hj, rfl, hbj⟩ := ntK_0 k0
    obtain ⟨hl, hl24⟩ := hS j hj
    refine sk_S.iload_n (i := 2) (dd DX8_put 6 rfl) rfl rfl ?_
    refine sk_S.iconst (v := 0) (dd DX8_put 7 rfl) (by decide) ?_
    refine sk_S.aload_n (i := 0) (dd DX8_put 8 rfl) rfl rfl ?_
    refine sk_S.getr (dd DX8_put 9 rfl) rfl fX8_22 se_54 (by decide) rfl ?_
    refine sk_S.iload_n (i := 1) (dd DX8_put 10 rfl) rfl rfl ?_
    refine sk_S.iald (dd DX8_put 11 rfl) se_59 (sk_ix_nI (k := j) rfl (by omega) (by decide)) ?_
    refine sk_S.iconst (v := 1) (dd DX8_put 12 rfl) (by decide) ?_
    refine sk_S.isub (dd DX8_put 13 rfl) ?_
    refine sk_S.callS (dd DX8_put 14 rfl) rfl kX8_47 cM_in rfl rfl rfl (Nat.le_of_ble_eq_true rfl) (fun r22 h22 q22 => ?_)
    obtain ⟨rfl, rfl⟩ := q22
    show sk_S _ _ _ _ _ _ (.int _ :: _) _ _
    refine sk_S.bif_ne (tgt := 33) (dd DX8_put 15 rfl) (by decide) (fun c25 => ?_) (fun c25 => ?_)
    · rw [hl] at c25
      obtain ⟨q, hq, rfl⟩ := (inN_pred (by omega)).mp c25
      refine sk_S.iload (i := 4) (dd DX8_put 18 rfl) rfl ?_
      refine sk_S.istore (i := 4) (dd DX8_put 19 rfl) (Nat.le_of_ble_eq_true rfl) rfl ?_
      refine sk_S.iload (i := 4) (dd DX8_put 20 rfl) rfl ?_
      refine sk_S.if_eq (tgt := 49) (dd DX8_put 21 rfl) (by decide) (fun c39 => ?_) (fun c39 => absurd (by rw [k0]; rfl) c39)
      refine sk_S.aload_n (i := 0) (dd DX8_put 26 rfl) rfl rfl ?_
      refine sk_S.getr (dd DX8_put 27 rfl) rfl fX8_25 se_54 (by decide) rfl ?_
      refine sk_S.bipush (v := 24) (dd DX8_put 28 rfl) (by decide) ?_
      refine sk_S.iload_n (i := 1) (dd DX8_put 29 rfl) rfl rfl ?_
      refine sk_S.imul (dd DX8_put 30 rfl) ?_
      refine sk_S.iload_n (i := 2) (dd DX8_put 31 rfl) rfl rfl ?_
      refine sk_S.iadd (dd DX8_put 32 rfl) ?_
      refine sk_S.aload_n (i := 0) (dd DX8_put 33 rfl) rfl rfl ?_
      refine sk_S.getr (dd DX8_put 34 rfl) rfl fX8_19 se_54 (by decide) rfl ?_
      refine sk_S.iload_n (i := 1) (dd DX8_put 35 rfl) rfl rfl ?_
      refine sk_S.iald (dd DX8_put 36 rfl) se_58 (sk_ix_nI (k := j) rfl (by omega) (by decide)) ?_
      refine sk_S.bipush (v := 8) (dd DX8_put 37 rfl) (by decide) ?_
      refine sk_S.icmp_ne (tgt := 75) (dd DX8_put 38 rfl) (by decide) (fun c67 => ?_) (fun c67 => ?_)
      · refine sk_S.aload_n (i := 0) (dd DX8_put 42 rfl) rfl rfl ?_
        refine sk_S.getr (dd DX8_put 43 rfl) rfl fX8_19 se_54 (by decide) rfl ?_
        refine sk_S.iload_n (i := 1) (dd DX8_put 44 rfl) rfl rfl ?_
        refine sk_S.iald (dd DX8_put 45 rfl) se_58 (sk_ix_nI (k := j) rfl (by omega) (by decide)) ?_
        refine sk_S.bipush (v := 16) (dd DX8_put 46 rfl) (by decide) ?_
        refine sk_S.icmp_ne (tgt := 91) (dd DX8_put 47 rfl) (by decide) (fun c83 => ?_) (fun c83 => ?_)
        · refine sk_S.iload_n (i := 3) (dd DX8_put 51 rfl) rfl rfl ?_
          refine sk_S.iast (dd DX8_put 52 rfl) se_60 (sk_ix_e (k := 24 * j + q) (ix_24 j q) (by omega) (by decide)) ?_
          refine sk_S.iconst (v := 1) (dd DX8_put 53 rfl) (by decide) ?_
          refine sk_S.iret (dd DX8_put 54 rfl) rfl rfl ?_
          refine Or.inr ⟨j, hj, rfl, hbj, Or.inr ⟨q, hq, rfl, ?_, rfl⟩⟩
          unfold ptV
          rw [if_neg c67, if_neg c83]
        · refine sk_S.iload_n (i := 3) (dd DX8_put 48 rfl) rfl rfl ?_
          refine sk_S.i2s (dd DX8_put 49 rfl) ?_
          refine sk_S.goto (tgt := 92) (dd DX8_put 50 rfl) (by decide) ?_
          refine sk_S.iast (dd DX8_put 52 rfl) se_60 (sk_ix_e (k := 24 * j + q) (ix_24 j q) (by omega) (by decide)) ?_
          refine sk_S.iconst (v := 1) (dd DX8_put 53 rfl) (by decide) ?_
          refine sk_S.iret (dd DX8_put 54 rfl) rfl rfl ?_
          refine Or.inr ⟨j, hj, rfl, hbj, Or.inr ⟨q, hq, rfl, ?_, rfl⟩⟩
          unfold ptV
          rw [if_neg c67, if_pos c83]
      · refine sk_S.iload_n (i := 3) (dd DX8_put 39 rfl) rfl rfl ?_
        refine sk_S.i2b (dd DX8_put 40 rfl) ?_
        refine sk_S.goto (tgt := 92) (dd DX8_put 41 rfl) (by decide) ?_
        refine sk_S.iast (dd DX8_put 52 rfl) se_60 (sk_ix_e (k := 24 * j + q) (ix_24 j q) (by omega) (by decide)) ?_
        refine sk_S.iconst (v := 1) (dd DX8_put 53 rfl) (by decide) ?_
        refine sk_S.iret (dd DX8_put 54 rfl) rfl rfl ?_
        refine Or.inr ⟨j, hj, rfl, hbj, Or.inr ⟨q, hq, rfl, ?_, rfl⟩⟩
        unfold ptV
        rw [if_pos c67]
    · refine sk_S.ldc (dd DX8_put 16 rfl) rfl cnX8_73 ?_
      refine sk_S.goto (tgt := 35) (dd DX8_put 17 rfl) (by decide) ?_
      refine sk_S.istore (i := 4) (dd DX8_put 19 rfl) (Nat.le_of_ble_eq_true rfl) rfl ?_
      refine sk_S.iload (i := 4) (dd DX8_put 20 rfl) rfl ?_
      refine sk_S.if_eq (tgt := 49) (dd DX8_put 21 rfl) (by decide) (fun c39 => absurd c39 (by decide)) (fun c39 => ?_)
      refine sk_S.aload_n (i := 0) (dd DX8_put 22 rfl) rfl rfl ?_
      refine sk_S.iload (i := 4) (dd DX8_put 23 rfl) rfl ?_
      refine sk_S.callV (dd DX8_put 24 rfl) rfl kX8_74 (cM_error (k := 1) ⟨by decide, by decide, by decide⟩) se_54 (by decide) rfl rfl rfl rfl (Nat.le_of_ble_eq_true rfl) (fun r45 h45 q45 => ?_)
      obtain ⟨rfl, rfl⟩ := q45
      show sk_S _ _ _ _ _ _ (.int _ :: _) _ _
      refine sk_S.iret (dd DX8_put 25 rfl) rfl rfl ?_
      exact Or.inr ⟨j, hj, rfl, hbj, Or.inl ⟨fun q => c25 (by rw [hl]; exact (inN_pred (by omega)).mpr q), rfl, rfl⟩⟩
set_option maxRecDepth 100000 in
set_option maxHeartbeats 4000000 in
theorem lp_prices {l : Launch} {E : sk_V} {d : Nat} {h : sk_M} {ρ : Nat → Int32} {j len : Nat} {x2 : Int32} (hj : j < 4) (hρ : h 55 = ρ) (hl : h 59 j = nI len) (hl24 : len ≤ 24) : ∀ (m i : Nat) (g : sk_M), i + m = 4 → sk_o [55] h g → g 55 = prR ρ (ceV h j) i → (soF (prP (ceV h j) len) 4 0) = (soF (prP (ceV h j) len) m i) → sk_S l E (d + 1) MX8_prices 18 [some (.ref 54), some (.int (nI j)), some (.int x2), some (.int (nI i))] [] g (fun r h1 => sk_o [55] h h1 ∧ h1 55 = prR ρ (ceV h j) (soF (prP (ceV h j) len) 4 0) ∧ some (.int (nI (soF (prP (ceV h j) len) 4 0))) = r)
  | 0, i, g, hi, ho, hg, hs => by
    have hi4 : i = 4 := by omega
    subst hi4
    refine sk_S.iload_n (i := 3) (dd DX8_prices 12 rfl) rfl rfl ?_
    refine sk_S.aload_n (i := 0) (dd DX8_prices 13 rfl) rfl rfl ?_
    refine sk_S.getr (dd DX8_prices 14 rfl) rfl fX8_22 se_54 (by decide) rfl ?_
    refine sk_S.iload_n (i := 1) (dd DX8_prices 15 rfl) rfl rfl ?_
    refine sk_S.iald (dd DX8_prices 16 rfl) se_59 (sk_ix_nI (k := j) rfl (by omega) (by decide)) ?_
    refine sk_S.icmp_ge (tgt := 79) (dd DX8_prices 17 rfl) (by decide) (fun c25 => ?_) (fun c25 => ?_)
    · refine sk_S.iload_n (i := 3) (dd DX8_prices 49 rfl) rfl rfl ?_
      refine sk_S.iret (dd DX8_prices 50 rfl) rfl rfl ?_
      rw [hs]
      exact ⟨ho, hg, rfl⟩
    · refine sk_S.iload_n (i := 3) (dd DX8_prices 18 rfl) rfl rfl ?_
      refine sk_S.iconst (v := 4) (dd DX8_prices 19 rfl) (by decide) ?_
      refine sk_S.icmp_ge (tgt := 79) (dd DX8_prices 20 rfl) (by decide) (fun c30 => ?_) (fun c30 => absurd (by decide) c30)
      refine sk_S.iload_n (i := 3) (dd DX8_prices 49 rfl) rfl rfl ?_
      refine sk_S.iret (dd DX8_prices 50 rfl) rfl rfl ?_
      rw [hs]
      exact ⟨ho, hg, rfl⟩
  | m + 1, i, g, hi, ho, hg, hs => by
    have e59 : g 59 = h 59 := ho 59 (by decide)
    have e60 : g 60 = h 60 := ho 60 (by decide)
    refine sk_S.iload_n (i := 3) (dd DX8_prices 12 rfl) rfl rfl ?_
    refine sk_S.aload_n (i := 0) (dd DX8_prices 13 rfl) rfl rfl ?_
    refine sk_S.getr (dd DX8_prices 14 rfl) rfl fX8_22 se_54 (by decide) rfl ?_
    refine sk_S.iload_n (i := 1) (dd DX8_prices 15 rfl) rfl rfl ?_
    refine sk_S.iald (dd DX8_prices 16 rfl) se_59 (sk_ix_nI (k := j) rfl (by omega) (by decide)) ?_
    refine sk_S.icmp_ge (tgt := 79) (dd DX8_prices 17 rfl) (by decide) (fun c25 => ?_) (fun c25 => ?_)
    · refine sk_S.iload_n (i := 3) (dd DX8_prices 49 rfl) rfl rfl ?_
      refine sk_S.iret (dd DX8_prices 50 rfl) rfl rfl ?_
      have c25n : ¬ i < len := by
        rw [e59, hl, nI_leI (by omega) (by omega)] at c25
        omega
      have eP : prP (ceV h j) len i = true := by
        unfold prP
        apply decide_eq_true
        intro q
        exact c25n q.1
      have e9 : (soF (prP (ceV h j) len) 4 0) = i := by
        rw [hs]
        show (if _ then _ else _) = _
        rw [eP]
        rfl
      rw [e9]
      exact ⟨ho, hg, rfl⟩
    · refine sk_S.iload_n (i := 3) (dd DX8_prices 18 rfl) rfl rfl ?_
      refine sk_S.iconst (v := 4) (dd DX8_prices 19 rfl) (by decide) ?_
      refine sk_S.icmp_ge (tgt := 79) (dd DX8_prices 20 rfl) (by decide) (fun c30 => absurd c30 (nI_ge (b := 4) (by omega) (by decide))) (fun c30 => ?_)
      refine sk_S.aload_n (i := 0) (dd DX8_prices 21 rfl) rfl rfl ?_
      refine sk_S.getr (dd DX8_prices 22 rfl) rfl fX8_25 se_54 (by decide) rfl ?_
      refine sk_S.bipush (v := 24) (dd DX8_prices 23 rfl) (by decide) ?_
      refine sk_S.iload_n (i := 1) (dd DX8_prices 24 rfl) rfl rfl ?_
      refine sk_S.imul (dd DX8_prices 25 rfl) ?_
      refine sk_S.iload_n (i := 3) (dd DX8_prices 26 rfl) rfl rfl ?_
      refine sk_S.iadd (dd DX8_prices 27 rfl) ?_
      refine sk_S.iald (dd DX8_prices 28 rfl) se_60 (sk_ix_e (k := 24 * j + i) (ix_24 j i) (by omega) (by decide)) ?_
      refine sk_S.iconst (v := 0) (dd DX8_prices 29 rfl) (by decide) ?_
      refine sk_S.bipush (v := 9) (dd DX8_prices 30 rfl) (by decide) ?_
      refine sk_S.callS (dd DX8_prices 31 rfl) rfl kX8_47 cM_in rfl rfl rfl (Nat.le_of_ble_eq_true rfl) (fun r47 h47 q47 => ?_)
      obtain ⟨rfl, rfl⟩ := q47
      show sk_S _ _ _ _ _ _ (.int _ :: _) _ _
      refine sk_S.bif_eq (tgt := 79) (dd DX8_prices 32 rfl) (by decide) (fun c50 => ?_) (fun c50 => ?_)
      · refine sk_S.iload_n (i := 3) (dd DX8_prices 49 rfl) rfl rfl ?_
        refine sk_S.iret (dd DX8_prices 50 rfl) rfl rfl ?_
        have eP : prP (ceV h j) len i = true := by
          unfold prP
          apply decide_eq_true
          intro q
          rw [e60] at c50; exact c50 q.2
        have e9 : (soF (prP (ceV h j) len) 4 0) = i := by
          rw [hs]
          show (if _ then _ else _) = _
          rw [eP]
          rfl
        rw [e9]
        exact ⟨ho, hg, rfl⟩
      · refine sk_S.aload_n (i := 0) (dd DX8_prices 33 rfl) rfl rfl ?_
        refine sk_S.getr (dd DX8_prices 34 rfl) rfl fX8_9 se_54 (by decide) rfl ?_
        refine sk_S.bipush (v := 13) (dd DX8_prices 35 rfl) (by decide) ?_
        refine sk_S.iload_n (i := 3) (dd DX8_prices 36 rfl) rfl rfl ?_
        refine sk_S.iadd (dd DX8_prices 37 rfl) ?_
        refine sk_S.aload_n (i := 0) (dd DX8_prices 38 rfl) rfl rfl ?_
        refine sk_S.getr (dd DX8_prices 39 rfl) rfl fX8_25 se_54 (by decide) rfl ?_
        refine sk_S.bipush (v := 24) (dd DX8_prices 40 rfl) (by decide) ?_
        refine sk_S.iload_n (i := 1) (dd DX8_prices 41 rfl) rfl rfl ?_
        refine sk_S.imul (dd DX8_prices 42 rfl) ?_
        refine sk_S.iload_n (i := 3) (dd DX8_prices 43 rfl) rfl rfl ?_
        refine sk_S.iadd (dd DX8_prices 44 rfl) ?_
        refine sk_S.iald (dd DX8_prices 45 rfl) se_60 (sk_ix_e (k := 24 * j + i) (ix_24 j i) (by omega) (by decide)) ?_
        refine sk_S.iast (dd DX8_prices 46 rfl) se_55 (sk_ix_e (k := 13 + i) (ix_add 13 i) (by omega) (by decide)) ?_
        refine sk_S.iinc (i := 3) (v := _ + 1) (dd DX8_prices 47 rfl) rfl rfl rfl ?_
        refine sk_S.goto (tgt := 18) (dd DX8_prices 48 rfl) (by decide) ?_
        have eP : prP (ceV h j) len i = false := by
          unfold prP
          apply decide_eq_false
          intro q
          apply q
          rw [e60] at c50
          exact ⟨Nat.lt_of_not_le (fun q2 => c25 (by rw [e59, hl]; exact nI_le q2 (by omega))), c50⟩
        have e9 : (soF (prP (ceV h j) len) 4 0) = (soF (prP (ceV h j) len) m (i + 1)) := by
          rw [hs]
          show (if _ then _ else _) = _
          rw [eP]
          rfl
        exact sk_S.L (lp_prices hj hρ hl hl24 m (i + 1) _ (by omega) (ho.u (by decide)) (by rw [sk_u, sk_r_eq, hg, e60, prR_s]) e9) (by rw [nI_succ]; rfl)
set_option maxRecDepth 100000 in
set_option maxHeartbeats 4000000 in
theorem cM_prices {l : Launch} {E : sk_V} {d : Nat} {h : sk_M} {s : Int32} (hS : shI h) : sk_K l E (d + 3) MX8_prices [.ref 54, .int s] h (fun r h1 => (¬ ntK h s = 0 ∧ erM h (ntK h s) h1 r) ∨ (∃ j, j < 4 ∧ s = nI j ∧ ¬ h 58 j = 0 ∧ sk_o [55] h h1 ∧ h1 55 = prR (h 55) (ceV h j) (soF (prP (ceV h j) (shN h j)) 4 0) ∧ some (.int (nI (soF (prP (ceV h j) (shN h j)) 4 0))) = r)) := by
  refine sk_K.of (by decide +kernel) (Nat.le_of_ble_eq_true rfl) ?_
  show sk_S l E (d + 3) _ 0 [some (.ref 54), some (.int s), none, none] [] h _
  refine sk_S.aload_n (i := 0) (dd DX8_prices 0 rfl) rfl rfl ?_
  refine sk_S.iload_n (i := 1) (dd DX8_prices 1 rfl) rfl rfl ?_
  refine sk_S.callV (dd DX8_prices 2 rfl) rfl kX8_246 cM_notThere se_54 (by decide) rfl rfl rfl rfl (Nat.le_of_ble_eq_true rfl) (fun r2 h2 q2 => ?_)
  obtain ⟨rfl, rfl⟩ := q2
  show sk_S _ _ _ _ _ _ (.int _ :: _) _ _
  refine sk_S.istore_n (i := 2) (dd DX8_prices 3 rfl) rfl (Nat.le_of_ble_eq_true rfl) rfl ?_
  refine sk_S.iload_n (i := 2) (dd DX8_prices 4 rfl) rfl rfl ?_
  refine sk_S.if_eq (tgt := 16) (dd DX8_prices 5 rfl) (by decide) (fun c7 => ?_) (fun c7 => ?_)
  · have k0 : ntK h s = 0 := wI_0 c7 (by have := ntK_le h s; omega)
    obtain ⟨j, hj, rfl, hbj⟩ := ntK_0 k0
    obtain ⟨hl, hl24⟩ := hS j hj
    refine sk_S.iconst (v := 0) (dd DX8_prices 10 rfl) (by decide) ?_
    refine sk_S.istore_n (i := 3) (dd DX8_prices 11 rfl) rfl (Nat.le_of_ble_eq_true rfl) rfl ?_
    refine sk_S.mono (lp_prices hj rfl hl hl24 4 0 h rfl sk_o.rf prR_0.symm rfl) ?_
    rintro r h1 ⟨q1, q2, q3⟩
    exact Or.inr ⟨j, hj, rfl, hbj, q1, q2, q3⟩
  · have k0 : ¬ ntK h s = 0 := fun q => c7 (by rw [q]; rfl)
    refine sk_S.aload_n (i := 0) (dd DX8_prices 6 rfl) rfl rfl ?_
    refine sk_S.iload_n (i := 2) (dd DX8_prices 7 rfl) rfl rfl ?_
    refine sk_S.callV (dd DX8_prices 8 rfl) rfl kX8_74 (cM_error (k := ntK h s) (wI_ix k0 (by have := ntK_le h s; omega))) se_54 (by decide) rfl rfl rfl rfl (Nat.le_of_ble_eq_true rfl) (fun r12 h12 q12 => ?_)
    obtain ⟨rfl, rfl⟩ := q12
    show sk_S _ _ _ _ _ _ (.int _ :: _) _ _
    refine sk_S.iret (dd DX8_prices 9 rfl) rfl rfl ?_
    exact Or.inl ⟨k0, rfl, by rw [wI_er k0]⟩
end M11
