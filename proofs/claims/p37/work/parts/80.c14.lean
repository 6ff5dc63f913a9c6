section C14
set_option maxRecDepth 100000 in
set_option maxHeartbeats 1000000 in
theorem cP_sheet {l : Launch} {E : sk_V} {d : Nat} {h : sk_M} {s b n : Int32}  : sk_K l E (d + 5) MX7_sheet [.ref 0, .int s, .int b, .int n] h (fun r h1 => (¬ shK s b n = 0 ∧ erC h (shK s b n) h1 r) ∨ (∃ j, j < 4 ∧ s = nI j ∧ okB b ∧ (b = 0 ∨ inN n 25) ∧ shK s b n = 0 ∧ layC h j b (if b = 0 then 0 else n) = h1 ∧ some (.int 1) = r)) := by
  refine sk_K.of (by decide +kernel) (Nat.le_of_ble_eq_true rfl) ?_
  show sk_S l E (d + 5) _ 0 [some (.ref 0), some (.int s), some (.int b), some (.int n)] [] h _
  refine sk_S.iload_n (i := 1) (dd DX7_sheet 0 rfl) rfl rfl ?_
  refine sk_S.callS (dd DX7_sheet 1 rfl) rfl kX7_206 cC_isSheet rfl rfl rfl (Nat.le_of_ble_eq_true rfl) (fun r1 h1 q1 => ?_)
  obtain ⟨rfl, rfl⟩ := q1
  show sk_S _ _ _ _ _ _ (.int _ :: _) _ _
  refine sk_S.bif_eq (tgt := 29) (dd DX7_sheet 2 rfl) (by decide) (fun c4 => ?_) (fun c4 => ?_)
  · refine sk_S.aload_n (i := 0) (dd DX7_sheet 14 rfl) rfl rfl ?_
    refine sk_S.ldc (dd DX7_sheet 15 rfl) rfl cnX7_48 ?_
    refine sk_S.callV (dd DX7_sheet 16 rfl) rfl kX7_49 (cC_refuse (k := 1) (by decide) (by decide) (by decide)) se_0 (by decide) rfl rfl rfl rfl (Nat.le_of_ble_eq_true rfl) (fun r32 h32 q32 => ?_)
    obtain ⟨rfl, rfl⟩ := q32
    show sk_S _ _ _ _ _ _ (.int _ :: _) _ _
    refine sk_S.iret (dd DX7_sheet 17 rfl) rfl rfl ?_
    have hk : shK s b n = 1 := cif_f (fun z => (c4 ((inN_lt (M := 4) (n := 4) (by decide)).mpr z.1)))
    exact Or.inl ⟨by rw [hk]; decide, by rw [hk]; exact ⟨rfl, rfl⟩⟩
  · refine sk_S.iload_n (i := 2) (dd DX7_sheet 3 rfl) rfl rfl ?_
    refine sk_S.if_eq (tgt := 36) (dd DX7_sheet 4 rfl) (by decide) (fun c8 => ?_) (fun c8 => ?_)
    · have hs4 := ((inN_lt (M := 4) (n := 4) (by decide)).mp c4)
      obtain ⟨j, hj, rfl⟩ := hs4
      have hob : okB b := (Or.inl c8)
      refine sk_S.iload_n (i := 2) (dd DX7_sheet 18 rfl) rfl rfl ?_
      refine sk_S.if_ne (tgt := 53) (dd DX7_sheet 19 rfl) (by decide) (fun c37 => absurd c8 c37) (fun c37 => ?_)
      refine sk_S.aload_n (i := 0) (dd DX7_sheet 20 rfl) rfl rfl ?_
      refine sk_S.getr (dd DX7_sheet 21 rfl) rfl fX7_35 se_0 (by decide) rfl ?_
      refine sk_S.iload_n (i := 1) (dd DX7_sheet 22 rfl) rfl rfl ?_
      refine sk_S.aald (dd DX7_sheet 23 rfl) se_5 rfl (sk_ix_nI (k := j) rfl hj (by decide)) (rf_sh hj) ?_
      refine sk_S.iconst (v := 0) (dd DX7_sheet 24 rfl) (by decide) ?_
      refine sk_S.iconst (v := 0) (dd DX7_sheet 25 rfl) (by decide) ?_
      refine sk_S.callV (dd DX7_sheet 26 rfl) rfl kX7_234 (cC_lay (se_sh hj) (se_sn hj)) (se_sh hj) (by decide) rfl rfl rfl rfl (Nat.le_of_ble_eq_true rfl) (fun r48 h48 q48 => ?_)
      obtain ⟨rfl, rfl⟩ := q48
      show sk_S _ _ _ _ 51 _ _ _ _
      refine sk_S.iconst (v := 1) (dd DX7_sheet 27 rfl) (by decide) ?_
      refine sk_S.iret (dd DX7_sheet 28 rfl) rfl rfl ?_
      have hk : shK (nI j) b n = 0 := by
        unfold shK
        rw [cif_t ⟨⟨j, hj, rfl⟩, hob⟩, cif_f (fun z => z.1 c8), cif_f (fun z => z.1 c8)]
      refine Or.inr ⟨j, hj, rfl, hob, Or.inl c8, hk, ?_, rfl⟩
      rw [if_pos c8, c8]
      rfl
    · refine sk_S.iload_n (i := 2) (dd DX7_sheet 5 rfl) rfl rfl ?_
      refine sk_S.bipush (v := 8) (dd DX7_sheet 6 rfl) (by decide) ?_
      refine sk_S.icmp_eq (tgt := 36) (dd DX7_sheet 7 rfl) (by decide) (fun c14 => ?_) (fun c14 => ?_)
      · have hs4 := ((inN_lt (M := 4) (n := 4) (by decide)).mp c4)
        obtain ⟨j, hj, rfl⟩ := hs4
        have hob : okB b := (Or.inr (Or.inl c14))
        refine sk_S.iload_n (i := 2) (dd DX7_sheet 18 rfl) rfl rfl ?_
        refine sk_S.if_ne (tgt := 53) (dd DX7_sheet 19 rfl) (by decide) (fun c37 => ?_) (fun c37 => absurd c37 (by rw [c14]; decide))
        refine sk_S.iload_n (i := 3) (dd DX7_sheet 29 rfl) rfl rfl ?_
        refine sk_S.if_ge (tgt := 64) (dd DX7_sheet 30 rfl) (by decide) (fun c54 => ?_) (fun c54 => ?_)
        · refine sk_S.iload_n (i := 3) (dd DX7_sheet 35 rfl) rfl rfl ?_
          refine sk_S.bipush (v := 24) (dd DX7_sheet 36 rfl) (by decide) ?_
          refine sk_S.icmp_le (tgt := 77) (dd DX7_sheet 37 rfl) (by decide) (fun c67 => ?_) (fun c67 => ?_)
          · refine sk_S.aload_n (i := 0) (dd DX7_sheet 42 rfl) rfl rfl ?_
            refine sk_S.getr (dd DX7_sheet 43 rfl) rfl fX7_35 se_0 (by decide) rfl ?_
            refine sk_S.iload_n (i := 1) (dd DX7_sheet 44 rfl) rfl rfl ?_
            refine sk_S.aald (dd DX7_sheet 45 rfl) se_5 rfl (sk_ix_nI (k := j) rfl hj (by decide)) (rf_sh hj) ?_
            refine sk_S.iload_n (i := 2) (dd DX7_sheet 46 rfl) rfl rfl ?_
            refine sk_S.iload_n (i := 3) (dd DX7_sheet 47 rfl) rfl rfl ?_
            refine sk_S.callV (dd DX7_sheet 48 rfl) rfl kX7_234 (cC_lay (se_sh hj) (se_sn hj)) (se_sh hj) (by decide) rfl rfl rfl rfl (Nat.le_of_ble_eq_true rfl) (fun r85 h85 q85 => ?_)
            obtain ⟨rfl, rfl⟩ := q85
            show sk_S _ _ _ _ 88 _ _ _ _
            refine sk_S.iconst (v := 1) (dd DX7_sheet 49 rfl) (by decide) ?_
            refine sk_S.iret (dd DX7_sheet 50 rfl) rfl rfl ?_
            have hk : shK (nI j) b n = 0 := by
              unfold shK
              rw [cif_t ⟨⟨j, hj, rfl⟩, hob⟩, cif_f (fun z => absurd c54 (Int32.not_le.mpr z.2)), cif_f (fun z => absurd c67 (Int32.not_le.mpr z.2))]
            refine Or.inr ⟨j, hj, rfl, hob, Or.inr ((inN_le (M := 24) (n := 25) (by decide)).mp ⟨c54, c67⟩), hk, ?_, rfl⟩
            rw [if_neg (by rw [c14]; decide)]
            rfl
          · refine sk_S.aload_n (i := 0) (dd DX7_sheet 38 rfl) rfl rfl ?_
            refine sk_S.ldc (dd DX7_sheet 39 rfl) rfl cnX7_48 ?_
            refine sk_S.callV (dd DX7_sheet 40 rfl) rfl kX7_49 (cC_refuse (k := 1) (by decide) (by decide) (by decide)) se_0 (by decide) rfl rfl rfl rfl (Nat.le_of_ble_eq_true rfl) (fun r73 h73 q73 => ?_)
            obtain ⟨rfl, rfl⟩ := q73
            show sk_S _ _ _ _ _ _ (.int _ :: _) _ _
            refine sk_S.iret (dd DX7_sheet 41 rfl) rfl rfl ?_
            have hk : shK (nI j) b n = 1 := by
              unfold shK
              rw [cif_t ⟨⟨j, hj, rfl⟩, hob⟩, cif_f (fun z => absurd c54 (Int32.not_le.mpr z.2)), cif_t ⟨(by rw [c14]; decide), Int32.not_le.mp c67⟩]
            exact Or.inl ⟨by rw [hk]; decide, by rw [hk]; exact ⟨rfl, rfl⟩⟩
        · refine sk_S.aload_n (i := 0) (dd DX7_sheet 31 rfl) rfl rfl ?_
          refine sk_S.ldc (dd DX7_sheet 32 rfl) rfl cnX7_110 ?_
          refine sk_S.callV (dd DX7_sheet 33 rfl) rfl kX7_49 (cC_refuse (k := 3) (by decide) (by decide) (by decide)) se_0 (by decide) rfl rfl rfl rfl (Nat.le_of_ble_eq_true rfl) (fun r60 h60 q60 => ?_)
          obtain ⟨rfl, rfl⟩ := q60
          show sk_S _ _ _ _ _ _ (.int _ :: _) _ _
          refine sk_S.iret (dd DX7_sheet 34 rfl) rfl rfl ?_
          have hk : shK (nI j) b n = 3 := by
            unfold shK
            rw [cif_t ⟨⟨j, hj, rfl⟩, hob⟩, cif_t ⟨(by rw [c14]; decide), Int32.not_le.mp c54⟩]
          exact Or.inl ⟨by rw [hk]; decide, by rw [hk]; exact ⟨rfl, rfl⟩⟩
      · refine sk_S.iload_n (i := 2) (dd DX7_sheet 8 rfl) rfl rfl ?_
        refine sk_S.bipush (v := 16) (dd DX7_sheet 9 rfl) (by decide) ?_
        refine sk_S.icmp_eq (tgt := 36) (dd DX7_sheet 10 rfl) (by decide) (fun c20 => ?_) (fun c20 => ?_)
        · have hs4 := ((inN_lt (M := 4) (n := 4) (by decide)).mp c4)
          obtain ⟨j, hj, rfl⟩ := hs4
          have hob : okB b := (Or.inr (Or.inr (Or.inl c20)))
          refine sk_S.iload_n (i := 2) (dd DX7_sheet 18 rfl) rfl rfl ?_
          refine sk_S.if_ne (tgt := 53) (dd DX7_sheet 19 rfl) (by decide) (fun c37 => ?_) (fun c37 => absurd c37 (by rw [c20]; decide))
          refine sk_S.iload_n (i := 3) (dd DX7_sheet 29 rfl) rfl rfl ?_
          refine sk_S.if_ge (tgt := 64) (dd DX7_sheet 30 rfl) (by decide) (fun c54 => ?_) (fun c54 => ?_)
          · refine sk_S.iload_n (i := 3) (dd DX7_sheet 35 rfl) rfl rfl ?_
            refine sk_S.bipush (v := 24) (dd DX7_sheet 36 rfl) (by decide) ?_
            refine sk_S.icmp_le (tgt := 77) (dd DX7_sheet 37 rfl) (by decide) (fun c67 => ?_) (fun c67 => ?_)
            · refine sk_S.aload_n (i := 0) (dd DX7_sheet 42 rfl) rfl rfl ?_
              refine sk_S.getr (dd DX7_sheet 43 rfl) rfl fX7_35 se_0 (by decide) rfl ?_
              refine sk_S.iload_n (i := 1) (dd DX7_sheet 44 rfl) rfl rfl ?_
              refine sk_S.aald (dd DX7_sheet 45 rfl) se_5 rfl (sk_ix_nI (k := j) rfl hj (by decide)) (rf_sh hj) ?_
              refine sk_S.iload_n (i := 2) (dd DX7_sheet 46 rfl) rfl rfl ?_
              refine sk_S.iload_n (i := 3) (dd DX7_sheet 47 rfl) rfl rfl ?_
              refine sk_S.callV (dd DX7_sheet 48 rfl) rfl kX7_234 (cC_lay (se_sh hj) (se_sn hj)) (se_sh hj) (by decide) rfl rfl rfl rfl (Nat.le_of_ble_eq_true rfl) (fun r85 h85 q85 => ?_)
              obtain ⟨rfl, rfl⟩ := q85
              show sk_S _ _ _ _ 88 _ _ _ _
              refine sk_S.iconst (v := 1) (dd DX7_sheet 49 rfl) (by decide) ?_
              refine sk_S.iret (dd DX7_sheet 50 rfl) rfl rfl ?_
              have hk : shK (nI j) b n = 0 := by
                unfold shK
                rw [cif_t ⟨⟨j, hj, rfl⟩, hob⟩, cif_f (fun z => absurd c54 (Int32.not_le.mpr z.2)), cif_f (fun z => absurd c67 (Int32.not_le.mpr z.2))]
              refine Or.inr ⟨j, hj, rfl, hob, Or.inr ((inN_le (M := 24) (n := 25) (by decide)).mp ⟨c54, c67⟩), hk, ?_, rfl⟩
              rw [if_neg (by rw [c20]; decide)]
              rfl
            · refine sk_S.aload_n (i := 0) (dd DX7_sheet 38 rfl) rfl rfl ?_
              refine sk_S.ldc (dd DX7_sheet 39 rfl) rfl cnX7_48 ?_
              refine sk_S.callV (dd DX7_sheet 40 rfl) rfl kX7_49 (cC_refuse (k := 1) (by decide) (by decide) (by decide)) se_0 (by decide) rfl rfl rfl rfl (Nat.le_of_ble_eq_true rfl) (fun r73 h73 q73 => ?_)
              obtain ⟨rfl, rfl⟩ := q73
              show sk_S _ _ _ _ _ _ (.int _ :: _) _ _
              refine sk_S.iret (dd DX7_sheet 41 rfl) rfl rfl ?_
              have hk : shK (nI j) b n = 1 := by
                unfold shK
                rw [cif_t ⟨⟨j, hj, rfl⟩, hob⟩, cif_f (fun z => absurd c54 (Int32.not_le.mpr z.2)), cif_t ⟨(by rw [c20]; decide), Int32.not_le.mp c67⟩]
              exact Or.inl ⟨by rw [hk]; decide, by rw [hk]; exact ⟨rfl, rfl⟩⟩
          · refine sk_S.aload_n (i := 0) (dd DX7_sheet 31 rfl) rfl rfl ?_
            refine sk_S.ldc (dd DX7_sheet 32 rfl) rfl cnX7_110 ?_
            refine sk_S.callV (dd DX7_sheet 33 rfl) rfl kX7_49 (cC_refuse (k := 3) (by decide) (by decide) (by decide)) se_0 (by decide) rfl rfl rfl rfl (Nat.le_of_ble_eq_true rfl) (fun r60 h60 q60 => ?_)
            obtain ⟨rfl, rfl⟩ := q60
            show sk_S _ _ _ _ _ _ (.int _ :: _) _ _
            refine sk_S.iret (dd DX7_sheet 34 rfl) rfl rfl ?_
            have hk : shK (nI j) b n = 3 := by
              unfold shK
              rw [cif_t ⟨⟨j, hj, rfl⟩, hob⟩, cif_t ⟨(by rw [c20]; decide), Int32.not_le.mp c54⟩]
            exact Or.inl ⟨by rw [hk]; decide, by rw [hk]; exact ⟨rfl, rfl⟩⟩
        · refine sk_S.iload_n (i := 2) (dd DX7_sheet 11 rfl) rfl rfl ?_
          refine sk_S.bipush (v := 32) (dd DX7_sheet 12 rfl) (by decide) ?_
          refine sk_S.icmp_eq (tgt := 36) (dd DX7_sheet 13 rfl) (by decide) (fun c26 => ?_) (fun c26 => ?_)
          · have hs4 := ((inN_lt (M := 4) (n := 4) (by decide)).mp c4)
            obtain ⟨j, hj, rfl⟩ := hs4
            have hob : okB b := (Or.inr (Or.inr (Or.inr c26)))
            refine sk_S.iload_n (i := 2) (dd DX7_sheet 18 rfl) rfl rfl ?_
            refine sk_S.if_ne (tgt := 53) (dd DX7_sheet 19 rfl) (by decide) (fun c37 => ?_) (fun c37 => absurd c37 (by rw [c26]; decide))
            refine sk_S.iload_n (i := 3) (dd DX7_sheet 29 rfl) rfl rfl ?_
            refine sk_S.if_ge (tgt := 64) (dd DX7_sheet 30 rfl) (by decide) (fun c54 => ?_) (fun c54 => ?_)
            · refine sk_S.iload_n (i := 3) (dd DX7_sheet 35 rfl) rfl rfl ?_
              refine sk_S.bipush (v := 24) (dd DX7_sheet 36 rfl) (by decide) ?_
              refine sk_S.icmp_le (tgt := 77) (dd DX7_sheet 37 rfl) (by decide) (fun c67 => ?_) (fun c67 => ?_)
              · refine sk_S.aload_n (i := 0) (dd DX7_sheet 42 rfl) rfl rfl ?_
                refine sk_S.getr (dd DX7_sheet 43 rfl) rfl fX7_35 se_0 (by decide) rfl ?_
                refine sk_S.iload_n (i := 1) (dd DX7_sheet 44 rfl) rfl rfl ?_
                refine sk_S.aald (dd DX7_sheet 45 rfl) se_5 rfl (sk_ix_nI (k := j) rfl hj (by decide)) (rf_sh hj) ?_
                refine sk_S.iload_n (i := 2) (dd DX7_sheet 46 rfl) rfl rfl ?_
                refine sk_S.iload_n (i := 3) (dd DX7_sheet 47 rfl) rfl rfl ?_
                refine sk_S.callV (dd DX7_sheet 48 rfl) rfl kX7_234 (cC_lay (se_sh hj) (se_sn hj)) (se_sh hj) (by decide) rfl rfl rfl rfl (Nat.le_of_ble_eq_true rfl) (fun r85 h85 q85 => ?_)
                obtain ⟨rfl, rfl⟩ := q85
                show sk_S _ _ _ _ 88 _ _ _ _
                refine sk_S.iconst (v := 1) (dd DX7_sheet 49 rfl) (by decide) ?_
                refine sk_S.iret (dd DX7_sheet 50 rfl) rfl rfl ?_
                have hk : shK (nI j) b n = 0 := by
                  unfold shK
                  rw [cif_t ⟨⟨j, hj, rfl⟩, hob⟩, cif_f (fun z => absurd c54 (Int32.not_le.mpr z.2)), cif_f (fun z => absurd c67 (Int32.not_le.mpr z.2))]
                refine Or.inr ⟨j, hj, rfl, hob, Or.inr ((inN_le (M := 24) (n := 25) (by decide)).mp ⟨c54, c67⟩), hk, ?_, rfl⟩
                rw [if_neg (by rw [c26]; decide)]
                rfl
              · refine sk_S.aload_n (i := 0) (dd DX7_sheet 38 rfl) rfl rfl ?_
                refine sk_S.ldc (dd DX7_sheet 39 rfl) rfl cnX7_48 ?_
                refine sk_S.callV (dd DX7_sheet 40 rfl) rfl kX7_49 (cC_refuse (k := 1) (by decide) (by decide) (by decide)) se_0 (by decide) rfl rfl rfl rfl (Nat.le_of_ble_eq_true rfl) (fun r73 h73 q73 => ?_)
                obtain ⟨rfl, rfl⟩ := q73
                show sk_S _ _ _ _ _ _ (.int _ :: _) _ _
                refine sk_S.iret (dd DX7_sheet 41 rfl) rfl rfl ?_
                have hk : shK (nI j) b n = 1 := by
                  unfold shK
                  rw [cif_t ⟨⟨j, hj, rfl⟩, hob⟩, cif_f (fun z => absurd c54 (Int32.not_le.mpr z.2)), cif_t ⟨(by rw [c26]; decide), Int32.not_le.mp c67⟩]
                exact Or.inl ⟨by rw [hk]; decide, by rw [hk]; exact ⟨rfl, rfl⟩⟩
            · refine sk_S.aload_n (i := 0) (dd DX7_sheet 31 rfl) rfl rfl ?_
              refine sk_S.ldc (dd DX7_sheet 32 rfl) rfl cnX7_110 ?_
              refine sk_S.callV (dd DX7_sheet 33 rfl) rfl kX7_49 (cC_refuse (k := 3) (by decide) (by decide) (by decide)) se_0 (by decide) rfl rfl rfl rfl (Nat.le_of_ble_eq_true rfl) (fun r60 h60 q60 => ?_)
              obtain ⟨rfl, rfl⟩ := q60
              show sk_S _ _ _ _ _ _ (.int _ :: _) _ _
              refine sk_S.iret (dd DX7_sheet 34 rfl) rfl rfl ?_
              have hk : shK (nI j) b n = 3 := by
                unfold shK
                rw [cif_t ⟨⟨j, hj, rfl⟩, hob⟩, cif_t ⟨(by rw [c26]; decide), Int32.not_le.mp c54⟩]
              exact Or.inl ⟨by rw [hk]; decide, by rw [hk]; exact ⟨rfl, rfl⟩⟩
          · refine sk_S.aload_n (i := 0) (dd DX7_sheet 14 rfl) rfl rfl ?_
            refine sk_S.ldc (dd DX7_sheet 15 rfl) rfl cnX7_48 ?_
            refine sk_S.callV (dd DX7_sheet 16 rfl) rfl kX7_49 (cC_refuse (k := 1) (by decide) (by decide) (by decide)) se_0 (by decide) rfl rfl rfl rfl (Nat.le_of_ble_eq_true rfl) (fun r32 h32 q32 => ?_)
            obtain ⟨rfl, rfl⟩ := q32
            show sk_S _ _ _ _ _ _ (.int _ :: _) _ _
            refine sk_S.iret (dd DX7_sheet 17 rfl) rfl rfl ?_
            have hk : shK s b n = 1 := cif_f (fun z => z.2.elim c8 (fun z => z.elim c14 (fun z => z.elim c20 c26)))
            exact Or.inl ⟨by rw [hk]; decide, by rw [hk]; exact ⟨rfl, rfl⟩⟩
set_option maxRecDepth 100000 in
set_option maxHeartbeats 1000000 in
theorem cP_put {l : Launch} {E : sk_V} {d : Nat} {h : sk_M} {s i v : Int32} (hS : shQ h) : sk_K l E (d + 5) MX7_put [.ref 0, .int s, .int i, .int v] h (fun r h1 => (¬ ntK h s = 0 ∧ erC h (ntK h s) h1 r) ∨ (∃ j, j < 4 ∧ s = nI j ∧ ¬ h 58 j = 0 ∧ ntK h s = 0 ∧ ((¬ inN i (shN h j) ∧ erC h 1 h1 r) ∨ (∃ q, q < shN h j ∧ i = nI q ∧ sk_u h (11 + j) q (loV (h 58 j) v) = h1 ∧ some (.int 1) = r)))) := by
  refine sk_K.of (by decide +kernel) (Nat.le_of_ble_eq_true rfl) ?_
  show sk_S l E (d + 5) _ 0 [some (.ref 0), some (.int s), some (.int i), some (.int v), none] [] h _
  refine sk_S.iload_n (i := 1) (dd DX7_put 0 rfl) rfl rfl ?_
  refine sk_S.callS (dd DX7_put 1 rfl) rfl kX7_206 cC_isSheet rfl rfl rfl (Nat.le_of_ble_eq_true rfl) (fun r1 h1 q1 => ?_)
  obtain ⟨rfl, rfl⟩ := q1
  show sk_S _ _ _ _ _ _ (.int _ :: _) _ _
  refine sk_S.bif_ne (tgt := 14) (dd DX7_put 2 rfl) (by decide) (fun c4 => ?_) (fun c4 => ?_)
  · obtain ⟨j, hj, rfl⟩ := ((inN_lt (M := 4) (n := 4) (by decide)).mp c4)
    have hcl : cl (nI j) = j := clN (by omega)
    obtain ⟨b1, b2, ⟨len, hl24, b3, b4⟩, b5⟩ := hS j hj
    refine sk_S.aload_n (i := 0) (dd DX7_put 7 rfl) rfl rfl ?_
    refine sk_S.getr (dd DX7_put 8 rfl) rfl fX7_35 se_0 (by decide) rfl ?_
    refine sk_S.iload_n (i := 1) (dd DX7_put 9 rfl) rfl rfl ?_
    refine sk_S.aald (dd DX7_put 10 rfl) se_5 rfl (sk_ix_nI (k := j) rfl hj (by decide)) (rf_sh hj) ?_
    refine sk_S.astore (i := 4) (dd DX7_put 11 rfl) (Nat.le_of_ble_eq_true rfl) rfl ?_
    refine sk_S.aload (i := 4) (dd DX7_put 12 rfl) rfl ?_
    refine sk_S.callV (dd DX7_put 13 rfl) rfl kX7_209 (cC_isMissing (se_sh hj)) (se_sh hj) (by decide) rfl rfl rfl rfl (Nat.le_of_ble_eq_true rfl) (fun r24 h24 q24 => ?_)
    obtain ⟨rfl, rfl⟩ := q24
    show sk_S _ _ _ _ _ _ (.int _ :: _) _ _
    refine sk_S.bif_eq (tgt := 37) (dd DX7_put 14 rfl) (by decide) (fun c27 => ?_) (fun c27 => ?_)
    · refine sk_S.iload_n (i := 2) (dd DX7_put 19 rfl) rfl rfl ?_
      refine sk_S.if_lt (tgt := 50) (dd DX7_put 20 rfl) (by decide) (fun c38 => ?_) (fun c38 => ?_)
      · refine sk_S.aload_n (i := 0) (dd DX7_put 25 rfl) rfl rfl ?_
        refine sk_S.ldc (dd DX7_put 26 rfl) rfl cnX7_48 ?_
        refine sk_S.callV (dd DX7_put 27 rfl) rfl kX7_49 (cC_refuse (k := 1) (by decide) (by decide) (by decide)) se_0 (by decide) rfl rfl rfl rfl (Nat.le_of_ble_eq_true rfl) (fun r53 h53 q53 => ?_)
        obtain ⟨rfl, rfl⟩ := q53
        show sk_S _ _ _ _ _ _ (.int _ :: _) _ _
        refine sk_S.iret (dd DX7_put 28 rfl) rfl rfl ?_
        have hnt : ntK h (nI j) = if h 58 j = 0 then 2 else 0 := by
          unfold ntK
          rw [if_pos ⟨j, hj, rfl⟩, nI_clamp (by omega)]
        rw [if_neg (fun z => c27 (b2.trans z))] at hnt
        have hlen : shN h j = len := by unfold shN; rw [b3, nI_clamp (by omega)]
        have hi : ¬ inN i (shN h j) := fun z => by
          rw [hlen] at z
          have y := (inN_lt (M := h (7 + j) 2) (n := len) (by rw [b4]; exact nI_toInt (by omega))).mpr z
          exact absurd y.1 (Int32.not_le.mpr c38)
        exact Or.inr ⟨j, hj, rfl, fun z => c27 (b2.trans z), hnt, Or.inl ⟨hi, rfl, rfl⟩⟩
      · refine sk_S.iload_n (i := 2) (dd DX7_put 21 rfl) rfl rfl ?_
        refine sk_S.aload (i := 4) (dd DX7_put 22 rfl) rfl ?_
        refine sk_S.geti (dd DX7_put 23 rfl) rfl fX7_238 (se_sh hj) (by decide) rfl ?_
        refine sk_S.icmp_lt (tgt := 57) (dd DX7_put 24 rfl) (by decide) (fun c47 => ?_) (fun c47 => ?_)
        · obtain ⟨q, hq, rfl⟩ := (inN_lt (M := h (7 + j) 2) (n := len) (by rw [b4]; exact nI_toInt (by omega))).mp ⟨Int32.not_lt.mp c38, c47⟩
          refine sk_S.aload (i := 4) (dd DX7_put 29 rfl) rfl ?_
          refine sk_S.getr (dd DX7_put 30 rfl) rfl fX7_241 (se_sh hj) (by decide) rfl ?_
          refine sk_S.iload_n (i := 2) (dd DX7_put 31 rfl) rfl rfl ?_
          refine sk_S.aload (i := 4) (dd DX7_put 32 rfl) rfl ?_
          refine sk_S.iload_n (i := 3) (dd DX7_put 33 rfl) rfl rfl ?_
          refine sk_S.callV (dd DX7_put 34 rfl) rfl kX7_244 (cC_lowestBits (se_sh hj)) (se_sh hj) (by decide) rfl rfl rfl rfl (Nat.le_of_ble_eq_true rfl) (fun r66 h66 q66 => ?_)
          obtain ⟨rfl, rfl⟩ := q66
          show sk_S _ _ _ _ _ _ (.int _ :: _) _ _
          refine sk_S.V (loV (h 58 j) v) (by rw [b2]; rfl) ?_
          refine sk_S.iast (dd DX7_put 35 rfl) (se_sn hj) (sk_ix_nI (k := q) rfl (by omega) (by decide)) ?_
          refine sk_S.iconst (v := 1) (dd DX7_put 36 rfl) (by decide) ?_
          refine sk_S.iret (dd DX7_put 37 rfl) rfl rfl ?_
          have hnt : ntK h (nI j) = if h 58 j = 0 then 2 else 0 := by
            unfold ntK
            rw [if_pos ⟨j, hj, rfl⟩, nI_clamp (by omega)]
          rw [if_neg (fun z => c27 (b2.trans z))] at hnt
          have hlen : shN h j = len := by unfold shN; rw [b3, nI_clamp (by omega)]
          exact Or.inr ⟨j, hj, rfl, fun z => c27 (b2.trans z), hnt, Or.inr ⟨q, by omega, rfl, rfl, rfl⟩⟩
        · refine sk_S.aload_n (i := 0) (dd DX7_put 25 rfl) rfl rfl ?_
          refine sk_S.ldc (dd DX7_put 26 rfl) rfl cnX7_48 ?_
          refine sk_S.callV (dd DX7_put 27 rfl) rfl kX7_49 (cC_refuse (k := 1) (by decide) (by decide) (by decide)) se_0 (by decide) rfl rfl rfl rfl (Nat.le_of_ble_eq_true rfl) (fun r53 h53 q53 => ?_)
          obtain ⟨rfl, rfl⟩ := q53
          show sk_S _ _ _ _ _ _ (.int _ :: _) _ _
          refine sk_S.iret (dd DX7_put 28 rfl) rfl rfl ?_
          have hnt : ntK h (nI j) = if h 58 j = 0 then 2 else 0 := by
            unfold ntK
            rw [if_pos ⟨j, hj, rfl⟩, nI_clamp (by omega)]
          rw [if_neg (fun z => c27 (b2.trans z))] at hnt
          have hlen : shN h j = len := by unfold shN; rw [b3, nI_clamp (by omega)]
          have hi : ¬ inN i (shN h j) := fun z => by
            rw [hlen] at z
            have y := (inN_lt (M := h (7 + j) 2) (n := len) (by rw [b4]; exact nI_toInt (by omega))).mpr z
            exact c47 y.2
          exact Or.inr ⟨j, hj, rfl, fun z => c27 (b2.trans z), hnt, Or.inl ⟨hi, rfl, rfl⟩⟩
    · refine sk_S.aload_n (i := 0) (dd DX7_put 15 rfl) rfl rfl ?_
      refine sk_S.ldc (dd DX7_put 16 rfl) rfl cnX7_184 ?_
      refine sk_S.callV (dd DX7_put 17 rfl) rfl kX7_49 (cC_refuse (k := 2) (by decide) (by decide) (by decide)) se_0 (by decide) rfl rfl rfl rfl (Nat.le_of_ble_eq_true rfl) (fun r33 h33 q33 => ?_)
      obtain ⟨rfl, rfl⟩ := q33
      show sk_S _ _ _ _ _ _ (.int _ :: _) _ _
      refine sk_S.iret (dd DX7_put 18 rfl) rfl rfl ?_
      have hnt : ntK h (nI j) = if h 58 j = 0 then 2 else 0 := by
        unfold ntK
        rw [if_pos ⟨j, hj, rfl⟩, nI_clamp (by omega)]
      rw [if_pos (b2.symm.trans c27)] at hnt
      exact Or.inl ⟨by rw [hnt]; decide, by rw [hnt]; exact ⟨rfl, rfl⟩⟩
  · refine sk_S.aload_n (i := 0) (dd DX7_put 3 rfl) rfl rfl ?_
    refine sk_S.ldc (dd DX7_put 4 rfl) rfl cnX7_48 ?_
    refine sk_S.callV (dd DX7_put 5 rfl) rfl kX7_49 (cC_refuse (k := 1) (by decide) (by decide) (by decide)) se_0 (by decide) rfl rfl rfl rfl (Nat.le_of_ble_eq_true rfl) (fun r10 h10 q10 => ?_)
    obtain ⟨rfl, rfl⟩ := q10
    show sk_S _ _ _ _ _ _ (.int _ :: _) _ _
    refine sk_S.iret (dd DX7_put 6 rfl) rfl rfl ?_
    have hno : ntK h s = 1 := by
      unfold ntK
      rw [if_neg (fun z => (c4 ((inN_lt (M := 4) (n := 4) (by decide)).mpr z)))]
    exact Or.inl ⟨by rw [hno]; decide, by rw [hno]; exact ⟨rfl, rfl⟩⟩
theorem has_fit {i n : Int32} {len : Nat} (hl : len ≤ 24) : (¬ i < 0 ∧ ¬ n < 0 ∧ ¬ nI len < n ∧ ¬ nI len - n < i) ↔ ∃ x q : Nat, i = nI x ∧ n = nI q ∧ x + q ≤ len := by
  constructor
  · rintro ⟨h1, h2, h3, h4⟩
    obtain ⟨x, hx, rfl⟩ := nI_of h1
    obtain ⟨q, hq, rfl⟩ := nI_of h2
    refine ⟨x, q, rfl, rfl, ?_⟩
    rw [nI_ltI (by omega) hq] at h3
    rw [Int32.not_lt, Int32.le_iff_toInt_le, sub_toInt (by omega) hq, nI_toInt hx] at h4
    omega
  · rintro ⟨x, q, rfl, rfl, h⟩
    refine ⟨nI_pos (by omega), nI_pos (by omega), nI_nlt (by omega) (by omega), ?_⟩
    rw [nI_sub (by omega)]
    exact nI_nlt (by omega) (by omega)
set_option maxRecDepth 100000 in
set_option maxHeartbeats 1000000 in
theorem cP_move {l : Launch} {E : sk_V} {d : Nat} {h : sk_M} {s i t j n : Int32} (hS : shQ h) : sk_K l E (d + 5) MX7_move [.ref 0, .int s, .int i, .int t, .int j, .int n] h (fun r h1 => (¬ (mvK h s i t j n) = 0 ∧ erC h (mvK h s i t j n) h1 r) ∨ ((mvK h s i t j n) = 0 ∧ ∃ a b x y w : Nat, a < 4 ∧ b < 4 ∧ s = nI a ∧ t = nI b ∧ i = nI x ∧ j = nI y ∧ n = nI w ∧ h 58 a = h 58 b ∧ x + w ≤ shN h a ∧ y + w ≤ shN h b ∧ sk_r h (11 + b) (va_cpy (h (11 + a)) (h (11 + b)) x y w) = h1 ∧ some (.int (nI w)) = r)) := by
  refine sk_K.of (by decide +kernel) (Nat.le_of_ble_eq_true rfl) ?_
  show sk_S l E (d + 5) _ 0 [some (.ref 0), some (.int s), some (.int i), some (.int t), some (.int j), some (.int n), none, none] [] h _
  refine sk_S.iload_n (i := 1) (dd DX7_move 0 rfl) rfl rfl ?_
  refine sk_S.callS (dd DX7_move 1 rfl) rfl kX7_206 cC_isSheet rfl rfl rfl (Nat.le_of_ble_eq_true rfl) (fun r1 h1 q1 => ?_)
  obtain ⟨rfl, rfl⟩ := q1
  show sk_S _ _ _ _ _ _ (.int _ :: _) _ _
  refine sk_S.bif_eq (tgt := 14) (dd DX7_move 2 rfl) (by decide) (fun c4 => ?_) (fun c4 => ?_)
  · refine sk_S.aload_n (i := 0) (dd DX7_move 6 rfl) rfl rfl ?_
    refine sk_S.ldc (dd DX7_move 7 rfl) rfl cnX7_48 ?_
    refine sk_S.callV (dd DX7_move 8 rfl) rfl kX7_49 (cC_refuse (k := 1) (by decide) (by decide) (by decide)) se_0 (by decide) rfl rfl rfl rfl (Nat.le_of_ble_eq_true rfl) (fun r17 h17 q17 => ?_)
    obtain ⟨rfl, rfl⟩ := q17
    show sk_S _ _ _ _ _ _ (.int _ :: _) _ _
    refine sk_S.iret (dd DX7_move 9 rfl) rfl rfl ?_
    have hk : (mvK h s i t j n) = 1 := mvK_no (fun z => (c4 ((inN_lt (M := 4) (n := 4) (by decide)).mpr z.1)))
    exact Or.inl ⟨by rw [hk]; decide, by rw [hk]; exact ⟨rfl, rfl⟩⟩
  · refine sk_S.iload_n (i := 3) (dd DX7_move 3 rfl) rfl rfl ?_
    refine sk_S.callS (dd DX7_move 4 rfl) rfl kX7_206 cC_isSheet rfl rfl rfl (Nat.le_of_ble_eq_true rfl) (fun r8 h8 q8 => ?_)
    obtain ⟨rfl, rfl⟩ := q8
    show sk_S _ _ _ _ _ _ (.int _ :: _) _ _
    refine sk_S.bif_ne (tgt := 21) (dd DX7_move 5 rfl) (by decide) (fun c11 => ?_) (fun c11 => ?_)
    · obtain ⟨a, ha, rfl⟩ := ((inN_lt (M := 4) (n := 4) (by decide)).mp c4)
      obtain ⟨b, hb, rfl⟩ := ((inN_lt (M := 4) (n := 4) (by decide)).mp c11)
      obtain ⟨p1, p2, ⟨la, la24, p3, p4⟩, -⟩ := hS a ha
      obtain ⟨q1, q2, ⟨lb, lb24, q3, q4⟩, -⟩ := hS b hb
      have ea : shN h a = la := by unfold shN; rw [p3, nI_clamp (by omega)]
      have eb : shN h b = lb := by unfold shN; rw [q3, nI_clamp (by omega)]
      refine sk_S.aload_n (i := 0) (dd DX7_move 10 rfl) rfl rfl ?_
      refine sk_S.getr (dd DX7_move 11 rfl) rfl fX7_35 se_0 (by decide) rfl ?_
      refine sk_S.iload_n (i := 1) (dd DX7_move 12 rfl) rfl rfl ?_
      refine sk_S.aald (dd DX7_move 13 rfl) se_5 rfl (sk_ix_nI (k := a) rfl ha (by decide)) (rf_sh ha) ?_
      refine sk_S.astore (i := 6) (dd DX7_move 14 rfl) (Nat.le_of_ble_eq_true rfl) rfl ?_
      refine sk_S.aload_n (i := 0) (dd DX7_move 15 rfl) rfl rfl ?_
      refine sk_S.getr (dd DX7_move 16 rfl) rfl fX7_35 se_0 (by decide) rfl ?_
      refine sk_S.iload_n (i := 3) (dd DX7_move 17 rfl) rfl rfl ?_
      refine sk_S.aald (dd DX7_move 18 rfl) se_5 rfl (sk_ix_nI (k := b) rfl hb (by decide)) (rf_sh hb) ?_
      refine sk_S.astore (i := 7) (dd DX7_move 19 rfl) (Nat.le_of_ble_eq_true rfl) rfl ?_
      refine sk_S.aload (i := 6) (dd DX7_move 20 rfl) rfl ?_
      refine sk_S.callV (dd DX7_move 21 rfl) rfl kX7_209 (cC_isMissing (se_sh ha)) (se_sh ha) (by decide) rfl rfl rfl rfl (Nat.le_of_ble_eq_true rfl) (fun r39 h39 q39 => ?_)
      obtain ⟨rfl, rfl⟩ := q39
      show sk_S _ _ _ _ _ _ (.int _ :: _) _ _
      refine sk_S.bif_ne (tgt := 53) (dd DX7_move 22 rfl) (by decide) (fun c42 => ?_) (fun c42 => ?_)
      · refine sk_S.aload_n (i := 0) (dd DX7_move 26 rfl) rfl rfl ?_
        refine sk_S.ldc (dd DX7_move 27 rfl) rfl cnX7_184 ?_
        refine sk_S.callV (dd DX7_move 28 rfl) rfl kX7_49 (cC_refuse (k := 2) (by decide) (by decide) (by decide)) se_0 (by decide) rfl rfl rfl rfl (Nat.le_of_ble_eq_true rfl) (fun r56 h56 q56 => ?_)
        obtain ⟨rfl, rfl⟩ := q56
        show sk_S _ _ _ _ _ _ (.int _ :: _) _ _
        refine sk_S.iret (dd DX7_move 29 rfl) rfl rfl ?_
        have hk : (mvK h (nI a) i (nI b) j n) = 2 := by
          rw [mvK_in ha hb]
          rw [if_pos (Or.inl (p2.symm.trans c42))]
        exact Or.inl ⟨by rw [hk]; decide, by rw [hk]; exact ⟨rfl, rfl⟩⟩
      · refine sk_S.aload (i := 7) (dd DX7_move 23 rfl) rfl ?_
        refine sk_S.callV (dd DX7_move 24 rfl) rfl kX7_209 (cC_isMissing (se_sh hb)) (se_sh hb) (by decide) rfl rfl rfl rfl (Nat.le_of_ble_eq_true rfl) (fun r47 h47 q47 => ?_)
        obtain ⟨rfl, rfl⟩ := q47
        show sk_S _ _ _ _ _ _ (.int _ :: _) _ _
        refine sk_S.bif_eq (tgt := 60) (dd DX7_move 25 rfl) (by decide) (fun c50 => ?_) (fun c50 => ?_)
        · refine sk_S.aload (i := 6) (dd DX7_move 30 rfl) rfl ?_
          refine sk_S.geti (dd DX7_move 31 rfl) rfl fX7_247 (se_sh ha) (by decide) rfl ?_
          refine sk_S.aload (i := 7) (dd DX7_move 32 rfl) rfl ?_
          refine sk_S.geti (dd DX7_move 33 rfl) rfl fX7_247 (se_sh hb) (by decide) rfl ?_
          refine sk_S.icmp_eq (tgt := 80) (dd DX7_move 34 rfl) (by decide) (fun c70 => ?_) (fun c70 => ?_)
          · refine sk_S.aload (i := 6) (dd DX7_move 39 rfl) rfl ?_
            refine sk_S.iload_n (i := 2) (dd DX7_move 40 rfl) rfl rfl ?_
            refine sk_S.iload (i := 5) (dd DX7_move 41 rfl) rfl ?_
            refine sk_S.callV (dd DX7_move 42 rfl) rfl kX7_250 (cC_has (se_sh ha)) (se_sh ha) (by decide) rfl rfl rfl rfl (Nat.le_of_ble_eq_true rfl) (fun r85 h85 q85 => ?_)
            obtain ⟨rfl, rfl⟩ := q85
            show sk_S _ _ _ _ _ _ (.int _ :: _) _ _
            refine sk_S.bif_eq (tgt := 103) (dd DX7_move 43 rfl) (by decide) (fun c88 => ?_) (fun c88 => ?_)
            · refine sk_S.aload_n (i := 0) (dd DX7_move 49 rfl) rfl rfl ?_
              refine sk_S.ldc (dd DX7_move 50 rfl) rfl cnX7_48 ?_
              refine sk_S.callV (dd DX7_move 51 rfl) rfl kX7_49 (cC_refuse (k := 1) (by decide) (by decide) (by decide)) se_0 (by decide) rfl rfl rfl rfl (Nat.le_of_ble_eq_true rfl) (fun r106 h106 q106 => ?_)
              obtain ⟨rfl, rfl⟩ := q106
              show sk_S _ _ _ _ _ _ (.int _ :: _) _ _
              refine sk_S.iret (dd DX7_move 52 rfl) rfl rfl ?_
              have hk2 : ¬ ¬ h 58 a = h 58 b := fun z => z (by rw [← p2, ← q2]; exact c70)
              have hk : (mvK h (nI a) i (nI b) j n) = 1 := by
                rw [mvK_in ha hb]
                rw [if_neg (fun z => z.elim (fun y => c42 (p2.trans y)) (fun y => c50 (q2.trans y))), if_neg hk2, @if_neg _ (Classical.propDecidable _) (fun z => by
                  obtain ⟨x, y, q, e1, e2, e3, f1, f2⟩ := z
                  rw [p4] at c88
                  exact c88 ((has_fit (by omega)).mpr ⟨x, q, e1, e3, by omega⟩))]
              exact Or.inl ⟨by rw [hk]; decide, by rw [hk]; exact ⟨rfl, rfl⟩⟩
            · refine sk_S.aload (i := 7) (dd DX7_move 44 rfl) rfl ?_
              refine sk_S.iload (i := 4) (dd DX7_move 45 rfl) rfl ?_
              refine sk_S.iload (i := 5) (dd DX7_move 46 rfl) rfl ?_
              refine sk_S.callV (dd DX7_move 47 rfl) rfl kX7_250 (cC_has (se_sh hb)) (se_sh hb) (by decide) rfl rfl rfl rfl (Nat.le_of_ble_eq_true rfl) (fun r97 h97 q97 => ?_)
              obtain ⟨rfl, rfl⟩ := q97
              show sk_S _ _ _ _ _ _ (.int _ :: _) _ _
              refine sk_S.bif_ne (tgt := 110) (dd DX7_move 48 rfl) (by decide) (fun c100 => ?_) (fun c100 => ?_)
              · rw [p4] at c88
                rw [q4] at c100
                obtain ⟨x, w, rfl, rfl, hxw⟩ := (has_fit la24).mp c88
                obtain ⟨y, w2, rfl, ew, hyw⟩ := (has_fit lb24).mp c100
                have eww : w = w2 := nI_inj (by omega) (by omega) ew
                subst eww
                refine sk_S.aload (i := 6) (dd DX7_move 53 rfl) rfl ?_
                refine sk_S.getr (dd DX7_move 54 rfl) rfl fX7_241 (se_sh ha) (by decide) rfl ?_
                refine sk_S.iload_n (i := 2) (dd DX7_move 55 rfl) rfl rfl ?_
                refine sk_S.aload (i := 7) (dd DX7_move 56 rfl) rfl ?_
                refine sk_S.getr (dd DX7_move 57 rfl) rfl fX7_241 (se_sh hb) (by decide) rfl ?_
                refine sk_S.iload (i := 4) (dd DX7_move 58 rfl) rfl ?_
                refine sk_S.iload (i := 5) (dd DX7_move 59 rfl) rfl ?_
                refine sk_S.acopy (dd DX7_move 60 rfl) rfl blX7_253 ac_n ac_s ac_i rfl (Nat.le_of_ble_eq_true rfl) (se_sn ha) (se_sn hb) (by decide) (by decide) (sn := x) (dn := y) (nn := w) (nI_pos (by omega)) (nI_pos (by omega)) (nI_pos (by omega)) (nI_clamp (by omega)) (nI_clamp (by omega)) (nI_clamp (by omega)) (by omega) (by omega) ?_
                refine sk_S.iload (i := 5) (dd DX7_move 61 rfl) rfl ?_
                refine sk_S.iret (dd DX7_move 62 rfl) rfl rfl ?_
                have hk2 : ¬ ¬ h 58 a = h 58 b := fun z => z (by rw [← p2, ← q2]; exact c70)
                have hk : mvK h (nI a) (nI x) (nI b) (nI y) (nI w) = 0 := by
                  rw [mvK_in ha hb]
                  rw [if_neg (fun z => z.elim (fun y => c42 (p2.trans y)) (fun y => c50 (q2.trans y))), if_neg hk2, @if_pos _ (Classical.propDecidable _) ⟨x, y, w, rfl, rfl, rfl, by omega, by omega⟩]
                exact Or.inr ⟨hk, a, b, x, y, w, ha, hb, rfl, rfl, rfl, rfl, rfl, Decidable.byContradiction hk2, by omega, by omega, rfl, rfl⟩
              · refine sk_S.aload_n (i := 0) (dd DX7_move 49 rfl) rfl rfl ?_
                refine sk_S.ldc (dd DX7_move 50 rfl) rfl cnX7_48 ?_
                refine sk_S.callV (dd DX7_move 51 rfl) rfl kX7_49 (cC_refuse (k := 1) (by decide) (by decide) (by decide)) se_0 (by decide) rfl rfl rfl rfl (Nat.le_of_ble_eq_true rfl) (fun r106 h106 q106 => ?_)
                obtain ⟨rfl, rfl⟩ := q106
                show sk_S _ _ _ _ _ _ (.int _ :: _) _ _
                refine sk_S.iret (dd DX7_move 52 rfl) rfl rfl ?_
                have hk2 : ¬ ¬ h 58 a = h 58 b := fun z => z (by rw [← p2, ← q2]; exact c70)
                have hk : (mvK h (nI a) i (nI b) j n) = 1 := by
                  rw [mvK_in ha hb]
                  rw [if_neg (fun z => z.elim (fun y => c42 (p2.trans y)) (fun y => c50 (q2.trans y))), if_neg hk2, @if_neg _ (Classical.propDecidable _) (fun z => by
                    obtain ⟨x, y, q, e1, e2, e3, f1, f2⟩ := z
                    rw [q4] at c100
                    exact c100 ((has_fit (by omega)).mpr ⟨y, q, e2, e3, by omega⟩))]
                exact Or.inl ⟨by rw [hk]; decide, by rw [hk]; exact ⟨rfl, rfl⟩⟩
          · refine sk_S.aload_n (i := 0) (dd DX7_move 35 rfl) rfl rfl ?_
            refine sk_S.ldc (dd DX7_move 36 rfl) rfl cnX7_103 ?_
            refine sk_S.callV (dd DX7_move 37 rfl) rfl kX7_49 (cC_refuse (k := 5) (by decide) (by decide) (by decide)) se_0 (by decide) rfl rfl rfl rfl (Nat.le_of_ble_eq_true rfl) (fun r76 h76 q76 => ?_)
            obtain ⟨rfl, rfl⟩ := q76
            show sk_S _ _ _ _ _ _ (.int _ :: _) _ _
            refine sk_S.iret (dd DX7_move 38 rfl) rfl rfl ?_
            have hk : (mvK h (nI a) i (nI b) j n) = 5 := by
              rw [mvK_in ha hb]
              rw [if_neg (fun z => z.elim (fun y => c42 (p2.trans y)) (fun y => c50 (q2.trans y))), if_pos (fun z => c70 (by rw [p2, q2]; exact z))]
            exact Or.inl ⟨by rw [hk]; decide, by rw [hk]; exact ⟨rfl, rfl⟩⟩
        · refine sk_S.aload_n (i := 0) (dd DX7_move 26 rfl) rfl rfl ?_
          refine sk_S.ldc (dd DX7_move 27 rfl) rfl cnX7_184 ?_
          refine sk_S.callV (dd DX7_move 28 rfl) rfl kX7_49 (cC_refuse (k := 2) (by decide) (by decide) (by decide)) se_0 (by decide) rfl rfl rfl rfl (Nat.le_of_ble_eq_true rfl) (fun r56 h56 q56 => ?_)
          obtain ⟨rfl, rfl⟩ := q56
          show sk_S _ _ _ _ _ _ (.int _ :: _) _ _
          refine sk_S.iret (dd DX7_move 29 rfl) rfl rfl ?_
          have hk : (mvK h (nI a) i (nI b) j n) = 2 := by
            rw [mvK_in ha hb]
            rw [if_pos (Or.inr (q2.symm.trans c50))]
          exact Or.inl ⟨by rw [hk]; decide, by rw [hk]; exact ⟨rfl, rfl⟩⟩
    · refine sk_S.aload_n (i := 0) (dd DX7_move 6 rfl) rfl rfl ?_
      refine sk_S.ldc (dd DX7_move 7 rfl) rfl cnX7_48 ?_
      refine sk_S.callV (dd DX7_move 8 rfl) rfl kX7_49 (cC_refuse (k := 1) (by decide) (by decide) (by decide)) se_0 (by decide) rfl rfl rfl rfl (Nat.le_of_ble_eq_true rfl) (fun r17 h17 q17 => ?_)
      obtain ⟨rfl, rfl⟩ := q17
      show sk_S _ _ _ _ _ _ (.int _ :: _) _ _
      refine sk_S.iret (dd DX7_move 9 rfl) rfl rfl ?_
      have hk : (mvK h s i t j n) = 1 := mvK_no (fun z => (c11 ((inN_lt (M := 4) (n := 4) (by decide)).mpr z.2)))
      exact Or.inl ⟨by rw [hk]; decide, by rw [hk]; exact ⟨rfl, rfl⟩⟩
theorem lawC.z {h : sk_M} {lo co u : Nat} {g : Nat → Int32} (H : lawC h lo co g u) : h lo 3 = 0 ∨ h lo 3 = 1 := by
  rw [H.1]
  by_cases q : 0 < laN g u
  · rw [if_pos q]; exact Or.inr rfl
  · rw [if_neg q]; exact Or.inl rfl
set_option maxRecDepth 100000 in
set_option maxHeartbeats 1000000 in
theorem cP_image {l : Launch} {E : sk_V} {d : Nat} {h : sk_M} {g : Nat → Int32} (hR : RQ 1 18 h g) (hG : RG g) : sk_K l E (d + 6) MX7_image [.ref 0] h (fun r h1 => sk_o [0, 2, 36, 37, 38, 39, 40, 41, 42, 43, 44, 45, 46, 47, 48, 49, 50, 51] h h1 ∧ RQ 2 36 h1 g ∧ h1 0 6 = h 0 6 + 1 ∧ some (.int (h 0 6 + 1)) = r) := by
  refine sk_K.of (by decide +kernel) (Nat.le_of_ble_eq_true rfl) ?_
  show sk_S l E (d + 6) _ 0 [some (.ref 0)] [] h _
  refine sk_S.aload_n (i := 0) (dd DX7_image 0 rfl) rfl rfl ?_
  refine sk_S.getr (dd DX7_image 1 rfl) rfl fX7_16 se_0 (by decide) rfl ?_
  refine sk_S.aload_n (i := 0) (dd DX7_image 2 rfl) rfl rfl ?_
  refine sk_S.getr (dd DX7_image 3 rfl) rfl fX7_12 se_0 (by decide) rfl ?_
  refine sk_S.callV (dd DX7_image 4 rfl) rfl kX7_264 (cQ_takeFrom_b hR.2.1.z hR.2.2.z) se_2 (by decide) rfl rfl rfl rfl (Nat.le_of_ble_eq_true rfl) (fun r8 h8 q8 => ?_)
  obtain ⟨ok, kR, rfl⟩ := q8
  show sk_S _ _ _ _ 11 _ _ _ _
  refine sk_S.aload_n (i := 0) (dd DX7_image 5 rfl) rfl rfl ?_
  refine sk_S.dup (dd DX7_image 6 rfl) rfl ?_
  refine sk_S.geti (dd DX7_image 7 rfl) rfl fX7_268 se_0 (by decide) rfl ?_
  refine sk_S.iconst (v := 1) (dd DX7_image 8 rfl) (by decide) ?_
  refine sk_S.iadd (dd DX7_image 9 rfl) ?_
  refine sk_S.putf (dd DX7_image 10 rfl) rfl pX7_268 se_0 (by decide) rfl rfl rfl ?_
  refine sk_S.aload_n (i := 0) (dd DX7_image 11 rfl) rfl rfl ?_
  refine sk_S.geti (dd DX7_image 12 rfl) rfl fX7_268 se_0 (by decide) rfl ?_
  refine sk_S.iret (dd DX7_image 13 rfl) rfl rfl ?_
  have e0 : h8 0 6 = h 0 6 := by rw [ok 0 (by decide)]
  rw [e0]
  refine ⟨(ok.more (by decide)).u (by decide), (kR g (laN_lt hG.i0) (laN_lt hG.i1) hR).o (sk_o.rf.u (k := 0) (S := [0]) (by decide)) (by decide), by rw [sk_u_at, if_pos rfl, if_pos rfl], ?_⟩
  rw [sk_u_at, if_pos rfl, if_pos rfl]
set_option maxRecDepth 100000 in
set_option maxHeartbeats 1000000 in
theorem cP_restore {l : Launch} {E : sk_V} {d : Nat} {h : sk_M} {g : Nat → Int32} (hR : RQ 1 18 h g) (e0 : h 0 6 = h 54 2) (hK : ¬ h 54 2 = 0 → RQ 2 36 h (h 56) ∧ RG (h 56)) : sk_K l E (d + 6) MX7_restore [.ref 0] h (fun r h1 => oC h h1 (cif (h 54 2 = 0) (g, erI 2) (cpyN (h 56) g 361, h 56 0)).1 (cif (h 54 2 = 0) (g, erI 2) (cpyN (h 56) g 361, h 56 0)).2 r) := by
  refine sk_K.of (by decide +kernel) (Nat.le_of_ble_eq_true rfl) ?_
  show sk_S l E (d + 6) _ 0 [some (.ref 0)] [] h _
  refine sk_S.aload_n (i := 0) (dd DX7_restore 0 rfl) rfl rfl ?_
  refine sk_S.geti (dd DX7_restore 1 rfl) rfl fX7_268 se_0 (by decide) rfl ?_
  refine sk_S.if_ne (tgt := 14) (dd DX7_restore 2 rfl) (by decide) (fun c4 => ?_) (fun c4 => ?_)
  · have hz : ¬ h 54 2 = 0 := fun z => c4 (e0.trans z)
    obtain ⟨kR, kG⟩ := hK hz
    refine sk_S.aload_n (i := 0) (dd DX7_restore 7 rfl) rfl rfl ?_
    refine sk_S.getr (dd DX7_restore 8 rfl) rfl fX7_12 se_0 (by decide) rfl ?_
    refine sk_S.aload_n (i := 0) (dd DX7_restore 9 rfl) rfl rfl ?_
    refine sk_S.getr (dd DX7_restore 10 rfl) rfl fX7_16 se_0 (by decide) rfl ?_
    refine sk_S.callV (dd DX7_restore 11 rfl) rfl kX7_264 (cQ_takeFrom_a kR.2.1.z kR.2.2.z) se_1 (by decide) rfl rfl rfl rfl (Nat.le_of_ble_eq_true rfl) (fun r22 h22 q22 => ?_)
    obtain ⟨ok, kT, rfl⟩ := q22
    have kN := kT (h 56) (laN_lt kG.i0) (laN_lt kG.i1) kR
    show sk_S _ _ _ _ 25 _ _ _ _
    refine sk_S.aload_n (i := 0) (dd DX7_restore 12 rfl) rfl rfl ?_
    refine sk_S.getr (dd DX7_restore 13 rfl) rfl fX7_12 se_0 (by decide) rfl ?_
    refine sk_S.geti (dd DX7_restore 14 rfl) rfl fX7_84 se_1 (by decide) rfl ?_
    refine sk_S.iret (dd DX7_restore 15 rfl) rfl rfl ?_
    rw [cif_f hz]
    refine ⟨ok.more (by decide), kN.cg (laN_lt kG.i0) (laN_lt kG.i1) (fun p hp => if_pos hp), by rw [kN.da]⟩
  · refine sk_S.aload_n (i := 0) (dd DX7_restore 3 rfl) rfl rfl ?_
    refine sk_S.ldc (dd DX7_restore 4 rfl) rfl cnX7_184 ?_
    refine sk_S.callV (dd DX7_restore 5 rfl) rfl kX7_49 (cC_refuse (k := 2) (by decide) (by decide) (by decide)) se_0 (by decide) rfl rfl rfl rfl (Nat.le_of_ble_eq_true rfl) (fun r10 h10 q10 => ?_)
    obtain ⟨rfl, rfl⟩ := q10
    show sk_S _ _ _ _ _ _ (.int _ :: _) _ _
    refine sk_S.iret (dd DX7_restore 6 rfl) rfl rfl ?_
    have hz : h 54 2 = 0 := e0.symm.trans c4
    rw [cif_t hz]
    exact oC.er (j := 2) hR sk_o.rf
set_option maxRecDepth 100000 in
set_option maxHeartbeats 1000000 in
theorem cP_voice_e {l : Launch} {E : sk_V} {d : Nat} {h : sk_M} {b v x : Int32} {g : Nat → Int32} (hR : RQ 1 18 h g) (hG : RG g) (hn : ¬ (inN b (boN g) ∧ inN v 4)) : sk_K l E (d + 5) MX7_voice [.ref 0, .int b, .int v, .int x] h (fun r h1 => erC h 1 h1 r) := by
  refine sk_K.of (by decide +kernel) (Nat.le_of_ble_eq_true rfl) ?_
  show sk_S l E (d + 5) _ 0 [some (.ref 0), some (.int b), some (.int v), some (.int x), none] [] h _
  refine sk_S.aload_n (i := 0) (dd DX7_voice 0 rfl) rfl rfl ?_
  refine sk_S.iload_n (i := 1) (dd DX7_voice 1 rfl) rfl rfl ?_
  refine sk_S.callV (dd DX7_voice 2 rfl) rfl kX7_71 cC_isBoat se_0 (by decide) rfl rfl rfl rfl (Nat.le_of_ble_eq_true rfl) (fun r2 h2 q2 => ?_)
  obtain ⟨rfl, rfl⟩ := q2
  show sk_S _ _ _ _ _ _ (.int _ :: _) _ _
  refine sk_S.bif_eq (tgt := 16) (dd DX7_voice 3 rfl) (by decide) (fun c5 => ?_) (fun c5 => ?_)
  · refine sk_S.aload_n (i := 0) (dd DX7_voice 8 rfl) rfl rfl ?_
    refine sk_S.ldc (dd DX7_voice 9 rfl) rfl cnX7_48 ?_
    refine sk_S.callV (dd DX7_voice 10 rfl) rfl kX7_49 (cC_refuse (k := 1) (by decide) (by decide) (by decide)) se_0 (by decide) rfl rfl rfl rfl (Nat.le_of_ble_eq_true rfl) (fun r19 h19 q19 => ?_)
    obtain ⟨rfl, rfl⟩ := q19
    show sk_S _ _ _ _ _ _ (.int _ :: _) _ _
    refine sk_S.iret (dd DX7_voice 11 rfl) rfl rfl ?_
    exact ⟨rfl, rfl⟩
  · refine sk_S.iload_n (i := 2) (dd DX7_voice 4 rfl) rfl rfl ?_
    refine sk_S.iconst (v := 3) (dd DX7_voice 5 rfl) (by decide) ?_
    refine sk_S.callS (dd DX7_voice 6 rfl) rfl kX7_74 cC_isWithin rfl rfl rfl (Nat.le_of_ble_eq_true rfl) (fun r10 h10 q10 => ?_)
    obtain ⟨rfl, rfl⟩ := q10
    show sk_S _ _ _ _ _ _ (.int _ :: _) _ _
    refine sk_S.bif_ne (tgt := 23) (dd DX7_voice 7 rfl) (by decide) (fun c13 => absurd c13 (fun z => hn ⟨(isb hR hG).mp c5, (inN_le (M := 3) (n := 4) (by decide)).mp z⟩)) (fun c13 => ?_)
    refine sk_S.aload_n (i := 0) (dd DX7_voice 8 rfl) rfl rfl ?_
    refine sk_S.ldc (dd DX7_voice 9 rfl) rfl cnX7_48 ?_
    refine sk_S.callV (dd DX7_voice 10 rfl) rfl kX7_49 (cC_refuse (k := 1) (by decide) (by decide) (by decide)) se_0 (by decide) rfl rfl rfl rfl (Nat.le_of_ble_eq_true rfl) (fun r19 h19 q19 => ?_)
    obtain ⟨rfl, rfl⟩ := q19
    show sk_S _ _ _ _ _ _ (.int _ :: _) _ _
    refine sk_S.iret (dd DX7_voice 11 rfl) rfl rfl ?_
    exact ⟨rfl, rfl⟩
set_option maxRecDepth 100000 in
set_option maxHeartbeats 1000000 in
theorem cP_voice_o {l : Launch} {E : sk_V} {d : Nat} {h : sk_M} {x : Int32} {g : Nat → Int32} {i j : Nat} (hR : RQ 1 18 h g) (hG : RG g) (hjb : j < boN g) (hj : j < 6) (hi : i < 4) (hp : ¬ (i = 3 ∧ g (17 + 3 * j + 1) - nI j = 0)) : sk_K l E (d + 19) MX7_voice [.ref 0, .int (nI j), .int (nI i), .int x] h (fun r h1 => sk_o [4, 6, 17] h h1 ∧ h1 4 1 = nI (voB i (g (17 + 3 * j)) (g (17 + 3 * j + 1)) (nI j)).length ∧ h1 17 = appT (h 17) 0 (voB i (g (17 + 3 * j)) (g (17 + 3 * j + 1)) (nI j)) ∧ some (.int (voV i (g (17 + 3 * j)) (g (17 + 3 * j + 1)) (nI j) x)) = r) := by
  refine sk_K.of (by decide +kernel) (Nat.le_of_ble_eq_true rfl) ?_
  show sk_S l E (d + 19) _ 0 [some (.ref 0), some (.int (nI j)), some (.int (nI i)), some (.int x), none] [] h _
  refine sk_S.aload_n (i := 0) (dd DX7_voice 0 rfl) rfl rfl ?_
  refine sk_S.iload_n (i := 1) (dd DX7_voice 1 rfl) rfl rfl ?_
  refine sk_S.callV (dd DX7_voice 2 rfl) rfl kX7_71 cC_isBoat se_0 (by decide) rfl rfl rfl rfl (Nat.le_of_ble_eq_true rfl) (fun r2 h2 q2 => ?_)
  obtain ⟨rfl, rfl⟩ := q2
  show sk_S _ _ _ _ _ _ (.int _ :: _) _ _
  refine sk_S.bif_eq (tgt := 16) (dd DX7_voice 3 rfl) (by decide) (fun c5 => absurd ((isb hR hG).mpr ⟨j, hjb, rfl⟩) c5) (fun c5 => ?_)
  refine sk_S.iload_n (i := 2) (dd DX7_voice 4 rfl) rfl rfl ?_
  refine sk_S.iconst (v := 3) (dd DX7_voice 5 rfl) (by decide) ?_
  refine sk_S.callS (dd DX7_voice 6 rfl) rfl kX7_74 cC_isWithin rfl rfl rfl (Nat.le_of_ble_eq_true rfl) (fun r10 h10 q10 => ?_)
  obtain ⟨rfl, rfl⟩ := q10
  show sk_S _ _ _ _ _ _ (.int _ :: _) _ _
  refine sk_S.bif_ne (tgt := 23) (dd DX7_voice 7 rfl) (by decide) (fun c13 => ?_) (fun c13 => absurd ((inN_le (M := 3) (n := 4) (by decide)).mpr ⟨i, hi, rfl⟩) c13)
  refine sk_S.aload_n (i := 0) (dd DX7_voice 12 rfl) rfl rfl ?_
  refine sk_S.getr (dd DX7_voice 13 rfl) rfl fX7_29 se_0 (by decide) rfl ?_
  refine sk_S.aload_n (i := 0) (dd DX7_voice 14 rfl) rfl rfl ?_
  refine sk_S.getr (dd DX7_voice 15 rfl) rfl fX7_12 se_0 (by decide) rfl ?_
  refine sk_S.getr (dd DX7_voice 16 rfl) rfl fX7_58 se_1 (by decide) rfl ?_
  refine sk_S.iload_n (i := 1) (dd DX7_voice 17 rfl) rfl rfl ?_
  refine sk_S.aald (dd DX7_voice 18 rfl) se_20 rfl (sk_ix_nI (k := j) rfl hj (by decide)) (rf_fleet hj) ?_
  refine sk_S.iload_n (i := 1) (dd DX7_voice 19 rfl) rfl rfl ?_
  refine sk_S.iload_n (i := 2) (dd DX7_voice 20 rfl) rfl rfl ?_
  refine sk_S.iload_n (i := 3) (dd DX7_voice 21 rfl) rfl rfl ?_
  refine sk_S.callV (dd DX7_voice 22 rfl) rfl kX7_220 (cV_hear (se_bt hj) (by omega) hi (hG.bt hj).1 (hR.b0 hj) (hR.b1 hj) hp) se_4 (by decide) rfl rfl rfl rfl (Nat.le_of_ble_eq_true rfl) (fun r39 h39 q39 => ?_)
  obtain ⟨tv, rfl⟩ := q39
  show sk_S _ _ _ _ _ _ (.int _ :: _) _ _
  refine sk_S.istore (i := 4) (dd DX7_voice 23 rfl) (Nat.le_of_ble_eq_true rfl) rfl ?_
  refine sk_S.aload_n (i := 0) (dd DX7_voice 24 rfl) rfl rfl ?_
  refine sk_S.getr (dd DX7_voice 25 rfl) rfl fX7_29 se_0 (by decide) rfl ?_
  refine sk_S.geti (dd DX7_voice 26 rfl) rfl fX7_224 se_4 (by decide) rfl ?_
  refine sk_S.if_eq (tgt := 63) (dd DX7_voice 27 rfl) (by decide) (fun c51 => ?_) (fun c51 => absurd (tv.2.2.1) c51)
  refine sk_S.iload (i := 4) (dd DX7_voice 32 rfl) rfl ?_
  refine sk_S.iret (dd DX7_voice 33 rfl) rfl rfl ?_
  exact ⟨tv.1.more (by decide), tv.2.1, tv.2.2.2, rfl⟩
set_option maxRecDepth 100000 in
set_option maxHeartbeats 1000000 in
theorem cP_voice_p {l : Launch} {E : sk_V} {d : Nat} {h : sk_M} {x : Int32} {g : Nat → Int32} {i j : Nat} (hR : RQ 1 18 h g) (hG : RG g) (hjb : j < boN g) (hj : j < 6) (hi : i < 4) (hp : (i = 3 ∧ g (17 + 3 * j + 1) - nI j = 0)) : sk_K l E (d + 19) MX7_voice [.ref 0, .int (nI j), .int (nI i), .int x] h (fun r h1 => sk_o [4, 6, 17] h h1 ∧ h1 4 1 = nI (voB i (g (17 + 3 * j)) (g (17 + 3 * j + 1)) (nI j)).length ∧ h1 17 = appT (h 17) 0 (voB i (g (17 + 3 * j)) (g (17 + 3 * j + 1)) (nI j)) ∧ some (.int (erI 6)) = r) := by
  refine sk_K.of (by decide +kernel) (Nat.le_of_ble_eq_true rfl) ?_
  show sk_S l E (d + 19) _ 0 [some (.ref 0), some (.int (nI j)), some (.int (nI i)), some (.int x), none] [] h _
  refine sk_S.aload_n (i := 0) (dd DX7_voice 0 rfl) rfl rfl ?_
  refine sk_S.iload_n (i := 1) (dd DX7_voice 1 rfl) rfl rfl ?_
  refine sk_S.callV (dd DX7_voice 2 rfl) rfl kX7_71 cC_isBoat se_0 (by decide) rfl rfl rfl rfl (Nat.le_of_ble_eq_true rfl) (fun r2 h2 q2 => ?_)
  obtain ⟨rfl, rfl⟩ := q2
  show sk_S _ _ _ _ _ _ (.int _ :: _) _ _
  refine sk_S.bif_eq (tgt := 16) (dd DX7_voice 3 rfl) (by decide) (fun c5 => absurd ((isb hR hG).mpr ⟨j, hjb, rfl⟩) c5) (fun c5 => ?_)
  refine sk_S.iload_n (i := 2) (dd DX7_voice 4 rfl) rfl rfl ?_
  refine sk_S.iconst (v := 3) (dd DX7_voice 5 rfl) (by decide) ?_
  refine sk_S.callS (dd DX7_voice 6 rfl) rfl kX7_74 cC_isWithin rfl rfl rfl (Nat.le_of_ble_eq_true rfl) (fun r10 h10 q10 => ?_)
  obtain ⟨rfl, rfl⟩ := q10
  show sk_S _ _ _ _ _ _ (.int _ :: _) _ _
  refine sk_S.bif_ne (tgt := 23) (dd DX7_voice 7 rfl) (by decide) (fun c13 => ?_) (fun c13 => absurd ((inN_le (M := 3) (n := 4) (by decide)).mpr ⟨i, hi, rfl⟩) c13)
  refine sk_S.aload_n (i := 0) (dd DX7_voice 12 rfl) rfl rfl ?_
  refine sk_S.getr (dd DX7_voice 13 rfl) rfl fX7_29 se_0 (by decide) rfl ?_
  refine sk_S.aload_n (i := 0) (dd DX7_voice 14 rfl) rfl rfl ?_
  refine sk_S.getr (dd DX7_voice 15 rfl) rfl fX7_12 se_0 (by decide) rfl ?_
  refine sk_S.getr (dd DX7_voice 16 rfl) rfl fX7_58 se_1 (by decide) rfl ?_
  refine sk_S.iload_n (i := 1) (dd DX7_voice 17 rfl) rfl rfl ?_
  refine sk_S.aald (dd DX7_voice 18 rfl) se_20 rfl (sk_ix_nI (k := j) rfl hj (by decide)) (rf_fleet hj) ?_
  refine sk_S.iload_n (i := 1) (dd DX7_voice 19 rfl) rfl rfl ?_
  refine sk_S.iload_n (i := 2) (dd DX7_voice 20 rfl) rfl rfl ?_
  refine sk_S.iload_n (i := 3) (dd DX7_voice 21 rfl) rfl rfl ?_
  refine sk_S.callV (dd DX7_voice 22 rfl) rfl kX7_220 (cV_hearP (se_bt hj) (by omega) hi (hG.bt hj).1 (hR.b0 hj) (hR.b1 hj) hp) se_4 (by decide) rfl rfl rfl rfl (Nat.le_of_ble_eq_true rfl) (fun r39 h39 q39 => ?_)
  obtain ⟨tv, y, rfl⟩ := q39
  show sk_S _ _ _ _ _ _ (.int _ :: _) _ _
  refine sk_S.istore (i := 4) (dd DX7_voice 23 rfl) (Nat.le_of_ble_eq_true rfl) rfl ?_
  refine sk_S.aload_n (i := 0) (dd DX7_voice 24 rfl) rfl rfl ?_
  refine sk_S.getr (dd DX7_voice 25 rfl) rfl fX7_29 se_0 (by decide) rfl ?_
  refine sk_S.geti (dd DX7_voice 26 rfl) rfl fX7_224 se_4 (by decide) rfl ?_
  refine sk_S.if_eq (tgt := 63) (dd DX7_voice 27 rfl) (by decide) (fun c51 => absurd c51 (by rw [tv.2.2.1]; decide)) (fun c51 => ?_)
  refine sk_S.aload_n (i := 0) (dd DX7_voice 28 rfl) rfl rfl ?_
  refine sk_S.ldc (dd DX7_voice 29 rfl) rfl cnX7_227 ?_
  refine sk_S.callV (dd DX7_voice 30 rfl) rfl kX7_49 (cC_refuse (k := 6) (by decide) (by decide) (by decide)) se_0 (by decide) rfl rfl rfl rfl (Nat.le_of_ble_eq_true rfl) (fun r57 h57 q57 => ?_)
  obtain ⟨rfl, rfl⟩ := q57
  show sk_S _ _ _ _ _ _ (.int _ :: _) _ _
  refine sk_S.goto (tgt := 65) (dd DX7_voice 31 rfl) (by decide) ?_
  refine sk_S.iret (dd DX7_voice 33 rfl) rfl rfl ?_
  have o6 : sk_o [4, 6, 17] h39 (sk_u h39 6 6 (h39 6 6 + 1)) := sk_o.rf.u (by decide)
  exact ⟨(tv.1.more (by decide)).tr o6, by rw [sk_u_at, if_neg (by decide)]; exact tv.2.1, (sk_r_ne _ _ (by decide)).trans tv.2.2.2, rfl⟩
end C14
