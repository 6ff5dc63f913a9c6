section M8
set_option maxRecDepth 100000 in
set_option maxHeartbeats 4000000 in
theorem cM_as {l : Launch} {E : sk_V} {d : Nat} {h : sk_M} {b k : Int32} (hb : boI (h 55)) : sk_K l E (d + 2) MX8_as [.ref 54, .int b, .int k] h (fun r h1 => (¬ (inN b (boN (h 55)) ∧ inN k 7) ∧ erM h 1 h1 r) ∨ (∃ j, j < boN (h 55) ∧ b = nI j ∧ inN k 7 ∧ ((asV k (h 55 (17 + 3 * j)) ∧ h = h1 ∧ some (.int (h 55 (17 + 3 * j + 1))) = r) ∨ (¬ asV k (h 55 (17 + 3 * j)) ∧ erM h 5 h1 r)))) := by
  refine sk_K.of (by decide +kernel) (Nat.le_of_ble_eq_true rfl) ?_
  show sk_S l E (d + 2) _ 0 [some (.ref 54), some (.int b), some (.int k), none, none] [] h _
  refine sk_S.aload_n (i := 0) (dd DX8_as 0 rfl) rfl rfl ?_
  refine sk_S.iload_n (i := 1) (dd DX8_as 1 rfl) rfl rfl ?_
  refine sk_S.callV (dd DX8_as 2 rfl) rfl kX8_79 cM_isBoat se_54 (by decide) rfl rfl rfl rfl (Nat.le_of_ble_eq_true rfl) (fun r2 h2 q2 => ?_)
  obtain ⟨rfl, rfl⟩ := q2
  show sk_S _ _ _ _ _ _ (.int _ :: _) _ _
  refine sk_S.bif_eq (tgt := 18) (dd DX8_as 3 rfl) (by decide) (fun c5 => ?_) (fun c5 => ?_)
  · refine sk_S.aload_n (i := 0) (dd DX8_as 9 rfl) rfl rfl ?_
    refine sk_S.ldc (dd DX8_as 10 rfl) rfl cnX8_73 ?_
    refine sk_S.callV (dd DX8_as 11 rfl) rfl kX8_74 (cM_error (k := 1) ⟨by decide, by decide, by decide⟩) se_54 (by decide) rfl rfl rfl rfl (Nat.le_of_ble_eq_true rfl) (fun r21 h21 q21 => ?_)
    obtain ⟨rfl, rfl⟩ := q21
    show sk_S _ _ _ _ _ _ (.int _ :: _) _ _
    refine sk_S.iret (dd DX8_as 12 rfl) rfl rfl ?_
    exact Or.inl ⟨fun q => c5 (by rw [hb.1]; exact (inN_pred (by have := hb.2; omega)).mpr q.1), rfl, rfl⟩
  · refine sk_S.iload_n (i := 2) (dd DX8_as 4 rfl) rfl rfl ?_
    refine sk_S.iconst (v := 0) (dd DX8_as 5 rfl) (by decide) ?_
    refine sk_S.bipush (v := 6) (dd DX8_as 6 rfl) (by decide) ?_
    refine sk_S.callS (dd DX8_as 7 rfl) rfl kX8_47 cM_in rfl rfl rfl (Nat.le_of_ble_eq_true rfl) (fun r12 h12 q12 => ?_)
    obtain ⟨rfl, rfl⟩ := q12
    show sk_S _ _ _ _ _ _ (.int _ :: _) _ _
    refine sk_S.bif_ne (tgt := 25) (dd DX8_as 8 rfl) (by decide) (fun c15 => ?_) (fun c15 => ?_)
    · rw [hb.1] at c5
      obtain ⟨j, hj, rfl⟩ := (inN_pred (by have := hb.2; omega)).mp c5
      have hb6 := hb.2
      refine sk_S.aload_n (i := 0) (dd DX8_as 13 rfl) rfl rfl ?_
      refine sk_S.iload_n (i := 1) (dd DX8_as 14 rfl) rfl rfl ?_
      refine sk_S.iconst (v := 0) (dd DX8_as 15 rfl) (by decide) ?_
      refine sk_S.callV (dd DX8_as 16 rfl) rfl kX8_51 (cM_of (j := j) (w := 0) (by omega)) se_54 (by decide) rfl rfl rfl rfl (Nat.le_of_ble_eq_true rfl) (fun r28 h28 q28 => ?_)
      obtain ⟨rfl, rfl⟩ := q28
      show sk_S _ _ _ _ _ _ (.int _ :: _) _ _
      refine sk_S.istore_n (i := 3) (dd DX8_as 17 rfl) rfl (Nat.le_of_ble_eq_true rfl) rfl ?_
      refine sk_S.iload_n (i := 2) (dd DX8_as 18 rfl) rfl rfl ?_
      refine sk_S.if_eq (tgt := 61) (dd DX8_as 19 rfl) (by decide) (fun c33 => ?_) (fun c33 => ?_)
      · refine sk_S.iconst (v := 1) (dd DX8_as 35 rfl) (by decide) ?_
        refine sk_S.goto (tgt := 66) (dd DX8_as 36 rfl) (by decide) ?_
        refine sk_S.istore (i := 4) (dd DX8_as 38 rfl) (Nat.le_of_ble_eq_true rfl) rfl ?_
        refine sk_S.iload (i := 4) (dd DX8_as 39 rfl) rfl ?_
        refine sk_S.if_eq (tgt := 82) (dd DX8_as 40 rfl) (by decide) (fun c70 => absurd c70 (by decide)) (fun c70 => ?_)
        refine sk_S.aload_n (i := 0) (dd DX8_as 41 rfl) rfl rfl ?_
        refine sk_S.iload_n (i := 1) (dd DX8_as 42 rfl) rfl rfl ?_
        refine sk_S.iconst (v := 1) (dd DX8_as 43 rfl) (by decide) ?_
        refine sk_S.callV (dd DX8_as 44 rfl) rfl kX8_51 (cM_of (j := j) (w := 1) (by omega)) se_54 (by decide) rfl rfl rfl rfl (Nat.le_of_ble_eq_true rfl) (fun r76 h76 q76 => ?_)
        obtain ⟨rfl, rfl⟩ := q76
        show sk_S _ _ _ _ _ _ (.int _ :: _) _ _
        refine sk_S.goto (tgt := 88) (dd DX8_as 45 rfl) (by decide) ?_
        refine sk_S.iret (dd DX8_as 49 rfl) rfl rfl ?_
        exact Or.inr ⟨j, hj, rfl, (inN_le (by decide)).mp c15, Or.inl ⟨Or.inl c33, rfl, rfl⟩⟩
      · refine sk_S.iload_n (i := 2) (dd DX8_as 20 rfl) rfl rfl ?_
        refine sk_S.iload_n (i := 3) (dd DX8_as 21 rfl) rfl rfl ?_
        refine sk_S.icmp_eq (tgt := 61) (dd DX8_as 22 rfl) (by decide) (fun c38 => ?_) (fun c38 => ?_)
        · refine sk_S.iconst (v := 1) (dd DX8_as 35 rfl) (by decide) ?_
          refine sk_S.goto (tgt := 66) (dd DX8_as 36 rfl) (by decide) ?_
          refine sk_S.istore (i := 4) (dd DX8_as 38 rfl) (Nat.le_of_ble_eq_true rfl) rfl ?_
          refine sk_S.iload (i := 4) (dd DX8_as 39 rfl) rfl ?_
          refine sk_S.if_eq (tgt := 82) (dd DX8_as 40 rfl) (by decide) (fun c70 => absurd c70 (by decide)) (fun c70 => ?_)
          refine sk_S.aload_n (i := 0) (dd DX8_as 41 rfl) rfl rfl ?_
          refine sk_S.iload_n (i := 1) (dd DX8_as 42 rfl) rfl rfl ?_
          refine sk_S.iconst (v := 1) (dd DX8_as 43 rfl) (by decide) ?_
          refine sk_S.callV (dd DX8_as 44 rfl) rfl kX8_51 (cM_of (j := j) (w := 1) (by omega)) se_54 (by decide) rfl rfl rfl rfl (Nat.le_of_ble_eq_true rfl) (fun r76 h76 q76 => ?_)
          obtain ⟨rfl, rfl⟩ := q76
          show sk_S _ _ _ _ _ _ (.int _ :: _) _ _
          refine sk_S.goto (tgt := 88) (dd DX8_as 45 rfl) (by decide) ?_
          refine sk_S.iret (dd DX8_as 49 rfl) rfl rfl ?_
          exact Or.inr ⟨j, hj, rfl, (inN_le (by decide)).mp c15, Or.inl ⟨Or.inr (Or.inl c38), rfl, rfl⟩⟩
        · refine sk_S.iload_n (i := 2) (dd DX8_as 23 rfl) rfl rfl ?_
          refine sk_S.iconst (v := 1) (dd DX8_as 24 rfl) (by decide) ?_
          refine sk_S.icmp_ne (tgt := 51) (dd DX8_as 25 rfl) (by decide) (fun c43 => ?_) (fun c43 => ?_)
          · refine sk_S.iload_n (i := 2) (dd DX8_as 29 rfl) rfl rfl ?_
            refine sk_S.iconst (v := 2) (dd DX8_as 30 rfl) (by decide) ?_
            refine sk_S.icmp_ne (tgt := 65) (dd DX8_as 31 rfl) (by decide) (fun c53 => ?_) (fun c53 => ?_)
            · refine sk_S.iconst (v := 0) (dd DX8_as 37 rfl) (by decide) ?_
              refine sk_S.istore (i := 4) (dd DX8_as 38 rfl) (Nat.le_of_ble_eq_true rfl) rfl ?_
              refine sk_S.iload (i := 4) (dd DX8_as 39 rfl) rfl ?_
              refine sk_S.if_eq (tgt := 82) (dd DX8_as 40 rfl) (by decide) (fun c70 => ?_) (fun c70 => absurd rfl c70)
              refine sk_S.aload_n (i := 0) (dd DX8_as 46 rfl) rfl rfl ?_
              refine sk_S.ldc (dd DX8_as 47 rfl) rfl cnX8_88 ?_
              refine sk_S.callV (dd DX8_as 48 rfl) rfl kX8_74 (cM_error (k := 5) ⟨by decide, by decide, by decide⟩) se_54 (by decide) rfl rfl rfl rfl (Nat.le_of_ble_eq_true rfl) (fun r85 h85 q85 => ?_)
              obtain ⟨rfl, rfl⟩ := q85
              show sk_S _ _ _ _ _ _ (.int _ :: _) _ _
              refine sk_S.iret (dd DX8_as 49 rfl) rfl rfl ?_
              refine Or.inr ⟨j, hj, rfl, (inN_le (by decide)).mp c15, Or.inr ⟨?_, rfl, rfl⟩⟩
              rintro (q | q | ⟨q1, q2⟩ | ⟨q1, q2⟩)
              · exact c33 q
              · exact c38 q
              · exact c43 q1
              · exact c53 q1
            · refine sk_S.iload_n (i := 3) (dd DX8_as 32 rfl) rfl rfl ?_
              refine sk_S.iconst (v := 5) (dd DX8_as 33 rfl) (by decide) ?_
              refine sk_S.icmp_ne (tgt := 65) (dd DX8_as 34 rfl) (by decide) (fun c58 => ?_) (fun c58 => ?_)
              · refine sk_S.iconst (v := 0) (dd DX8_as 37 rfl) (by decide) ?_
                refine sk_S.istore (i := 4) (dd DX8_as 38 rfl) (Nat.le_of_ble_eq_true rfl) rfl ?_
                refine sk_S.iload (i := 4) (dd DX8_as 39 rfl) rfl ?_
                refine sk_S.if_eq (tgt := 82) (dd DX8_as 40 rfl) (by decide) (fun c70 => ?_) (fun c70 => absurd rfl c70)
                refine sk_S.aload_n (i := 0) (dd DX8_as 46 rfl) rfl rfl ?_
                refine sk_S.ldc (dd DX8_as 47 rfl) rfl cnX8_88 ?_
                refine sk_S.callV (dd DX8_as 48 rfl) rfl kX8_74 (cM_error (k := 5) ⟨by decide, by decide, by decide⟩) se_54 (by decide) rfl rfl rfl rfl (Nat.le_of_ble_eq_true rfl) (fun r85 h85 q85 => ?_)
                obtain ⟨rfl, rfl⟩ := q85
                show sk_S _ _ _ _ _ _ (.int _ :: _) _ _
                refine sk_S.iret (dd DX8_as 49 rfl) rfl rfl ?_
                refine Or.inr ⟨j, hj, rfl, (inN_le (by decide)).mp c15, Or.inr ⟨?_, rfl, rfl⟩⟩
                rintro (q | q | ⟨q1, q2⟩ | ⟨q1, q2⟩)
                · exact c33 q
                · exact c38 q
                · exact c43 q1
                · exact c58 q2
              · refine sk_S.iconst (v := 1) (dd DX8_as 35 rfl) (by decide) ?_
                refine sk_S.goto (tgt := 66) (dd DX8_as 36 rfl) (by decide) ?_
                refine sk_S.istore (i := 4) (dd DX8_as 38 rfl) (Nat.le_of_ble_eq_true rfl) rfl ?_
                refine sk_S.iload (i := 4) (dd DX8_as 39 rfl) rfl ?_
                refine sk_S.if_eq (tgt := 82) (dd DX8_as 40 rfl) (by decide) (fun c70 => absurd c70 (by decide)) (fun c70 => ?_)
                refine sk_S.aload_n (i := 0) (dd DX8_as 41 rfl) rfl rfl ?_
                refine sk_S.iload_n (i := 1) (dd DX8_as 42 rfl) rfl rfl ?_
                refine sk_S.iconst (v := 1) (dd DX8_as 43 rfl) (by decide) ?_
                refine sk_S.callV (dd DX8_as 44 rfl) rfl kX8_51 (cM_of (j := j) (w := 1) (by omega)) se_54 (by decide) rfl rfl rfl rfl (Nat.le_of_ble_eq_true rfl) (fun r76 h76 q76 => ?_)
                obtain ⟨rfl, rfl⟩ := q76
                show sk_S _ _ _ _ _ _ (.int _ :: _) _ _
                refine sk_S.goto (tgt := 88) (dd DX8_as 45 rfl) (by decide) ?_
                refine sk_S.iret (dd DX8_as 49 rfl) rfl rfl ?_
                exact Or.inr ⟨j, hj, rfl, (inN_le (by decide)).mp c15, Or.inl ⟨Or.inr (Or.inr (Or.inr ⟨c53, c58⟩)), rfl, rfl⟩⟩
          · refine sk_S.iload_n (i := 3) (dd DX8_as 26 rfl) rfl rfl ?_
            refine sk_S.iconst (v := 4) (dd DX8_as 27 rfl) (by decide) ?_
            refine sk_S.icmp_eq (tgt := 61) (dd DX8_as 28 rfl) (by decide) (fun c48 => ?_) (fun c48 => ?_)
            · refine sk_S.iconst (v := 1) (dd DX8_as 35 rfl) (by decide) ?_
              refine sk_S.goto (tgt := 66) (dd DX8_as 36 rfl) (by decide) ?_
              refine sk_S.istore (i := 4) (dd DX8_as 38 rfl) (Nat.le_of_ble_eq_true rfl) rfl ?_
              refine sk_S.iload (i := 4) (dd DX8_as 39 rfl) rfl ?_
              refine sk_S.if_eq (tgt := 82) (dd DX8_as 40 rfl) (by decide) (fun c70 => absurd c70 (by decide)) (fun c70 => ?_)
              refine sk_S.aload_n (i := 0) (dd DX8_as 41 rfl) rfl rfl ?_
              refine sk_S.iload_n (i := 1) (dd DX8_as 42 rfl) rfl rfl ?_
              refine sk_S.iconst (v := 1) (dd DX8_as 43 rfl) (by decide) ?_
              refine sk_S.callV (dd DX8_as 44 rfl) rfl kX8_51 (cM_of (j := j) (w := 1) (by omega)) se_54 (by decide) rfl rfl rfl rfl (Nat.le_of_ble_eq_true rfl) (fun r76 h76 q76 => ?_)
              obtain ⟨rfl, rfl⟩ := q76
              show sk_S _ _ _ _ _ _ (.int _ :: _) _ _
              refine sk_S.goto (tgt := 88) (dd DX8_as 45 rfl) (by decide) ?_
              refine sk_S.iret (dd DX8_as 49 rfl) rfl rfl ?_
              exact Or.inr ⟨j, hj, rfl, (inN_le (by decide)).mp c15, Or.inl ⟨Or.inr (Or.inr (Or.inl ⟨c43, c48⟩)), rfl, rfl⟩⟩
            · refine sk_S.iload_n (i := 2) (dd DX8_as 29 rfl) rfl rfl ?_
              refine sk_S.iconst (v := 2) (dd DX8_as 30 rfl) (by decide) ?_
              refine sk_S.icmp_ne (tgt := 65) (dd DX8_as 31 rfl) (by decide) (fun c53 => ?_) (fun c53 => ?_)
              · refine sk_S.iconst (v := 0) (dd DX8_as 37 rfl) (by decide) ?_
                refine sk_S.istore (i := 4) (dd DX8_as 38 rfl) (Nat.le_of_ble_eq_true rfl) rfl ?_
                refine sk_S.iload (i := 4) (dd DX8_as 39 rfl) rfl ?_
                refine sk_S.if_eq (tgt := 82) (dd DX8_as 40 rfl) (by decide) (fun c70 => ?_) (fun c70 => absurd rfl c70)
                refine sk_S.aload_n (i := 0) (dd DX8_as 46 rfl) rfl rfl ?_
                refine sk_S.ldc (dd DX8_as 47 rfl) rfl cnX8_88 ?_
                refine sk_S.callV (dd DX8_as 48 rfl) rfl kX8_74 (cM_error (k := 5) ⟨by decide, by decide, by decide⟩) se_54 (by decide) rfl rfl rfl rfl (Nat.le_of_ble_eq_true rfl) (fun r85 h85 q85 => ?_)
                obtain ⟨rfl, rfl⟩ := q85
                show sk_S _ _ _ _ _ _ (.int _ :: _) _ _
                refine sk_S.iret (dd DX8_as 49 rfl) rfl rfl ?_
                refine Or.inr ⟨j, hj, rfl, (inN_le (by decide)).mp c15, Or.inr ⟨?_, rfl, rfl⟩⟩
                rintro (q | q | ⟨q1, q2⟩ | ⟨q1, q2⟩)
                · exact c33 q
                · exact c38 q
                · exact c48 q2
                · exact c53 q1
              · refine sk_S.iload_n (i := 3) (dd DX8_as 32 rfl) rfl rfl ?_
                refine sk_S.iconst (v := 5) (dd DX8_as 33 rfl) (by decide) ?_
                refine sk_S.icmp_ne (tgt := 65) (dd DX8_as 34 rfl) (by decide) (fun c58 => ?_) (fun c58 => ?_)
                · refine sk_S.iconst (v := 0) (dd DX8_as 37 rfl) (by decide) ?_
                  refine sk_S.istore (i := 4) (dd DX8_as 38 rfl) (Nat.le_of_ble_eq_true rfl) rfl ?_
                  refine sk_S.iload (i := 4) (dd DX8_as 39 rfl) rfl ?_
                  refine sk_S.if_eq (tgt := 82) (dd DX8_as 40 rfl) (by decide) (fun c70 => ?_) (fun c70 => absurd rfl c70)
                  refine sk_S.aload_n (i := 0) (dd DX8_as 46 rfl) rfl rfl ?_
                  refine sk_S.ldc (dd DX8_as 47 rfl) rfl cnX8_88 ?_
                  refine sk_S.callV (dd DX8_as 48 rfl) rfl kX8_74 (cM_error (k := 5) ⟨by decide, by decide, by decide⟩) se_54 (by decide) rfl rfl rfl rfl (Nat.le_of_ble_eq_true rfl) (fun r85 h85 q85 => ?_)
                  obtain ⟨rfl, rfl⟩ := q85
                  show sk_S _ _ _ _ _ _ (.int _ :: _) _ _
                  refine sk_S.iret (dd DX8_as 49 rfl) rfl rfl ?_
                  refine Or.inr ⟨j, hj, rfl, (inN_le (by decide)).mp c15, Or.inr ⟨?_, rfl, rfl⟩⟩
                  rintro (q | q | ⟨q1, q2⟩ | ⟨q1, q2⟩)
                  · exact c33 q
                  · exact c38 q
                  · exact c48 q2
                  · exact c58 q2
                · refine sk_S.iconst (v := 1) (dd DX8_as 35 rfl) (by decide) ?_
                  refine sk_S.goto (tgt := 66) (dd DX8_as 36 rfl) (by decide) ?_
                  refine sk_S.istore (i := 4) (dd DX8_as 38 rfl) (Nat.le_of_ble_eq_true rfl) rfl ?_
                  refine sk_S.iload (i := 4) (dd DX8_as 39 rfl) rfl ?_
                  refine sk_S.if_eq (tgt := 82) (dd DX8_as 40 rfl) (by decide) (fun c70 => absurd c70 (by decide)) (fun c70 => ?_)
                  refine sk_S.aload_n (i := 0) (dd DX8_as 41 rfl) rfl rfl ?_
                  refine sk_S.iload_n (i := 1) (dd DX8_as 42 rfl) rfl rfl ?_
                  refine sk_S.iconst (v := 1) (dd DX8_as 43 rfl) (by decide) ?_
                  refine sk_S.callV (dd DX8_as 44 rfl) rfl kX8_51 (cM_of (j := j) (w := 1) (by omega)) se_54 (by decide) rfl rfl rfl rfl (Nat.le_of_ble_eq_true rfl) (fun r76 h76 q76 => ?_)
                  obtain ⟨rfl, rfl⟩ := q76
                  show sk_S _ _ _ _ _ _ (.int _ :: _) _ _
                  refine sk_S.goto (tgt := 88) (dd DX8_as 45 rfl) (by decide) ?_
                  refine sk_S.iret (dd DX8_as 49 rfl) rfl rfl ?_
                  exact Or.inr ⟨j, hj, rfl, (inN_le (by decide)).mp c15, Or.inl ⟨Or.inr (Or.inr (Or.inr ⟨c53, c58⟩)), rfl, rfl⟩⟩
    · refine sk_S.aload_n (i := 0) (dd DX8_as 9 rfl) rfl rfl ?_
      refine sk_S.ldc (dd DX8_as 10 rfl) rfl cnX8_73 ?_
      refine sk_S.callV (dd DX8_as 11 rfl) rfl kX8_74 (cM_error (k := 1) ⟨by decide, by decide, by decide⟩) se_54 (by decide) rfl rfl rfl rfl (Nat.le_of_ble_eq_true rfl) (fun r21 h21 q21 => ?_)
      obtain ⟨rfl, rfl⟩ := q21
      show sk_S _ _ _ _ _ _ (.int _ :: _) _ _
      refine sk_S.iret (dd DX8_as 12 rfl) rfl rfl ?_
      exact Or.inl ⟨fun q => c15 ((inN_le (by decide)).mpr q.2), rfl, rfl⟩
set_option maxRecDepth 100000 in
set_option maxHeartbeats 4000000 in
theorem cM_boatIs {l : Launch} {E : sk_V} {d : Nat} {h : sk_M} {b w : Int32} (hb : boI (h 55)) (hI : lawI (h 55) 0) : sk_K l E (d + 4) MX8_boatIs [.ref 54, .int b, .int w] h (fun r h1 => (¬ (inN b (boN (h 55)) ∧ inN w 8) ∧ erM h 1 h1 r) ∨ (∃ j, j < boN (h 55) ∧ b = nI j ∧ ∃ i, i < 8 ∧ w = nI i ∧ sk_o [63, 64] h h1 ∧ some (.int (isV (h 55) j i)) = r)) := by
  refine sk_K.of (by decide +kernel) (Nat.le_of_ble_eq_true rfl) ?_
  show sk_S l E (d + 4) _ 0 [some (.ref 54), some (.int b), some (.int w)] [] h _
  refine sk_S.aload_n (i := 0) (dd DX8_boatIs 0 rfl) rfl rfl ?_
  refine sk_S.iload_n (i := 1) (dd DX8_boatIs 1 rfl) rfl rfl ?_
  refine sk_S.callV (dd DX8_boatIs 2 rfl) rfl kX8_79 cM_isBoat se_54 (by decide) rfl rfl rfl rfl (Nat.le_of_ble_eq_true rfl) (fun r2 h2 q2 => ?_)
  obtain ⟨rfl, rfl⟩ := q2
  show sk_S _ _ _ _ _ _ (.int _ :: _) _ _
  refine sk_S.bif_eq (tgt := 18) (dd DX8_boatIs 3 rfl) (by decide) (fun c5 => ?_) (fun c5 => ?_)
  · refine sk_S.aload_n (i := 0) (dd DX8_boatIs 9 rfl) rfl rfl ?_
    refine sk_S.ldc (dd DX8_boatIs 10 rfl) rfl cnX8_73 ?_
    refine sk_S.callV (dd DX8_boatIs 11 rfl) rfl kX8_74 (cM_error (k := 1) ⟨by decide, by decide, by decide⟩) se_54 (by decide) rfl rfl rfl rfl (Nat.le_of_ble_eq_true rfl) (fun r21 h21 q21 => ?_)
    obtain ⟨rfl, rfl⟩ := q21
    show sk_S _ _ _ _ _ _ (.int _ :: _) _ _
    refine sk_S.iret (dd DX8_boatIs 12 rfl) rfl rfl ?_
    exact Or.inl ⟨fun q => c5 (by rw [hb.1]; exact (inN_pred (by have := hb.2; omega)).mpr q.1), rfl, rfl⟩
  · refine sk_S.iload_n (i := 2) (dd DX8_boatIs 4 rfl) rfl rfl ?_
    refine sk_S.iconst (v := 0) (dd DX8_boatIs 5 rfl) (by decide) ?_
    refine sk_S.bipush (v := 7) (dd DX8_boatIs 6 rfl) (by decide) ?_
    refine sk_S.callS (dd DX8_boatIs 7 rfl) rfl kX8_47 cM_in rfl rfl rfl (Nat.le_of_ble_eq_true rfl) (fun r12 h12 q12 => ?_)
    obtain ⟨rfl, rfl⟩ := q12
    show sk_S _ _ _ _ _ _ (.int _ :: _) _ _
    refine sk_S.bif_ne (tgt := 25) (dd DX8_boatIs 8 rfl) (by decide) (fun c15 => ?_) (fun c15 => ?_)
    · rw [hb.1] at c5
      obtain ⟨j, hj, rfl⟩ := (inN_pred (by have := hb.2; omega)).mp c5
      have hb6 := hb.2
      obtain ⟨i, hi, rfl⟩ := (inN_le (n := 8) (by decide)).mp c15
      refine sk_S.iload_n (i := 2) (dd DX8_boatIs 13 rfl) rfl rfl ?_
      refine sk_S.iconst (v := 3) (dd DX8_boatIs 14 rfl) (by decide) ?_
      refine sk_S.icmp_ge (tgt := 39) (dd DX8_boatIs 15 rfl) (by decide) (fun c27 => ?_) (fun c27 => ?_)
      · refine sk_S.iload_n (i := 2) (dd DX8_boatIs 21 rfl) rfl rfl ?_
        refine sk_S.iconst (v := 3) (dd DX8_boatIs 22 rfl) (by decide) ?_
        refine sk_S.icmp_ne (tgt := 52) (dd DX8_boatIs 23 rfl) (by decide) (fun c41 => ?_) (fun c41 => ?_)
        · have hi4 : 4 ≤ i := by
            have h1 := i3ge (by omega) c27
            have h2 := i3ne c41
            omega
          refine sk_S.aload_n (i := 0) (dd DX8_boatIs 28 rfl) rfl rfl ?_
          refine sk_S.iload_n (i := 1) (dd DX8_boatIs 29 rfl) rfl rfl ?_
          refine sk_S.iload_n (i := 2) (dd DX8_boatIs 30 rfl) rfl rfl ?_
          refine sk_S.iconst (v := 4) (dd DX8_boatIs 31 rfl) (by decide) ?_
          refine sk_S.isub (dd DX8_boatIs 32 rfl) ?_
          rw [show nI i - 4 = nI (i - 4) from nI_sub (b := 4) hi4]
          refine sk_S.aload_n (i := 0) (dd DX8_boatIs 33 rfl) rfl rfl ?_
          refine sk_S.getr (dd DX8_boatIs 34 rfl) rfl fX8_9 se_54 (by decide) rfl ?_
          refine sk_S.bipush (v := 9) (dd DX8_boatIs 35 rfl) (by decide) ?_
          refine sk_S.iload_n (i := 2) (dd DX8_boatIs 36 rfl) rfl rfl ?_
          refine sk_S.iadd (dd DX8_boatIs 37 rfl) ?_
          refine sk_S.iconst (v := 4) (dd DX8_boatIs 38 rfl) (by decide) ?_
          refine sk_S.isub (dd DX8_boatIs 39 rfl) ?_
          refine sk_S.iald (dd DX8_boatIs 40 rfl) se_55 (sk_ix_e (k := 9 + (i - 4)) (by show nI 9 + nI i - nI 4 = _; rw [nI_add, nI_sub (by omega), Nat.add_sub_assoc hi4]) (by omega) (by decide)) ?_
          refine sk_S.callV (dd DX8_boatIs 41 rfl) rfl kX8_62 (cM_landsOf (j := j) (f := nI (i - 4)) (s := h 55 (9 + (i - 4))) (by omega) rfl hI) se_54 (by decide) rfl rfl rfl rfl (Nat.le_of_ble_eq_true rfl) (fun r68 h68 q68 => ?_)
          obtain ⟨ho, rfl⟩ := q68
          show sk_S _ _ _ _ _ _ (.int _ :: _) _ _
          refine sk_S.iret (dd DX8_boatIs 42 rfl) rfl rfl ?_
          refine Or.inr ⟨j, hj, rfl, i, hi, rfl, ho, ?_⟩
          unfold isV
          rw [if_neg (i3ge (by omega) c27), if_neg (i3ne c41)]
        · refine sk_S.aload_n (i := 0) (dd DX8_boatIs 24 rfl) rfl rfl ?_
          refine sk_S.iload_n (i := 1) (dd DX8_boatIs 25 rfl) rfl rfl ?_
          refine sk_S.callV (dd DX8_boatIs 26 rfl) rfl kX8_82 (cM_eatsOf (j := j) (by omega)) se_54 (by decide) rfl rfl rfl rfl (Nat.le_of_ble_eq_true rfl) (fun r46 h46 q46 => ?_)
          obtain ⟨rfl, rfl⟩ := q46
          show sk_S _ _ _ _ _ _ (.int _ :: _) _ _
          refine sk_S.goto (tgt := 71) (dd DX8_boatIs 27 rfl) (by decide) ?_
          refine sk_S.iret (dd DX8_boatIs 42 rfl) rfl rfl ?_
          refine Or.inr ⟨j, hj, rfl, i, hi, rfl, sk_o.rf, ?_⟩
          unfold isV
          rw [if_neg (i3ge (by omega) c27), if_pos (i3eq (by omega) c41)]
      · refine sk_S.aload_n (i := 0) (dd DX8_boatIs 16 rfl) rfl rfl ?_
        refine sk_S.iload_n (i := 1) (dd DX8_boatIs 17 rfl) rfl rfl ?_
        refine sk_S.iload_n (i := 2) (dd DX8_boatIs 18 rfl) rfl rfl ?_
        refine sk_S.callV (dd DX8_boatIs 19 rfl) rfl kX8_51 (cM_of (j := j) (w := i) (by omega)) se_54 (by decide) rfl rfl rfl rfl (Nat.le_of_ble_eq_true rfl) (fun r33 h33 q33 => ?_)
        obtain ⟨rfl, rfl⟩ := q33
        show sk_S _ _ _ _ _ _ (.int _ :: _) _ _
        refine sk_S.goto (tgt := 71) (dd DX8_boatIs 20 rfl) (by decide) ?_
        refine sk_S.iret (dd DX8_boatIs 42 rfl) rfl rfl ?_
        refine Or.inr ⟨j, hj, rfl, i, hi, rfl, sk_o.rf, ?_⟩
        unfold isV
        rw [if_pos (i3lt (by omega) c27)]
    · refine sk_S.aload_n (i := 0) (dd DX8_boatIs 9 rfl) rfl rfl ?_
      refine sk_S.ldc (dd DX8_boatIs 10 rfl) rfl cnX8_73 ?_
      refine sk_S.callV (dd DX8_boatIs 11 rfl) rfl kX8_74 (cM_error (k := 1) ⟨by decide, by decide, by decide⟩) se_54 (by decide) rfl rfl rfl rfl (Nat.le_of_ble_eq_true rfl) (fun r21 h21 q21 => ?_)
      obtain ⟨rfl, rfl⟩ := q21
      show sk_S _ _ _ _ _ _ (.int _ :: _) _ _
      refine sk_S.iret (dd DX8_boatIs 12 rfl) rfl rfl ?_
      exact Or.inl ⟨fun q => c15 ((inN_le (by decide)).mpr q.2), rfl, rfl⟩
set_option maxRecDepth 100000 in
set_option maxHeartbeats 4000000 in
theorem lp_partOf {l : Launch} {E : sk_V} {d : Nat} {h : sk_M} {A B : Nat} {p : Int32} (hA : A < 2147483648) (hB0 : 0 < B) (hB : B < 2147483648) : ∀ (n a b : Nat) (x5 : Option Value), a ≤ n → a < 2147483648 → 0 < b → b < 2147483648 → Nat.gcd a b = Nat.gcd A B → sk_S l E (d + 0) MX8_partOf 5 [some (.int (nI A)), some (.int (nI B)), some (.int p), some (.int (nI a)), some (.int (nI b)), x5] [] h (fun r h1 => h = h1 ∧ some (.int (if p = 0 then nI (A / Nat.gcd A B) else nI (B / Nat.gcd A B))) = r)
  | 0, a, b, x5, hn, ha, hb0, hb, hg => by
    have ha0 : a = 0 := by omega
    subst ha0
    have hbg : b = Nat.gcd A B := by rw [← hg, Nat.gcd_zero_left]
    refine sk_S.iload_n (i := 3) (dd DX8_partOf 4 rfl) rfl rfl ?_
    refine sk_S.if_eq (tgt := 24) (dd DX8_partOf 5 rfl) (by decide) (fun c6 => ?_) (fun c6 => absurd nI_0 c6)
    refine sk_S.iload_n (i := 2) (dd DX8_partOf 15 rfl) rfl rfl ?_
    refine sk_S.if_ne (tgt := 35) (dd DX8_partOf 16 rfl) (by decide) (fun c25 => ?_) (fun c25 => ?_)
    · refine sk_S.iload_n (i := 1) (dd DX8_partOf 21 rfl) rfl rfl ?_
      refine sk_S.iload (i := 4) (dd DX8_partOf 22 rfl) rfl ?_
      refine sk_S.idiv (dd DX8_partOf 23 rfl) (nI_ne0 hb0 hb) ?_
      refine sk_S.iret (dd DX8_partOf 24 rfl) rfl rfl ?_
      refine ⟨rfl, ?_⟩
      rw [if_neg c25, div_nI (by omega) hb0 hb, hbg]
    · refine sk_S.iload_n (i := 0) (dd DX8_partOf 17 rfl) rfl rfl ?_
      refine sk_S.iload (i := 4) (dd DX8_partOf 18 rfl) rfl ?_
      refine sk_S.idiv (dd DX8_partOf 19 rfl) (nI_ne0 hb0 hb) ?_
      refine sk_S.goto (tgt := 39) (dd DX8_partOf 20 rfl) (by decide) ?_
      refine sk_S.iret (dd DX8_partOf 24 rfl) rfl rfl ?_
      refine ⟨rfl, ?_⟩
      rw [if_pos c25, div_nI (by omega) hb0 hb, hbg]
  | n + 1, a, b, x5, hn, ha, hb0, hb, hg => by
    refine sk_S.iload_n (i := 3) (dd DX8_partOf 4 rfl) rfl rfl ?_
    refine sk_S.if_eq (tgt := 24) (dd DX8_partOf 5 rfl) (by decide) (fun c6 => ?_) (fun c6 => ?_)
    · refine sk_S.iload_n (i := 2) (dd DX8_partOf 15 rfl) rfl rfl ?_
      refine sk_S.if_ne (tgt := 35) (dd DX8_partOf 16 rfl) (by decide) (fun c25 => ?_) (fun c25 => ?_)
      · refine sk_S.iload_n (i := 1) (dd DX8_partOf 21 rfl) rfl rfl ?_
        refine sk_S.iload (i := 4) (dd DX8_partOf 22 rfl) rfl ?_
        refine sk_S.idiv (dd DX8_partOf 23 rfl) (nI_ne0 hb0 hb) ?_
        refine sk_S.iret (dd DX8_partOf 24 rfl) rfl rfl ?_
        have ha0 : a = 0 := by
          have h2 : nI a = nI 0 := c6
          exact (nI_eq (by omega) (by decide)).mp h2
        have hbg : b = Nat.gcd A B := by rw [← hg, ha0, Nat.gcd_zero_left]
        refine ⟨rfl, ?_⟩
        rw [if_neg c25, div_nI (by omega) hb0 hb, hbg]
      · refine sk_S.iload_n (i := 0) (dd DX8_partOf 17 rfl) rfl rfl ?_
        refine sk_S.iload (i := 4) (dd DX8_partOf 18 rfl) rfl ?_
        refine sk_S.idiv (dd DX8_partOf 19 rfl) (nI_ne0 hb0 hb) ?_
        refine sk_S.goto (tgt := 39) (dd DX8_partOf 20 rfl) (by decide) ?_
        refine sk_S.iret (dd DX8_partOf 24 rfl) rfl rfl ?_
        have ha0 : a = 0 := by
          have h2 : nI a = nI 0 := c6
          exact (nI_eq (by omega) (by decide)).mp h2
        have hbg : b = Nat.gcd A B := by rw [← hg, ha0, Nat.gcd_zero_left]
        refine ⟨rfl, ?_⟩
        rw [if_pos c25, div_nI (by omega) hb0 hb, hbg]
    · refine sk_S.iload (i := 4) (dd DX8_partOf 6 rfl) rfl ?_
      refine sk_S.iload_n (i := 3) (dd DX8_partOf 7 rfl) rfl rfl ?_
      refine sk_S.irem (dd DX8_partOf 8 rfl) c6 ?_
      refine sk_S.istore (i := 5) (dd DX8_partOf 9 rfl) (Nat.le_of_ble_eq_true rfl) rfl ?_
      refine sk_S.iload_n (i := 3) (dd DX8_partOf 10 rfl) rfl rfl ?_
      refine sk_S.istore (i := 4) (dd DX8_partOf 11 rfl) (Nat.le_of_ble_eq_true rfl) rfl ?_
      refine sk_S.iload (i := 5) (dd DX8_partOf 12 rfl) rfl ?_
      refine sk_S.istore_n (i := 3) (dd DX8_partOf 13 rfl) rfl (Nat.le_of_ble_eq_true rfl) rfl ?_
      refine sk_S.goto (tgt := 5) (dd DX8_partOf 14 rfl) (by decide) ?_
      have ha0 : 0 < a := by
        apply Nat.pos_of_ne_zero
        intro q
        apply c6
        rw [q]
        rfl
      have hlt := Nat.mod_lt b ha0
      exact sk_S.L (lp_partOf hA hB0 hB n (b % a) a (some (.int (nI b - nI b / nI a * nI a))) (by omega) (by omega) ha0 ha ((gcd_step ha0).trans hg)) (by rw [nI_rem (by omega) ha0 (by omega)]; rfl)
set_option maxRecDepth 100000 in
set_option maxHeartbeats 4000000 in
theorem cM_partOf {l : Launch} {E : sk_V} {d : Nat} {h : sk_M} {A B : Nat} {p : Int32} (hA : A < 2147483648) (hB0 : 0 < B) (hB : B < 2147483648) : sk_K l E (d + 0) MX8_partOf [.int (nI A), .int (nI B), .int p] h (fun r h1 => h = h1 ∧ some (.int (if p = 0 then nI (A / Nat.gcd A B) else nI (B / Nat.gcd A B))) = r) := by
  refine sk_K.of (by decide +kernel) (Nat.le_of_ble_eq_true rfl) ?_
  show sk_S l E (d + 0) _ 0 [some (.int (nI A)), some (.int (nI B)), some (.int p), none, none, none] [] h _
  refine sk_S.iload_n (i := 0) (dd DX8_partOf 0 rfl) rfl rfl ?_
  refine sk_S.istore_n (i := 3) (dd DX8_partOf 1 rfl) rfl (Nat.le_of_ble_eq_true rfl) rfl ?_
  refine sk_S.iload_n (i := 1) (dd DX8_partOf 2 rfl) rfl rfl ?_
  refine sk_S.istore (i := 4) (dd DX8_partOf 3 rfl) (Nat.le_of_ble_eq_true rfl) rfl ?_
  exact lp_partOf hA hB0 hB A A B none (Nat.le_refl _) hA hB0 hB rfl
set_option maxRecDepth 100000 in
set_option maxHeartbeats 4000000 in
theorem cM_odds {l : Launch} {E : sk_V} {d : Nat} {h : sk_M} {f n p : Int32} (hb : boI (h 55)) (hI : lawI (h 55) 0) : sk_K l E (d + 6) MX8_odds [.ref 54, .int f, .int n, .int p] h (fun r h1 => (¬ (inN f 4 ∧ inN n 100 ∧ inN p 2) ∧ erM h 1 h1 r) ∨ (inN f 4 ∧ inN n 100 ∧ inN p 2 ∧ sk_o [63, 64] h h1 ∧ some (.int (if p = 0 then nI (cntN (enP (h 55) f n) 10 / Nat.gcd (cntN (enP (h 55) f n) 10) 10) else nI (10 / Nat.gcd (cntN (enP (h 55) f n) 10) 10))) = r)) := by
  refine sk_K.of (by decide +kernel) (Nat.le_of_ble_eq_true rfl) ?_
  show sk_S l E (d + 6) _ 0 [some (.ref 54), some (.int f), some (.int n), some (.int p)] [] h _
  refine sk_S.iload_n (i := 1) (dd DX8_odds 0 rfl) rfl rfl ?_
  refine sk_S.callS (dd DX8_odds 1 rfl) rfl kX8_89 cM_isFish rfl rfl rfl (Nat.le_of_ble_eq_true rfl) (fun r1 h1 q1 => ?_)
  obtain ⟨rfl, rfl⟩ := q1
  show sk_S _ _ _ _ _ _ (.int _ :: _) _ _
  refine sk_S.bif_eq (tgt := 26) (dd DX8_odds 2 rfl) (by decide) (fun c4 => ?_) (fun c4 => ?_)
  · refine sk_S.aload_n (i := 0) (dd DX8_odds 13 rfl) rfl rfl ?_
    refine sk_S.ldc (dd DX8_odds 14 rfl) rfl cnX8_73 ?_
    refine sk_S.callV (dd DX8_odds 15 rfl) rfl kX8_74 (cM_error (k := 1) ⟨by decide, by decide, by decide⟩) se_54 (by decide) rfl rfl rfl rfl (Nat.le_of_ble_eq_true rfl) (fun r29 h29 q29 => ?_)
    obtain ⟨rfl, rfl⟩ := q29
    show sk_S _ _ _ _ _ _ (.int _ :: _) _ _
    refine sk_S.iret (dd DX8_odds 16 rfl) rfl rfl ?_
    exact Or.inl ⟨fun q => c4 ((inN_le (by decide)).mpr q.1), rfl, rfl⟩
  · refine sk_S.iload_n (i := 2) (dd DX8_odds 3 rfl) rfl rfl ?_
    refine sk_S.iconst (v := 0) (dd DX8_odds 4 rfl) (by decide) ?_
    refine sk_S.bipush (v := 99) (dd DX8_odds 5 rfl) (by decide) ?_
    refine sk_S.callS (dd DX8_odds 6 rfl) rfl kX8_47 cM_in rfl rfl rfl (Nat.le_of_ble_eq_true rfl) (fun r11 h11 q11 => ?_)
    obtain ⟨rfl, rfl⟩ := q11
    show sk_S _ _ _ _ _ _ (.int _ :: _) _ _
    refine sk_S.bif_eq (tgt := 26) (dd DX8_odds 7 rfl) (by decide) (fun c14 => ?_) (fun c14 => ?_)
    · refine sk_S.aload_n (i := 0) (dd DX8_odds 13 rfl) rfl rfl ?_
      refine sk_S.ldc (dd DX8_odds 14 rfl) rfl cnX8_73 ?_
      refine sk_S.callV (dd DX8_odds 15 rfl) rfl kX8_74 (cM_error (k := 1) ⟨by decide, by decide, by decide⟩) se_54 (by decide) rfl rfl rfl rfl (Nat.le_of_ble_eq_true rfl) (fun r29 h29 q29 => ?_)
      obtain ⟨rfl, rfl⟩ := q29
      show sk_S _ _ _ _ _ _ (.int _ :: _) _ _
      refine sk_S.iret (dd DX8_odds 16 rfl) rfl rfl ?_
      exact Or.inl ⟨fun q => c14 ((inN_le (by decide)).mpr q.2.1), rfl, rfl⟩
    · refine sk_S.iload_n (i := 3) (dd DX8_odds 8 rfl) rfl rfl ?_
      refine sk_S.iconst (v := 0) (dd DX8_odds 9 rfl) (by decide) ?_
      refine sk_S.iconst (v := 1) (dd DX8_odds 10 rfl) (by decide) ?_
      refine sk_S.callS (dd DX8_odds 11 rfl) rfl kX8_47 cM_in rfl rfl rfl (Nat.le_of_ble_eq_true rfl) (fun r20 h20 q20 => ?_)
      obtain ⟨rfl, rfl⟩ := q20
      show sk_S _ _ _ _ _ _ (.int _ :: _) _ _
      refine sk_S.bif_ne (tgt := 33) (dd DX8_odds 12 rfl) (by decide) (fun c23 => ?_) (fun c23 => ?_)
      · refine sk_S.aload_n (i := 0) (dd DX8_odds 17 rfl) rfl rfl ?_
        refine sk_S.iload_n (i := 1) (dd DX8_odds 18 rfl) rfl rfl ?_
        refine sk_S.iload_n (i := 2) (dd DX8_odds 19 rfl) rfl rfl ?_
        refine sk_S.callV (dd DX8_odds 20 rfl) rfl kX8_184 (cM_enough rfl hb hI) se_54 (by decide) rfl rfl rfl rfl (Nat.le_of_ble_eq_true rfl) (fun r36 h36 q36 => ?_)
        obtain ⟨ho, rfl⟩ := q36
        have hc := cntN_le (enP (h 55) f n) 10
        show sk_S _ _ _ _ _ _ (.int _ :: _) _ _
        refine sk_S.bipush (v := 10) (dd DX8_odds 21 rfl) (by decide) ?_
        refine sk_S.iload_n (i := 3) (dd DX8_odds 22 rfl) rfl rfl ?_
        refine sk_S.callS (dd DX8_odds 23 rfl) rfl kX8_197 (cM_partOf (B := 10) (by omega) (by decide) (by decide)) rfl rfl rfl (Nat.le_of_ble_eq_true rfl) (fun r42 h42 q42 => ?_)
        obtain ⟨rfl, rfl⟩ := q42
        show sk_S _ _ _ _ _ _ (.int _ :: _) _ _
        refine sk_S.iret (dd DX8_odds 24 rfl) rfl rfl ?_
        exact Or.inr ⟨(inN_le (by decide)).mp c4, (inN_le (by decide)).mp c14, (inN_le (by decide)).mp c23, ho, rfl⟩
      · refine sk_S.aload_n (i := 0) (dd DX8_odds 13 rfl) rfl rfl ?_
        refine sk_S.ldc (dd DX8_odds 14 rfl) rfl cnX8_73 ?_
        refine sk_S.callV (dd DX8_odds 15 rfl) rfl kX8_74 (cM_error (k := 1) ⟨by decide, by decide, by decide⟩) se_54 (by decide) rfl rfl rfl rfl (Nat.le_of_ble_eq_true rfl) (fun r29 h29 q29 => ?_)
        obtain ⟨rfl, rfl⟩ := q29
        show sk_S _ _ _ _ _ _ (.int _ :: _) _ _
        refine sk_S.iret (dd DX8_odds 16 rfl) rfl rfl ?_
        exact Or.inl ⟨fun q => c23 ((inN_le (by decide)).mpr q.2.2), rfl, rfl⟩
end M8
