section C10
set_option maxRecDepth 100000 in
set_option maxHeartbeats 1000000 in
theorem rd_den {l : Launch} {E : sk_V} {h : sk_M} {ρ : Nat → Int32} {tp u n : Nat} (C : rdC h ρ tp u) (hT : rdT l E h ρ tp u n) {d op p : Nat} {o : psO} {g : sk_M} (hop : op ≤ 5) (hp : p ≤ tp) (hnd : ndD op 5 ≤ n) (hI : rdI h g p o) (hlt : o.length < p) : sk_K l E (3 * n + d + 7) MX3_readDenied [.ref 3, .int (nI op)] g (fun r h1 => rdR h h1 tp (if (pP (tkT ρ tp) u n 5 op p o).1 = true then (true, (pP (tkT ρ tp) u n 5 op p o).2.1, (pP (tkT ρ tp) u n 5 op p o).2.2 ++ [((3 : Int32), (0 : Int32))]) else (pP (tkT ρ tp) u n 5 op p o)) ∧ some (.int (bi ((if (pP (tkT ρ tp) u n 5 op p o).1 = true then (true, (pP (tkT ρ tp) u n 5 op p o).2.1, (pP (tkT ρ tp) u n 5 op p o).2.2 ++ [((3 : Int32), (0 : Int32))]) else (pP (tkT ρ tp) u n 5 op p o)).1 = true))) = r) := by
  refine sk_K.of (by decide +kernel) (Nat.le_of_ble_eq_true rfl) ?_
  show sk_S l E (3 * n + d + 7) _ 0 [some (.ref 3), some (.int (nI op))] [] g _
  refine sk_S.aload_n (i := 0) (dd DX3_readDenied 0 rfl) rfl rfl ?_
  refine sk_S.iload_n (i := 1) (dd DX3_readDenied 1 rfl) rfl rfl ?_
  refine sk_S.callV (dd DX3_readDenied 2 rfl) rfl kX3_51 (hT (d + 1) op p o g hop hp hnd hI) se_3 (by decide) rfl rfl rfl rfl (Nat.le_of_ble_eq_true rfl) (fun r2 h2 q2 => ?_)
  obtain ⟨y, rfl⟩ := q2
  show sk_S _ _ _ _ _ _ (.int _ :: _) _ _
  refine sk_S.bif_ne (tgt := 10) (dd DX3_readDenied 3 rfl) (by decide) (fun c5 => ?_) (fun c5 => ?_)
  · refine sk_S.aload_n (i := 0) (dd DX3_readDenied 6 rfl) rfl rfl ?_
    refine sk_S.bipush (v := -33) (dd DX3_readDenied 7 rfl) (by decide) ?_
    refine sk_S.callV (dd DX3_readDenied 8 rfl) rfl kX3_63 (cR_write (y.ok c5).2.1 (by have := pP_len n 5 op p o c5; have := y.1; have := C.2.2.2.1; omega)) se_3 (by decide) rfl rfl rfl rfl (Nat.le_of_ble_eq_true rfl) (fun r13 h13 q13 => ?_)
    obtain ⟨rfl, rfl⟩ := q13
    show sk_S _ _ _ _ 16 _ _ _ _
    refine sk_S.iconst (v := 1) (dd DX3_readDenied 9 rfl) (by decide) ?_
    refine sk_S.iret (dd DX3_readDenied 10 rfl) rfl rfl ?_
    have e : (if (pP (tkT ρ tp) u n 5 op p o).1 = true then (true, (pP (tkT ρ tp) u n 5 op p o).2.1, (pP (tkT ρ tp) u n 5 op p o).2.2 ++ [((3 : Int32), (0 : Int32))]) else (pP (tkT ρ tp) u n 5 op p o)) = (true, (pP (tkT ρ tp) u n 5 op p o).2.1, (pP (tkT ρ tp) u n 5 op p o).2.2 ++ [((3 : Int32), (0 : Int32))]) := if_pos c5
    have hlen := pP_len n 5 op p o c5
    obtain ⟨z1, z2⟩ := rdR.t e y.1 ((y.ok c5).lay (v := -33) rfl (by omega))
    exact ⟨z1, bi_r z2⟩
  · refine sk_S.iconst (v := 0) (dd DX3_readDenied 4 rfl) (by decide) ?_
    refine sk_S.iret (dd DX3_readDenied 5 rfl) rfl rfl ?_
    have e : (if (pP (tkT ρ tp) u n 5 op p o).1 = true then (true, (pP (tkT ρ tp) u n 5 op p o).2.1, (pP (tkT ρ tp) u n 5 op p o).2.2 ++ [((3 : Int32), (0 : Int32))]) else (pP (tkT ρ tp) u n 5 op p o)) = (pP (tkT ρ tp) u n 5 op p o) := if_neg c5
    rw [e]
    exact ⟨y, by rw [bi_f c5]⟩
set_option maxRecDepth 100000 in
set_option maxHeartbeats 1000000 in
theorem rd_brk {l : Launch} {E : sk_V} {h : sk_M} {ρ : Nat → Int32} {tp u n : Nat} (C : rdC h ρ tp u) (hL : rdL l E h ρ tp u n 0) {d op p : Nat} {o : psO} {g : sk_M} (hop : op ≤ 5) (hp : p ≤ tp) (hnd : ndD op 0 ≤ n) (hI : rdI h g p o) : sk_K l E (3 * n + d + 7) MX3_readBracketed [.ref 3, .int (nI op)] g (fun r h1 => rdR h h1 tp (if (pP (tkT ρ tp) u n 0 op p o).1 = true then (if (tkT ρ tp) (pP (tkT ρ tp) u n 0 op p o).2.1 = 41 then (true, (pP (tkT ρ tp) u n 0 op p o).2.1 + 1, (pP (tkT ρ tp) u n 0 op p o).2.2) else (false, (pP (tkT ρ tp) u n 0 op p o).2.1, o)) else (pP (tkT ρ tp) u n 0 op p o)) ∧ some (.int (bi ((if (pP (tkT ρ tp) u n 0 op p o).1 = true then (if (tkT ρ tp) (pP (tkT ρ tp) u n 0 op p o).2.1 = 41 then (true, (pP (tkT ρ tp) u n 0 op p o).2.1 + 1, (pP (tkT ρ tp) u n 0 op p o).2.2) else (false, (pP (tkT ρ tp) u n 0 op p o).2.1, o)) else (pP (tkT ρ tp) u n 0 op p o)).1 = true))) = r) := by
  refine sk_K.of (by decide +kernel) (Nat.le_of_ble_eq_true rfl) ?_
  show sk_S l E (3 * n + d + 7) _ 0 [some (.ref 3), some (.int (nI op))] [] g _
  refine sk_S.aload_n (i := 0) (dd DX3_readBracketed 0 rfl) rfl rfl ?_
  refine sk_S.iconst (v := 0) (dd DX3_readBracketed 1 rfl) (by decide) ?_
  refine sk_S.iload_n (i := 1) (dd DX3_readBracketed 2 rfl) rfl rfl ?_
  refine sk_S.callV (dd DX3_readBracketed 3 rfl) rfl kX3_47 (hL d op p o g hop hp hnd hI) se_3 (by decide) rfl rfl rfl rfl (Nat.le_of_ble_eq_true rfl) (fun r3 h3 q3 => ?_)
  obtain ⟨y, rfl⟩ := q3
  have hy1 := y.1
  have ht60 := C.2.2.2.1
  show sk_S _ _ _ _ _ _ (.int _ :: _) _ _
  refine sk_S.bif_eq (tgt := 18) (dd DX3_readBracketed 4 rfl) (by decide) (fun c6 => ?_) (fun c6 => ?_)
  · refine sk_S.iconst (v := 0) (dd DX3_readBracketed 9 rfl) (by decide) ?_
    refine sk_S.iret (dd DX3_readBracketed 10 rfl) rfl rfl ?_
    have e : (if (pP (tkT ρ tp) u n 0 op p o).1 = true then (if (tkT ρ tp) (pP (tkT ρ tp) u n 0 op p o).2.1 = 41 then (true, (pP (tkT ρ tp) u n 0 op p o).2.1 + 1, (pP (tkT ρ tp) u n 0 op p o).2.2) else (false, (pP (tkT ρ tp) u n 0 op p o).2.1, o)) else (pP (tkT ρ tp) u n 0 op p o)) = (pP (tkT ρ tp) u n 0 op p o) := if_neg c6
    rw [e]
    exact ⟨y, by rw [bi_f c6]⟩
  · refine sk_S.aload_n (i := 0) (dd DX3_readBracketed 5 rfl) rfl rfl ?_
    refine sk_S.callV (dd DX3_readBracketed 6 rfl) rfl kX3_55 (cR_next (C.up y.B) y.B.2.2 (by omega)) se_3 (by decide) rfl rfl rfl rfl (Nat.le_of_ble_eq_true rfl) (fun r10 h10 q10 => ?_)
    obtain ⟨rfl, rfl⟩ := q10
    show sk_S _ _ _ _ _ _ (.int _ :: _) _ _
    refine sk_S.bipush (v := 41) (dd DX3_readBracketed 7 rfl) (by decide) ?_
    refine sk_S.icmp_eq (tgt := 20) (dd DX3_readBracketed 8 rfl) (by decide) (fun c15 => ?_) (fun c15 => ?_)
    · refine sk_S.aload_n (i := 0) (dd DX3_readBracketed 11 rfl) rfl rfl ?_
      refine sk_S.dup (dd DX3_readBracketed 12 rfl) rfl ?_
      refine sk_S.geti (dd DX3_readBracketed 13 rfl) rfl fX3_41 se_3 (by decide) rfl ?_
      refine sk_S.iconst (v := 1) (dd DX3_readBracketed 14 rfl) (by decide) ?_
      refine sk_S.iadd (dd DX3_readBracketed 15 rfl) ?_
      refine sk_S.putf (dd DX3_readBracketed 16 rfl) rfl pX3_41 se_3 (by decide) rfl rfl rfl ?_
      refine sk_S.iconst (v := 1) (dd DX3_readBracketed 17 rfl) (by decide) ?_
      refine sk_S.iret (dd DX3_readBracketed 18 rfl) rfl rfl ?_
      have e : (if (pP (tkT ρ tp) u n 0 op p o).1 = true then (if (tkT ρ tp) (pP (tkT ρ tp) u n 0 op p o).2.1 = 41 then (true, (pP (tkT ρ tp) u n 0 op p o).2.1 + 1, (pP (tkT ρ tp) u n 0 op p o).2.2) else (false, (pP (tkT ρ tp) u n 0 op p o).2.1, o)) else (pP (tkT ρ tp) u n 0 op p o)) = (true, (pP (tkT ρ tp) u n 0 op p o).2.1 + 1, (pP (tkT ρ tp) u n 0 op p o).2.2) := by rw [if_pos c6, if_pos c15]
      have hlt : (pP (tkT ρ tp) u n 0 op p o).2.1 < tp := by
        apply Decidable.byContradiction
        intro q
        rw [tk_no (g := ρ) (tp := tp) (p := (pP (tkT ρ tp) u n 0 op p o).2.1) (by omega)] at c15
        exact absurd c15 (by decide)
      obtain ⟨z1, z2⟩ := rdR.t e (show (pP (tkT ρ tp) u n 0 op p o).2.1 + 1 ≤ tp by omega) (y.ok c6).step
      exact ⟨z1, bi_r z2⟩
    · refine sk_S.iconst (v := 0) (dd DX3_readBracketed 9 rfl) (by decide) ?_
      refine sk_S.iret (dd DX3_readBracketed 10 rfl) rfl rfl ?_
      have e : (if (pP (tkT ρ tp) u n 0 op p o).1 = true then (if (tkT ρ tp) (pP (tkT ρ tp) u n 0 op p o).2.1 = 41 then (true, (pP (tkT ρ tp) u n 0 op p o).2.1 + 1, (pP (tkT ρ tp) u n 0 op p o).2.2) else (false, (pP (tkT ρ tp) u n 0 op p o).2.1, o)) else (pP (tkT ρ tp) u n 0 op p o)) = (false, (pP (tkT ρ tp) u n 0 op p o).2.1, o) := by rw [if_pos c6, if_neg c15]
      obtain ⟨z1, z2⟩ := rdR.f e y.1 y.B
      exact ⟨z1, bi_r z2⟩
set_option maxRecDepth 100000 in
set_option maxHeartbeats 1000000 in
theorem rd_item {l : Launch} {E : sk_V} {h : sk_M} {ρ : Nat → Int32} {tp u n : Nat} (C : rdC h ρ tp u) (hT : rdT l E h ρ tp u n) (hL : rdL l E h ρ tp u n 0) : rdT l E h ρ tp u (n + 1) := by
  intro d op p o g hop hp hnd hI
  have ht60 := C.2.2.2.1
  have hlo := hI.2.2.1
  rw [show 3 * (n + 1) + d + 5 = 3 * n + d + 8 from by omega]
  refine sk_K.of (by decide +kernel) (Nat.le_of_ble_eq_true rfl) ?_
  show sk_S l E (3 * n + d + 8) _ 0 [some (.ref 3), some (.int (nI op)), none, none] [] g _
  refine sk_S.aload_n (i := 0) (dd DX3_readItem 0 rfl) rfl rfl ?_
  refine sk_S.callV (dd DX3_readItem 1 rfl) rfl kX3_55 (cR_next (C.up hI.1) hI.1.2.2 (by omega)) se_3 (by decide) rfl rfl rfl rfl (Nat.le_of_ble_eq_true rfl) (fun r1 h1 q1 => ?_)
  obtain ⟨rfl, rfl⟩ := q1
  show sk_S _ _ _ _ _ _ (.int _ :: _) _ _
  refine sk_S.istore_n (i := 2) (dd DX3_readItem 2 rfl) rfl (Nat.le_of_ble_eq_true rfl) rfl ?_
  refine sk_S.iload_n (i := 2) (dd DX3_readItem 3 rfl) rfl rfl ?_
  refine sk_S.callS (dd DX3_readItem 4 rfl) rfl kX3_67 cR_isDigit rfl rfl rfl (Nat.le_of_ble_eq_true rfl) (fun r6 h6 q6 => ?_)
  obtain ⟨rfl, rfl⟩ := q6
  show sk_S _ _ _ _ _ _ (.int _ :: _) _ _
  refine sk_S.bif_eq (tgt := 22) (dd DX3_readItem 5 rfl) (by decide) (fun c9 => ?_) (fun c9 => ?_)
  · refine sk_S.aload_n (i := 0) (dd DX3_readItem 12 rfl) rfl rfl ?_
    refine sk_S.iload_n (i := 2) (dd DX3_readItem 13 rfl) rfl rfl ?_
    refine sk_S.callV (dd DX3_readItem 14 rfl) rfl kX3_73 (cR_nameOf (C.up hI.1).2.1 C.2.2.2.2) se_3 (by decide) rfl rfl rfl rfl (Nat.le_of_ble_eq_true rfl) (fun r24 h24 q24 => ?_)
    obtain ⟨rfl, rfl⟩ := q24
    show sk_S _ _ _ _ _ _ (.int _ :: _) _ _
    refine sk_S.istore_n (i := 3) (dd DX3_readItem 15 rfl) rfl (Nat.le_of_ble_eq_true rfl) rfl ?_
    refine sk_S.iload_n (i := 3) (dd DX3_readItem 16 rfl) rfl rfl ?_
    refine sk_S.if_ge (tgt := 49) (dd DX3_readItem 17 rfl) (by decide) (fun c29 => ?_) (fun c29 => ?_)
    · refine sk_S.iload_n (i := 1) (dd DX3_readItem 29 rfl) rfl rfl ?_
      refine sk_S.iconst (v := 5) (dd DX3_readItem 30 rfl) (by decide) ?_
      refine sk_S.icmp_ge (tgt := 66) (dd DX3_readItem 31 rfl) (by decide) (fun c51 => ?_) (fun c51 => ?_)
      · refine sk_S.iconst (v := 0) (dd DX3_readItem 38 rfl) (by decide) ?_
        refine sk_S.iret (dd DX3_readItem 39 rfl) rfl rfl ?_
        have hnm : ¬ 0 ≤ nmI u (tkT ρ tp p) := fun z => absurd (nmC_neg.mpr z) (Int32.not_lt.mpr c29)
        have e : (pP (tkT ρ tp) u (n + 1) 5 op p o) = (false, p, o) := by rw [pP_it, it_bad hnm c9 (Or.inl (show op = 5 from by have c := c51; rw [show (5 : Int32) = nI 5 from rfl, nI_leI (by decide) (by omega)] at c; omega))]
        obtain ⟨z1, z2⟩ := rdR.f e hp hI.1
        exact ⟨z1, bi_r z2⟩
      · refine sk_S.iload_n (i := 2) (dd DX3_readItem 32 rfl) rfl rfl ?_
        refine sk_S.bipush (v := 33) (dd DX3_readItem 33 rfl) (by decide) ?_
        refine sk_S.icmp_eq (tgt := 68) (dd DX3_readItem 34 rfl) (by decide) (fun c57 => ?_) (fun c57 => ?_)
        · have hlt : p < tp := tk_sg rfl (Or.inl c57)
          have h5b : op < 5 := by
            apply Decidable.byContradiction
            intro q
            exact c51 (nI_le (a := 5) (by omega) (by omega))
          refine sk_S.aload_n (i := 0) (dd DX3_readItem 40 rfl) rfl rfl ?_
          refine sk_S.dup (dd DX3_readItem 41 rfl) rfl ?_
          refine sk_S.geti (dd DX3_readItem 42 rfl) rfl fX3_41 se_3 (by decide) rfl ?_
          refine sk_S.iconst (v := 1) (dd DX3_readItem 43 rfl) (by decide) ?_
          refine sk_S.iadd (dd DX3_readItem 44 rfl) ?_
          refine sk_S.putf (dd DX3_readItem 45 rfl) rfl pX3_41 se_3 (by decide) rfl rfl rfl ?_
          refine sk_S.iload_n (i := 2) (dd DX3_readItem 46 rfl) rfl rfl ?_
          refine sk_S.bipush (v := 33) (dd DX3_readItem 47 rfl) (by decide) ?_
          refine sk_S.icmp_ne (tgt := 94) (dd DX3_readItem 48 rfl) (by decide) (fun c81 => ?_) (fun c81 => ?_)
          · refine sk_S.aload_n (i := 0) (dd DX3_readItem 55 rfl) rfl rfl ?_
            refine sk_S.iload_n (i := 1) (dd DX3_readItem 56 rfl) rfl rfl ?_
            refine sk_S.iconst (v := 1) (dd DX3_readItem 57 rfl) (by decide) ?_
            refine sk_S.iadd (dd DX3_readItem 58 rfl) ?_
            refine sk_S.V (nI (op + 1)) (nI_1 op) ?_
            refine sk_S.callV (dd DX3_readItem 59 rfl) rfl kX3_79 (rd_brk C hL (by omega) (by omega) (by unfold ndD at *; omega) hI.step) se_3 (by decide) rfl rfl rfl rfl (Nat.le_of_ble_eq_true rfl) (fun r98 h98 q98 => ?_)
            obtain ⟨y, rfl⟩ := q98
            show sk_S _ _ _ _ _ _ (.int _ :: _) _ _
            refine sk_S.iret (dd DX3_readItem 60 rfl) rfl bi_narrow ?_
            have h5 : ¬ op = 5 := fun z => c51 (by rw [z]; exact Int32.le_refl _)
            have h40 : tkT ρ tp p = 40 := absurd c57 c81
            by_cases q : ((pP (tkT ρ tp) u n 0 (op + 1)) (p + 1) o).1 = true
            · rw [if_pos q] at y
              have e := it_br (r5 := (pP (tkT ρ tp) u n 5 (op + 1))) (r0 := (pP (tkT ρ tp) u n 0 (op + 1))) (T := tkT ρ tp) (u := u) h40 h5 q
              rw [pP_it, e, if_pos q]
              exact ⟨y, rfl⟩
            · rw [if_neg q] at y
              have e : (pP (tkT ρ tp) u (n + 1) 5 op p o) = (pP (tkT ρ tp) u n 0 (op + 1)) (p + 1) o := by rw [pP_it, it_br0 h40 h5 (Bool.eq_false_iff.mpr q)]
              rw [e, if_neg q]
              exact ⟨y, rfl⟩
          · refine sk_S.aload_n (i := 0) (dd DX3_readItem 49 rfl) rfl rfl ?_
            refine sk_S.iload_n (i := 1) (dd DX3_readItem 50 rfl) rfl rfl ?_
            refine sk_S.iconst (v := 1) (dd DX3_readItem 51 rfl) (by decide) ?_
            refine sk_S.iadd (dd DX3_readItem 52 rfl) ?_
            refine sk_S.V (nI (op + 1)) (nI_1 op) ?_
            refine sk_S.callV (dd DX3_readItem 53 rfl) rfl kX3_76 (rd_den C hT (by omega) (by omega) (by unfold ndD at *; omega) hI.step (by omega)) se_3 (by decide) rfl rfl rfl rfl (Nat.le_of_ble_eq_true rfl) (fun r88 h88 q88 => ?_)
            obtain ⟨y, rfl⟩ := q88
            show sk_S _ _ _ _ _ _ (.int _ :: _) _ _
            refine sk_S.goto (tgt := 101) (dd DX3_readItem 54 rfl) (by decide) ?_
            refine sk_S.iret (dd DX3_readItem 60 rfl) rfl bi_narrow ?_
            have h5 : ¬ op = 5 := fun z => c51 (by rw [z]; exact Int32.le_refl _)
            have h33 : tkT ρ tp p = 33 := c81
            by_cases q : ((pP (tkT ρ tp) u n 5 (op + 1)) (p + 1) o).1 = true
            · rw [if_pos q] at y
              have e : (pP (tkT ρ tp) u (n + 1) 5 op p o) = (true, ((pP (tkT ρ tp) u n 5 (op + 1)) (p + 1) o).2.1, ((pP (tkT ρ tp) u n 5 (op + 1)) (p + 1) o).2.2 ++ [(3, 0)]) := by rw [pP_it, it_den h33 h5 q]
              rw [e, if_pos q]
              exact ⟨y, rfl⟩
            · rw [if_neg q] at y
              have e : (pP (tkT ρ tp) u (n + 1) 5 op p o) = (pP (tkT ρ tp) u n 5 (op + 1)) (p + 1) o := by rw [pP_it, it_den0 h33 h5 (Bool.eq_false_iff.mpr q)]
              rw [e, if_neg q]
              exact ⟨y, rfl⟩
        · refine sk_S.iload_n (i := 2) (dd DX3_readItem 35 rfl) rfl rfl ?_
          refine sk_S.bipush (v := 40) (dd DX3_readItem 36 rfl) (by decide) ?_
          refine sk_S.icmp_eq (tgt := 68) (dd DX3_readItem 37 rfl) (by decide) (fun c63 => ?_) (fun c63 => ?_)
          · have hlt : p < tp := tk_sg rfl (Or.inr c63)
            have h5b : op < 5 := by
              apply Decidable.byContradiction
              intro q
              exact c51 (nI_le (a := 5) (by omega) (by omega))
            refine sk_S.aload_n (i := 0) (dd DX3_readItem 40 rfl) rfl rfl ?_
            refine sk_S.dup (dd DX3_readItem 41 rfl) rfl ?_
            refine sk_S.geti (dd DX3_readItem 42 rfl) rfl fX3_41 se_3 (by decide) rfl ?_
            refine sk_S.iconst (v := 1) (dd DX3_readItem 43 rfl) (by decide) ?_
            refine sk_S.iadd (dd DX3_readItem 44 rfl) ?_
            refine sk_S.putf (dd DX3_readItem 45 rfl) rfl pX3_41 se_3 (by decide) rfl rfl rfl ?_
            refine sk_S.iload_n (i := 2) (dd DX3_readItem 46 rfl) rfl rfl ?_
            refine sk_S.bipush (v := 33) (dd DX3_readItem 47 rfl) (by decide) ?_
            refine sk_S.icmp_ne (tgt := 94) (dd DX3_readItem 48 rfl) (by decide) (fun c81 => ?_) (fun c81 => ?_)
            · refine sk_S.aload_n (i := 0) (dd DX3_readItem 55 rfl) rfl rfl ?_
              refine sk_S.iload_n (i := 1) (dd DX3_readItem 56 rfl) rfl rfl ?_
              refine sk_S.iconst (v := 1) (dd DX3_readItem 57 rfl) (by decide) ?_
              refine sk_S.iadd (dd DX3_readItem 58 rfl) ?_
              refine sk_S.V (nI (op + 1)) (nI_1 op) ?_
              refine sk_S.callV (dd DX3_readItem 59 rfl) rfl kX3_79 (rd_brk C hL (by omega) (by omega) (by unfold ndD at *; omega) hI.step) se_3 (by decide) rfl rfl rfl rfl (Nat.le_of_ble_eq_true rfl) (fun r98 h98 q98 => ?_)
              obtain ⟨y, rfl⟩ := q98
              show sk_S _ _ _ _ _ _ (.int _ :: _) _ _
              refine sk_S.iret (dd DX3_readItem 60 rfl) rfl bi_narrow ?_
              have h5 : ¬ op = 5 := fun z => c51 (by rw [z]; exact Int32.le_refl _)
              have h40 : tkT ρ tp p = 40 := c63
              by_cases q : ((pP (tkT ρ tp) u n 0 (op + 1)) (p + 1) o).1 = true
              · rw [if_pos q] at y
                have e := it_br (r5 := (pP (tkT ρ tp) u n 5 (op + 1))) (r0 := (pP (tkT ρ tp) u n 0 (op + 1))) (T := tkT ρ tp) (u := u) h40 h5 q
                rw [pP_it, e, if_pos q]
                exact ⟨y, rfl⟩
              · rw [if_neg q] at y
                have e : (pP (tkT ρ tp) u (n + 1) 5 op p o) = (pP (tkT ρ tp) u n 0 (op + 1)) (p + 1) o := by rw [pP_it, it_br0 h40 h5 (Bool.eq_false_iff.mpr q)]
                rw [e, if_neg q]
                exact ⟨y, rfl⟩
            · refine sk_S.aload_n (i := 0) (dd DX3_readItem 49 rfl) rfl rfl ?_
              refine sk_S.iload_n (i := 1) (dd DX3_readItem 50 rfl) rfl rfl ?_
              refine sk_S.iconst (v := 1) (dd DX3_readItem 51 rfl) (by decide) ?_
              refine sk_S.iadd (dd DX3_readItem 52 rfl) ?_
              refine sk_S.V (nI (op + 1)) (nI_1 op) ?_
              refine sk_S.callV (dd DX3_readItem 53 rfl) rfl kX3_76 (rd_den C hT (by omega) (by omega) (by unfold ndD at *; omega) hI.step (by omega)) se_3 (by decide) rfl rfl rfl rfl (Nat.le_of_ble_eq_true rfl) (fun r88 h88 q88 => ?_)
              obtain ⟨y, rfl⟩ := q88
              show sk_S _ _ _ _ _ _ (.int _ :: _) _ _
              refine sk_S.goto (tgt := 101) (dd DX3_readItem 54 rfl) (by decide) ?_
              refine sk_S.iret (dd DX3_readItem 60 rfl) rfl bi_narrow ?_
              have h5 : ¬ op = 5 := fun z => c51 (by rw [z]; exact Int32.le_refl _)
              have h33 : tkT ρ tp p = 33 := c81
              by_cases q : ((pP (tkT ρ tp) u n 5 (op + 1)) (p + 1) o).1 = true
              · rw [if_pos q] at y
                have e : (pP (tkT ρ tp) u (n + 1) 5 op p o) = (true, ((pP (tkT ρ tp) u n 5 (op + 1)) (p + 1) o).2.1, ((pP (tkT ρ tp) u n 5 (op + 1)) (p + 1) o).2.2 ++ [(3, 0)]) := by rw [pP_it, it_den h33 h5 q]
                rw [e, if_pos q]
                exact ⟨y, rfl⟩
              · rw [if_neg q] at y
                have e : (pP (tkT ρ tp) u (n + 1) 5 op p o) = (pP (tkT ρ tp) u n 5 (op + 1)) (p + 1) o := by rw [pP_it, it_den0 h33 h5 (Bool.eq_false_iff.mpr q)]
                rw [e, if_neg q]
                exact ⟨y, rfl⟩
          · refine sk_S.iconst (v := 0) (dd DX3_readItem 38 rfl) (by decide) ?_
            refine sk_S.iret (dd DX3_readItem 39 rfl) rfl rfl ?_
            have hnm : ¬ 0 ≤ nmI u (tkT ρ tp p) := fun z => absurd (nmC_neg.mpr z) (Int32.not_lt.mpr c29)
            have e : (pP (tkT ρ tp) u (n + 1) 5 op p o) = (false, p, o) := by rw [pP_it, it_bad hnm c9 (Or.inr ⟨c57, c63⟩)]
            obtain ⟨z1, z2⟩ := rdR.f e hp hI.1
            exact ⟨z1, bi_r z2⟩
    · refine sk_S.aload_n (i := 0) (dd DX3_readItem 18 rfl) rfl rfl ?_
      refine sk_S.dup (dd DX3_readItem 19 rfl) rfl ?_
      refine sk_S.geti (dd DX3_readItem 20 rfl) rfl fX3_41 se_3 (by decide) rfl ?_
      refine sk_S.iconst (v := 1) (dd DX3_readItem 21 rfl) (by decide) ?_
      refine sk_S.iadd (dd DX3_readItem 22 rfl) ?_
      refine sk_S.putf (dd DX3_readItem 23 rfl) rfl pX3_41 se_3 (by decide) rfl rfl rfl ?_
      refine sk_S.aload_n (i := 0) (dd DX3_readItem 24 rfl) rfl rfl ?_
      refine sk_S.iload_n (i := 3) (dd DX3_readItem 25 rfl) rfl rfl ?_
      refine sk_S.callV (dd DX3_readItem 26 rfl) rfl kX3_63 (cR_write hI.step.2.1 (by have := nm_lt (nmC_neg.mp (Int32.not_le.mp c29)); omega)) se_3 (by decide) rfl rfl rfl rfl (Nat.le_of_ble_eq_true rfl) (fun r44 h44 q44 => ?_)
      obtain ⟨rfl, rfl⟩ := q44
      show sk_S _ _ _ _ 47 _ _ _ _
      refine sk_S.iconst (v := 1) (dd DX3_readItem 27 rfl) (by decide) ?_
      refine sk_S.iret (dd DX3_readItem 28 rfl) rfl rfl ?_
      have hnm := nmC_neg.mp (Int32.not_le.mp c29)
      have e : (pP (tkT ρ tp) u (n + 1) 5 op p o) = (true, p + 1, o ++ [(2, nmI u (tkT ρ tp p))]) := by rw [pP_it, it_nm hnm]
      have hlt : p < tp := nm_lt hnm
      obtain ⟨z1, z2⟩ := rdR.t e (show p + 1 ≤ tp by omega) (hI.step.lay (v := nmC u (tkT ρ tp p)) (nmC_enc hnm) (by omega))
      exact ⟨z1, bi_r z2⟩
  · refine sk_S.aload_n (i := 0) (dd DX3_readItem 6 rfl) rfl rfl ?_
    refine sk_S.aload_n (i := 0) (dd DX3_readItem 7 rfl) rfl rfl ?_
    refine sk_S.callV (dd DX3_readItem 8 rfl) rfl kX3_70 (cR_number (C.up hI.1) hI.1.2.2 hp) se_3 (by decide) rfl rfl rfl rfl (Nat.le_of_ble_eq_true rfl) (fun r14 h14 q14 => ?_)
    obtain ⟨n1, n2, n3, rfl⟩ := q14
    have hdg := tk_dg c9
    have hge : p < (nuL (tkT ρ tp) 4 p 0).1 := by
      rw [nuL_1 c9]
      have := (nuL_ge (T := tkT ρ tp) 3 (p + 1) (10 * 0 + tkT ρ tp p - 48)).1
      omega
    have htp2 := nuL_tp (g := ρ) (tp := tp) 4 p 0 hp
    have hI2 : rdI h h14 (nuL (tkT ρ tp) 4 p 0).1 o := hI.mv n1 n2 n3 (by omega)
    show sk_S _ _ _ _ _ _ (.int _ :: _) _ _
    refine sk_S.callV (dd DX3_readItem 9 rfl) rfl kX3_63 (cR_write hI2.2.1 (by omega)) se_3 (by decide) rfl rfl rfl rfl (Nat.le_of_ble_eq_true rfl) (fun r17 h17 q17 => ?_)
    obtain ⟨rfl, rfl⟩ := q17
    show sk_S _ _ _ _ 20 _ _ _ _
    refine sk_S.iconst (v := 1) (dd DX3_readItem 10 rfl) (by decide) ?_
    refine sk_S.iret (dd DX3_readItem 11 rfl) rfl rfl ?_
    have e : (pP (tkT ρ tp) u (n + 1) 5 op p o) = (true, (nuL (tkT ρ tp) 4 p 0).1, o ++ [(1, (nuL (tkT ρ tp) 4 p 0).2)]) := by rw [pP_it, it_num c9]
    obtain ⟨z1, z2⟩ := rdR.t e htp2 (hI2.lay (v := (nuL (tkT ρ tp) 4 p 0).2) rfl (by omega))
    exact ⟨z1, bi_r z2⟩
set_option maxRecDepth 100000 in
set_option maxHeartbeats 1000000 in
theorem rd_lev5 {l : Launch} {E : sk_V} {h : sk_M} {ρ : Nat → Int32} {tp u n : Nat} (hT : rdT l E h ρ tp u n) : rdL l E h ρ tp u n 5 := by
  intro d op p o g hop hp hnd hI
  refine sk_K.of (by decide +kernel) (Nat.le_of_ble_eq_true rfl) ?_
  show sk_S l E (3 * n + d + 6) _ 0 [some (.ref 3), some (.int (nI 5)), some (.int (nI op)), none, none, none] [] g _
  refine sk_S.iload_n (i := 1) (dd DX3_readLevel 0 rfl) rfl rfl ?_
  refine sk_S.iconst (v := 5) (dd DX3_readLevel 1 rfl) (by decide) ?_
  refine sk_S.icmp_lt (tgt := 11) (dd DX3_readLevel 2 rfl) (by decide) (fun c2 => absurd c2 (by decide)) (fun c2 => ?_)
  refine sk_S.aload_n (i := 0) (dd DX3_readLevel 3 rfl) rfl rfl ?_
  refine sk_S.iload_n (i := 2) (dd DX3_readLevel 4 rfl) rfl rfl ?_
  refine sk_S.callV (dd DX3_readLevel 5 rfl) rfl kX3_51 (hT d op p o g hop hp hnd hI) se_3 (by decide) rfl rfl rfl rfl (Nat.le_of_ble_eq_true rfl) (fun r7 h7 q7 => ?_)
  obtain ⟨y, rfl⟩ := q7
  show sk_S _ _ _ _ _ _ (.int _ :: _) _ _
  refine sk_S.iret (dd DX3_readLevel 6 rfl) rfl bi_narrow ?_
  exact ⟨y, rfl⟩
set_option maxRecDepth 100000 in
set_option maxHeartbeats 1000000 in
theorem lq_lev {l : Launch} {E : sk_V} {h : sk_M} {ρ : Nat → Int32} {tp u n : Nat} (C : rdC h ρ tp u) {lev : Nat} (hL : rdL l E h ρ tp u n (lev + 1)) (hlev : lev < 5) {d op M : Nat} (hop : op ≤ 5) (hnd : ndD op (lev + 1) ≤ n) (hM60 : M ≤ 60) : ∀ (c t p : Nat) (o : psO) (g : sk_M) (x5 : Option Value), t + c = M → p ≤ tp → rdI h g p o → sk_S l E (3 * n + d + 9) MX3_readLevel 39 [some (.ref 3), some (.int (nI lev)), some (.int (nI op)), some (.int (nI M)), some (.int (nI t)), x5] [] g (fun r h1 => rdR h h1 tp (lpP (pP (tkT ρ tp) u n (lev + 1) op) (tkT ρ tp) lev c p o) ∧ some (.int (bi ((lpP (pP (tkT ρ tp) u n (lev + 1) op) (tkT ρ tp) lev c p o).1 = true))) = r)
  | 0, t, p, o, g, x5, ht, hp, hI => by
    have e : t = M := by omega
    subst e
    refine sk_S.iload (i := 4) (dd DX3_readLevel 25 rfl) rfl ?_
    refine sk_S.iload_n (i := 3) (dd DX3_readLevel 26 rfl) rfl rfl ?_
    refine sk_S.icmp_ge (tgt := 98) (dd DX3_readLevel 27 rfl) (by decide) (fun c42 => ?_) (fun c42 => absurd (Int32.le_refl _) c42)
    refine sk_S.iconst (v := 1) (dd DX3_readLevel 57 rfl) (by decide) ?_
    refine sk_S.iret (dd DX3_readLevel 58 rfl) rfl rfl ?_
    obtain ⟨z1, z2⟩ := rdR.t (x := lpP (pP (tkT ρ tp) u n (lev + 1) op) (tkT ρ tp) lev 0 p o) rfl hp hI
    exact ⟨z1, bi_r z2⟩
  | c + 1, t, p, o, g, x5, ht, hp, hI => by
    have ht60 := C.2.2.2.1
    have hlo := hI.2.2.1
    refine sk_S.iload (i := 4) (dd DX3_readLevel 25 rfl) rfl ?_
    refine sk_S.iload_n (i := 3) (dd DX3_readLevel 26 rfl) rfl rfl ?_
    refine sk_S.icmp_ge (tgt := 98) (dd DX3_readLevel 27 rfl) (by decide) (fun c42 => absurd c42 (by exact nI_ge (by omega) (by omega))) (fun c42 => ?_)
    refine sk_S.aload_n (i := 0) (dd DX3_readLevel 28 rfl) rfl rfl ?_
    refine sk_S.callV (dd DX3_readLevel 29 rfl) rfl kX3_55 (cR_next (C.up hI.1) hI.1.2.2 (by omega)) se_3 (by decide) rfl rfl rfl rfl (Nat.le_of_ble_eq_true rfl) (fun r46 h46 q46 => ?_)
    obtain ⟨rfl, rfl⟩ := q46
    show sk_S _ _ _ _ _ _ (.int _ :: _) _ _
    refine sk_S.callS (dd DX3_readLevel 30 rfl) rfl kX3_59 cR_levelOf rfl rfl rfl (Nat.le_of_ble_eq_true rfl) (fun r49 h49 q49 => ?_)
    obtain ⟨rfl, rfl⟩ := q49
    show sk_S _ _ _ _ _ _ (.int _ :: _) _ _
    refine sk_S.iload_n (i := 1) (dd DX3_readLevel 31 rfl) rfl rfl ?_
    refine sk_S.icmp_ne (tgt := 98) (dd DX3_readLevel 32 rfl) (by decide) (fun c53 => ?_) (fun c53 => ?_)
    · refine sk_S.iconst (v := 1) (dd DX3_readLevel 57 rfl) (by decide) ?_
      refine sk_S.iret (dd DX3_readLevel 58 rfl) rfl rfl ?_
      have hne : ¬ lvP (tkT ρ tp p) = lev := fun z => c53 (by rw [z])
      obtain ⟨z1, z2⟩ := rdR.t (lp_out (f := (pP (tkT ρ tp) u n (lev + 1) op)) (c := c + 1) (o := o) hne) hp hI
      exact ⟨z1, bi_r z2⟩
    · have hlv : lvP (tkT ρ tp p) = lev := nI_inj (by have := lvP_le (b := tkT ρ tp p); omega) (by omega) c53
      have hlt : p < tp := tk_lt (g := ρ) (by rw [hlv]; exact hlev)
      refine sk_S.aload_n (i := 0) (dd DX3_readLevel 33 rfl) rfl rfl ?_
      refine sk_S.callV (dd DX3_readLevel 34 rfl) rfl kX3_55 (cR_next (C.up hI.1) hI.1.2.2 (by omega)) se_3 (by decide) rfl rfl rfl rfl (Nat.le_of_ble_eq_true rfl) (fun r57 h57 q57 => ?_)
      obtain ⟨rfl, rfl⟩ := q57
      show sk_S _ _ _ _ _ _ (.int _ :: _) _ _
      refine sk_S.istore (i := 5) (dd DX3_readLevel 35 rfl) (Nat.le_of_ble_eq_true rfl) rfl ?_
      refine sk_S.aload_n (i := 0) (dd DX3_readLevel 36 rfl) rfl rfl ?_
      refine sk_S.dup (dd DX3_readLevel 37 rfl) rfl ?_
      refine sk_S.geti (dd DX3_readLevel 38 rfl) rfl fX3_41 se_3 (by decide) rfl ?_
      refine sk_S.iconst (v := 1) (dd DX3_readLevel 39 rfl) (by decide) ?_
      refine sk_S.iadd (dd DX3_readLevel 40 rfl) ?_
      refine sk_S.putf (dd DX3_readLevel 41 rfl) rfl pX3_41 se_3 (by decide) rfl rfl rfl ?_
      refine sk_S.aload_n (i := 0) (dd DX3_readLevel 42 rfl) rfl rfl ?_
      refine sk_S.iload_n (i := 1) (dd DX3_readLevel 43 rfl) rfl rfl ?_
      refine sk_S.iconst (v := 1) (dd DX3_readLevel 44 rfl) (by decide) ?_
      refine sk_S.iadd (dd DX3_readLevel 45 rfl) ?_
      refine sk_S.V (nI (lev + 1)) (nI_1 lev) ?_
      refine sk_S.iload_n (i := 2) (dd DX3_readLevel 46 rfl) rfl rfl ?_
      refine sk_S.callV (dd DX3_readLevel 47 rfl) rfl kX3_47 (hL (d + 2) op (p + 1) o _ hop (by omega) hnd hI.step) se_3 (by decide) rfl rfl rfl rfl (Nat.le_of_ble_eq_true rfl) (fun r77 h77 q77 => ?_)
      obtain ⟨y, rfl⟩ := q77
      show sk_S _ _ _ _ _ _ (.int _ :: _) _ _
      refine sk_S.bif_ne (tgt := 85) (dd DX3_readLevel 48 rfl) (by decide) (fun c80 => ?_) (fun c80 => ?_)
      · have hlen := pP_len n (lev + 1) op (p + 1) o c80
        have hy1 := y.1
        refine sk_S.aload_n (i := 0) (dd DX3_readLevel 51 rfl) rfl rfl ?_
        refine sk_S.iload (i := 5) (dd DX3_readLevel 52 rfl) rfl ?_
        refine sk_S.ineg (dd DX3_readLevel 53 rfl) ?_
        refine sk_S.callV (dd DX3_readLevel 54 rfl) rfl kX3_63 (cR_write (y.ok c80).2.1 (by omega)) se_3 (by decide) rfl rfl rfl rfl (Nat.le_of_ble_eq_true rfl) (fun r89 h89 q89 => ?_)
        obtain ⟨rfl, rfl⟩ := q89
        show sk_S _ _ _ _ 92 _ _ _ _
        refine sk_S.iinc (i := 4) (v := _ + 1) (dd DX3_readLevel 55 rfl) rfl rfl rfl ?_
        refine sk_S.goto (tgt := 39) (dd DX3_readLevel 56 rfl) (by decide) ?_
        rw [lp_yes (f := (pP (tkT ρ tp) u n (lev + 1) op)) (c := c) (o := o) hlv c80]
        exact sk_S.L (lq_lev C hL hlev hop hnd hM60 c (t + 1) ((pP (tkT ρ tp) u n (lev + 1) op) (p + 1) o).2.1 (((pP (tkT ρ tp) u n (lev + 1) op) (p + 1) o).2.2 ++ [(tkT ρ tp p, 0)]) _ _ (by omega) hy1 ((y.ok c80).lay (enc_sg (by rw [hlv]; exact hlev)).symm (by omega))) (by rw [nI_succ]; rfl)
      · refine sk_S.iconst (v := 0) (dd DX3_readLevel 49 rfl) (by decide) ?_
        refine sk_S.iret (dd DX3_readLevel 50 rfl) rfl rfl ?_
        have e := lp_no (f := (pP (tkT ρ tp) u n (lev + 1) op)) (c := c) (o := o) hlv (Bool.eq_false_iff.mpr c80)
        rw [e]
        exact ⟨y, by rw [bi_f c80]⟩
set_option maxRecDepth 100000 in
set_option maxHeartbeats 1000000 in
theorem rd_lev {l : Launch} {E : sk_V} {h : sk_M} {ρ : Nat → Int32} {tp u n : Nat} (C : rdC h ρ tp u) {lev : Nat} (hL : rdL l E h ρ tp u n (lev + 1)) (hlev : lev < 5) : rdL l E h ρ tp u (n + 1) lev := by
  intro d op p o g hop hp hnd hI
  rw [show 3 * (n + 1) + d + 6 = 3 * n + d + 9 from by omega]
  refine sk_K.of (by decide +kernel) (Nat.le_of_ble_eq_true rfl) ?_
  show sk_S l E (3 * n + d + 9) _ 0 [some (.ref 3), some (.int (nI lev)), some (.int (nI op)), none, none, none] [] g _
  refine sk_S.iload_n (i := 1) (dd DX3_readLevel 0 rfl) rfl rfl ?_
  refine sk_S.iconst (v := 5) (dd DX3_readLevel 1 rfl) (by decide) ?_
  refine sk_S.icmp_lt (tgt := 11) (dd DX3_readLevel 2 rfl) (by decide) (fun c2 => ?_) (fun c2 => absurd (show nI lev < 5 from nI_lt (b := 5) hlev (by decide)) c2)
  refine sk_S.aload_n (i := 0) (dd DX3_readLevel 7 rfl) rfl rfl ?_
  refine sk_S.iload_n (i := 1) (dd DX3_readLevel 8 rfl) rfl rfl ?_
  refine sk_S.iconst (v := 1) (dd DX3_readLevel 9 rfl) (by decide) ?_
  refine sk_S.iadd (dd DX3_readLevel 10 rfl) ?_
  refine sk_S.V (nI (lev + 1)) (nI_1 lev) ?_
  refine sk_S.iload_n (i := 2) (dd DX3_readLevel 11 rfl) rfl rfl ?_
  refine sk_S.callV (dd DX3_readLevel 12 rfl) rfl kX3_47 (hL (d + 2) op p o g hop hp (by unfold ndD at *; omega) hI) se_3 (by decide) rfl rfl rfl rfl (Nat.le_of_ble_eq_true rfl) (fun r16 h16 q16 => ?_)
  obtain ⟨y, rfl⟩ := q16
  show sk_S _ _ _ _ _ _ (.int _ :: _) _ _
  refine sk_S.bif_ne (tgt := 24) (dd DX3_readLevel 13 rfl) (by decide) (fun c19 => ?_) (fun c19 => ?_)
  · refine sk_S.iload_n (i := 1) (dd DX3_readLevel 16 rfl) rfl rfl ?_
    refine sk_S.iconst (v := 2) (dd DX3_readLevel 17 rfl) (by decide) ?_
    refine sk_S.icmp_ne (tgt := 33) (dd DX3_readLevel 18 rfl) (by decide) (fun c26 => ?_) (fun c26 => ?_)
    · refine sk_S.bipush (v := 60) (dd DX3_readLevel 21 rfl) (by decide) ?_
      refine sk_S.istore_n (i := 3) (dd DX3_readLevel 22 rfl) rfl (Nat.le_of_ble_eq_true rfl) rfl ?_
      refine sk_S.iconst (v := 0) (dd DX3_readLevel 23 rfl) (by decide) ?_
      refine sk_S.istore (i := 4) (dd DX3_readLevel 24 rfl) (Nat.le_of_ble_eq_true rfl) rfl ?_
      have hM : (if lev = 2 then 1 else 60) = 60 := if_neg (fun z => c26 (by rw [z]; rfl))
      rw [pP_yes hlev c19, hM]
      exact lq_lev C hL hlev hop (by unfold ndD at *; omega) (by decide) 60 0 (pP (tkT ρ tp) u n (lev + 1) op p o).2.1 (pP (tkT ρ tp) u n (lev + 1) op p o).2.2 _ none (by decide) y.1 (y.ok c19)
    · refine sk_S.iconst (v := 1) (dd DX3_readLevel 19 rfl) (by decide) ?_
      refine sk_S.goto (tgt := 35) (dd DX3_readLevel 20 rfl) (by decide) ?_
      refine sk_S.istore_n (i := 3) (dd DX3_readLevel 22 rfl) rfl (Nat.le_of_ble_eq_true rfl) rfl ?_
      refine sk_S.iconst (v := 0) (dd DX3_readLevel 23 rfl) (by decide) ?_
      refine sk_S.istore (i := 4) (dd DX3_readLevel 24 rfl) (Nat.le_of_ble_eq_true rfl) rfl ?_
      have hM : (if lev = 2 then 1 else 60) = 1 := if_pos (nI_inj (by omega) (by decide) c26)
      rw [pP_yes hlev c19, hM]
      exact lq_lev C hL hlev hop (by unfold ndD at *; omega) (by decide) 1 0 (pP (tkT ρ tp) u n (lev + 1) op p o).2.1 (pP (tkT ρ tp) u n (lev + 1) op p o).2.2 _ none (by decide) y.1 (y.ok c19)
  · refine sk_S.iconst (v := 0) (dd DX3_readLevel 14 rfl) (by decide) ?_
    refine sk_S.iret (dd DX3_readLevel 15 rfl) rfl rfl ?_
    rw [pP_no hlev (Bool.eq_false_iff.mpr c19)]
    exact ⟨y, by rw [bi_f c19]⟩
theorem rd_all {l : Launch} {E : sk_V} {h : sk_M} {ρ : Nat → Int32} {tp u : Nat} (C : rdC h ρ tp u) : ∀ n, rdT l E h ρ tp u n ∧ ∀ lev, lev ≤ 5 → rdL l E h ρ tp u n lev
  | 0 => ⟨fun d op p o g hop hp hnd hI => by unfold ndD at hnd; omega, fun lev hl d op p o g hop hp hnd hI => by unfold ndD at hnd; omega⟩
  | n + 1 => by
    obtain ⟨ih1, ih2⟩ := rd_all (l := l) (E := E) C n
    have hT := rd_item C ih1 (ih2 0 (by decide))
    refine ⟨hT, fun lev hl => ?_⟩
    by_cases q : lev = 5
    · subst q
      exact rd_lev5 hT
    · exact rd_lev C (ih2 (lev + 1) (by omega)) (by omega)
end C10
