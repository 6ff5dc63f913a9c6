section M14
set_option maxRecDepth 100000 in
set_option maxHeartbeats 4000000 in
theorem cM_begins {l : Launch} {E : sk_V} {d : Nat} {h : sk_M} {b : Int32} {n : Nat} (hn : h 54 18 = nI n) (h30 : n < 30) : sk_K l E (d + 0) MX8_begins [.ref 54, .int b] h (fun r h1 => sk_o [54, 66] h h1 ∧ h1 54 = upd (h 54) 18 (nI (n + 1)) ∧ h1 66 = upd (h 66) n b ∧ none = r) := by
  refine sk_K.of (by decide +kernel) (Nat.le_of_ble_eq_true rfl) ?_
  show sk_S l E (d + 0) _ 0 [some (.ref 54), some (.int b)] [] h _
  refine sk_S.aload_n (i := 0) (dd DX8_begins 0 rfl) rfl rfl ?_
  refine sk_S.geti (dd DX8_begins 1 rfl) rfl fX8_206 se_54 (by decide) rfl ?_
  refine sk_S.bipush (v := 30) (dd DX8_begins 2 rfl) (by decide) ?_
  refine sk_S.icmp_ge (tgt := 29) (dd DX8_begins 3 rfl) (by decide) (fun c6 => absurd c6 (by rw [hn]; exact nI_ge (b := 30) h30 (by decide))) (fun c6 => ?_)
  refine sk_S.aload_n (i := 0) (dd DX8_begins 4 rfl) rfl rfl ?_
  refine sk_S.getr (dd DX8_begins 5 rfl) rfl fX8_43 se_54 (by decide) rfl ?_
  refine sk_S.aload_n (i := 0) (dd DX8_begins 6 rfl) rfl rfl ?_
  refine sk_S.geti (dd DX8_begins 7 rfl) rfl fX8_206 se_54 (by decide) rfl ?_
  refine sk_S.iload_n (i := 1) (dd DX8_begins 8 rfl) rfl rfl ?_
  refine sk_S.iast (dd DX8_begins 9 rfl) se_66 (sk_ix_nI (k := n) hn (by omega) (by decide)) ?_
  refine sk_S.aload_n (i := 0) (dd DX8_begins 10 rfl) rfl rfl ?_
  refine sk_S.dup (dd DX8_begins 11 rfl) rfl ?_
  refine sk_S.geti (dd DX8_begins 12 rfl) rfl fX8_206 se_54 (by decide) rfl ?_
  refine sk_S.iconst (v := 1) (dd DX8_begins 13 rfl) (by decide) ?_
  refine sk_S.iadd (dd DX8_begins 14 rfl) ?_
  refine sk_S.putf (dd DX8_begins 15 rfl) rfl pX8_206 se_54 (by decide) rfl rfl rfl ?_
  refine sk_S.vret (dd DX8_begins 16 rfl) rfl ?_
  refine ⟨((sk_o.rf (h := h)).u (by decide)).u (by decide), ?_, ?_, rfl⟩
  · rw [sk_u, sk_r_eq, nI_succ, ← hn]; rfl
  · rw [sk_u, sk_r_ne _ _ (by decide), sk_u, sk_r_eq]
set_option maxRecDepth 100000 in
set_option maxHeartbeats 4000000 in
theorem cM_plainCalls {l : Launch} {E : sk_V} {d : Nat} {h : sk_M} {n t : Nat} {x : Int32} (hn : h 54 18 = nI n) (h30 : n ≤ 22) : sk_K l E (d + 1) MX8_plainCalls [.ref 54, .int (nI t), .int x] h (fun r h1 => sk_o [54, 66] h h1 ∧ h1 54 = upd (h 54) 18 (nI (n + ([10]).length)) ∧ h1 66 = appT (h 66) n ([10]) ∧ some (.int (x + nI t)) = r) := by
  refine sk_K.of (by decide +kernel) (Nat.le_of_ble_eq_true rfl) ?_
  show sk_S l E (d + 1) _ 0 [some (.ref 54), some (.int (nI t)), some (.int x)] [] h _
  refine sk_S.aload_n (i := 0) (dd DX8_plainCalls 0 rfl) rfl rfl ?_
  refine sk_S.bipush (v := 10) (dd DX8_plainCalls 1 rfl) (by decide) ?_
  refine sk_S.callV (dd DX8_plainCalls 2 rfl) rfl kX8_209 (cM_begins hn (by omega)) se_54 (by decide) rfl rfl rfl rfl (Nat.le_of_ble_eq_true rfl) (fun r3 h3 q3 => ?_)
  obtain ⟨o1, a1, b1, rfl⟩ := q3
  have n1 : h3 54 18 = nI (n + 1) := by rw [a1, upd_eq]
  have e1 : h3 55 = h 55 := o1 55 (by decide)
  show sk_S _ _ _ _ 6 _ _ _ _
  refine sk_S.iload_n (i := 2) (dd DX8_plainCalls 3 rfl) rfl rfl ?_
  refine sk_S.iload_n (i := 1) (dd DX8_plainCalls 4 rfl) rfl rfl ?_
  refine sk_S.iadd (dd DX8_plainCalls 5 rfl) ?_
  refine sk_S.iret (dd DX8_plainCalls 6 rfl) rfl rfl ?_
  exact ⟨o1, a1, b1, rfl⟩
set_option maxRecDepth 100000 in
set_option maxHeartbeats 4000000 in
theorem cM_smackCalls {l : Launch} {E : sk_V} {d : Nat} {h : sk_M} {n t : Nat} {x : Int32} (hn : h 54 18 = nI n) (h30 : n ≤ 21) : sk_K l E (d + 2) MX8_smackCalls [.ref 54, .int (nI t), .int x] h (fun r h1 => sk_o [54, 66] h h1 ∧ h1 54 = upd (h 54) 18 (nI (n + ([20, 10]).length)) ∧ h1 66 = appT (h 66) n ([20, 10]) ∧ some (.int (x + nI t - 4)) = r) := by
  refine sk_K.of (by decide +kernel) (Nat.le_of_ble_eq_true rfl) ?_
  show sk_S l E (d + 2) _ 0 [some (.ref 54), some (.int (nI t)), some (.int x)] [] h _
  refine sk_S.aload_n (i := 0) (dd DX8_smackCalls 0 rfl) rfl rfl ?_
  refine sk_S.bipush (v := 20) (dd DX8_smackCalls 1 rfl) (by decide) ?_
  refine sk_S.callV (dd DX8_smackCalls 2 rfl) rfl kX8_209 (cM_begins hn (by omega)) se_54 (by decide) rfl rfl rfl rfl (Nat.le_of_ble_eq_true rfl) (fun r3 h3 q3 => ?_)
  obtain ⟨o1, a1, b1, rfl⟩ := q3
  have n1 : h3 54 18 = nI (n + 1) := by rw [a1, upd_eq]
  have e1 : h3 55 = h 55 := o1 55 (by decide)
  show sk_S _ _ _ _ 6 _ _ _ _
  refine sk_S.aload_n (i := 0) (dd DX8_smackCalls 3 rfl) rfl rfl ?_
  refine sk_S.iload_n (i := 1) (dd DX8_smackCalls 4 rfl) rfl rfl ?_
  refine sk_S.iload_n (i := 2) (dd DX8_smackCalls 5 rfl) rfl rfl ?_
  refine sk_S.callV (dd DX8_smackCalls 6 rfl) rfl kX8_212 (cM_plainCalls n1 (by omega)) se_54 (by decide) rfl rfl rfl rfl (Nat.le_of_ble_eq_true rfl) (fun r9 h9 q9 => ?_)
  obtain ⟨o2, a2, b2, rfl⟩ := q9
  show sk_S _ _ _ _ _ _ (.int _ :: _) _ _
  refine sk_S.iconst (v := 4) (dd DX8_smackCalls 7 rfl) (by decide) ?_
  refine sk_S.isub (dd DX8_smackCalls 8 rfl) ?_
  refine sk_S.iret (dd DX8_smackCalls 9 rfl) rfl rfl ?_
  refine ⟨o1.tr o2, ?_, ?_, ?_⟩
  · rw [a2, a1, upd_upd]
    first | done | rfl | (congr 2; simp only [List.length_cons]; omega)
  · rw [b2, b1]
    rfl
  · rfl
set_option maxRecDepth 100000 in
set_option maxHeartbeats 4000000 in
theorem cM_calls {l : Launch} {E : sk_V} {d : Nat} {h : sk_M} {ρ : Nat → Int32} {n t : Nat} {x : Int32} (ht : t < 6) (hρ : h 55 = ρ) (hn : h 54 18 = nI n) (h30 : n ≤ 20) : sk_K l E (d + 3) MX8_calls [.ref 54, .int (nI t), .int x] h (fun r h1 => sk_o [54, 66] h h1 ∧ h1 54 = upd (h 54) 18 (nI (n + (voCb (ρ (17 + 3 * t))).length)) ∧ h1 66 = appT (h 66) n (voCb (ρ (17 + 3 * t))) ∧ some (.int (voC (ρ (17 + 3 * t)) (nI t) x)) = r) := by
  refine sk_K.of (by decide +kernel) (Nat.le_of_ble_eq_true rfl) ?_
  show sk_S l E (d + 3) _ 0 [some (.ref 54), some (.int (nI t)), some (.int x)] [] h _
  refine sk_S.aload_n (i := 0) (dd DX8_calls 0 rfl) rfl rfl ?_
  refine sk_S.iload_n (i := 1) (dd DX8_calls 1 rfl) rfl rfl ?_
  refine sk_S.iconst (v := 0) (dd DX8_calls 2 rfl) (by decide) ?_
  refine sk_S.callV (dd DX8_calls 3 rfl) rfl kX8_51 (cM_of (j := t) (w := 0) (by omega)) se_54 (by decide) rfl rfl rfl rfl (Nat.le_of_ble_eq_true rfl) (fun r3 h3 q3 => ?_)
  obtain ⟨rfl, rfl⟩ := q3
  show sk_S _ _ _ _ _ _ (.int _ :: _) _ _
  refine sk_S.lookN (dd DX8_calls 4 rfl) (by decide) (by decide) (by decide) (fun i6 q6 w6 e6 => ?_) (fun e6 => ?_)
  · rcases i6 with _ | _ | _ | i6
    · obtain rfl : (1, 34) = q6 := Option.some.inj w6
      show sk_S _ _ _ _ 40 _ _ _ _
      replace e6 : _ = (1 : Int32) := e6
      refine sk_S.aload_n (i := 0) (dd DX8_calls 5 rfl) rfl rfl ?_
      refine sk_S.iload_n (i := 1) (dd DX8_calls 6 rfl) rfl rfl ?_
      refine sk_S.iload_n (i := 2) (dd DX8_calls 7 rfl) rfl rfl ?_
      refine sk_S.callV (dd DX8_calls 8 rfl) rfl kX8_215 (cM_smackCalls hn (by omega)) se_54 (by decide) rfl rfl rfl rfl (Nat.le_of_ble_eq_true rfl) (fun r43 h43 q43 => ?_)
      obtain ⟨o2, a2, b2, rfl⟩ := q43
      show sk_S _ _ _ _ _ _ (.int _ :: _) _ _
      refine sk_S.iret (dd DX8_calls 9 rfl) rfl rfl ?_
      have kq : ρ (17 + 3 * t) = 1 := by rw [← hρ]; exact e6
      unfold voC voCb
      rw [kq]
      exact ⟨o2, a2, b2, rfl⟩
    · obtain rfl : (4, 41) = q6 := Option.some.inj w6
      show sk_S _ _ _ _ 47 _ _ _ _
      replace e6 : _ = (4 : Int32) := e6
      refine sk_S.aload_n (i := 0) (dd DX8_calls 10 rfl) rfl rfl ?_
      refine sk_S.bipush (v := 50) (dd DX8_calls 11 rfl) (by decide) ?_
      refine sk_S.callV (dd DX8_calls 12 rfl) rfl kX8_209 (cM_begins hn (by omega)) se_54 (by decide) rfl rfl rfl rfl (Nat.le_of_ble_eq_true rfl) (fun r50 h50 q50 => ?_)
      obtain ⟨o1, a1, b1, rfl⟩ := q50
      have n1 : h50 54 18 = nI (n + 1) := by rw [a1, upd_eq]
      have e1 : h50 55 = h 55 := o1 55 (by decide)
      show sk_S _ _ _ _ 53 _ _ _ _
      refine sk_S.aload_n (i := 0) (dd DX8_calls 13 rfl) rfl rfl ?_
      refine sk_S.iload_n (i := 1) (dd DX8_calls 14 rfl) rfl rfl ?_
      refine sk_S.iload_n (i := 2) (dd DX8_calls 15 rfl) rfl rfl ?_
      refine sk_S.callV (dd DX8_calls 16 rfl) rfl kX8_215 (cM_smackCalls n1 (by omega)) se_54 (by decide) rfl rfl rfl rfl (Nat.le_of_ble_eq_true rfl) (fun r56 h56 q56 => ?_)
      obtain ⟨o2, a2, b2, rfl⟩ := q56
      show sk_S _ _ _ _ _ _ (.int _ :: _) _ _
      refine sk_S.iconst (v := 3) (dd DX8_calls 17 rfl) (by decide) ?_
      refine sk_S.imul (dd DX8_calls 18 rfl) ?_
      refine sk_S.iret (dd DX8_calls 19 rfl) rfl rfl ?_
      have kq : ρ (17 + 3 * t) = 4 := by rw [← hρ]; exact e6
      unfold voC voCb
      rw [kq]
      refine ⟨o1.tr o2, ?_, ?_, ?_⟩
      · rw [a2, a1, upd_upd]
        first | done | rfl | (congr 2; simp only [List.length_cons]; omega)
      · rw [b2, b1]
        rfl
      · rfl
    · obtain rfl : (6, 56) = q6 := Option.some.inj w6
      show sk_S _ _ _ _ 62 _ _ _ _
      replace e6 : _ = (6 : Int32) := e6
      refine sk_S.aload_n (i := 0) (dd DX8_calls 20 rfl) rfl rfl ?_
      refine sk_S.bipush (v := 70) (dd DX8_calls 21 rfl) (by decide) ?_
      refine sk_S.callV (dd DX8_calls 22 rfl) rfl kX8_209 (cM_begins hn (by omega)) se_54 (by decide) rfl rfl rfl rfl (Nat.le_of_ble_eq_true rfl) (fun r65 h65 q65 => ?_)
      obtain ⟨o1, a1, b1, rfl⟩ := q65
      have n1 : h65 54 18 = nI (n + 1) := by rw [a1, upd_eq]
      have e1 : h65 55 = h 55 := o1 55 (by decide)
      show sk_S _ _ _ _ 68 _ _ _ _
      refine sk_S.bipush (v := 9) (dd DX8_calls 23 rfl) (by decide) ?_
      refine sk_S.iret (dd DX8_calls 24 rfl) rfl rfl ?_
      have kq : ρ (17 + 3 * t) = 6 := by rw [← hρ]; exact e6
      unfold voC voCb
      rw [kq]
      exact ⟨o1, a1, b1, rfl⟩
    · exact absurd w6 (by simp)
  · show sk_S _ _ _ _ 71 _ _ _ _
    have e6_ := (⟨e6 (1, 34) (by simp), e6 (4, 41) (by simp), e6 (6, 56) (by simp)⟩ : ¬ _ = (1 : Int32) ∧ ¬ _ = (4 : Int32) ∧ ¬ _ = (6 : Int32))
    refine sk_S.aload_n (i := 0) (dd DX8_calls 25 rfl) rfl rfl ?_
    refine sk_S.iload_n (i := 1) (dd DX8_calls 26 rfl) rfl rfl ?_
    refine sk_S.iload_n (i := 2) (dd DX8_calls 27 rfl) rfl rfl ?_
    refine sk_S.callV (dd DX8_calls 28 rfl) rfl kX8_212 (cM_plainCalls hn (by omega)) se_54 (by decide) rfl rfl rfl rfl (Nat.le_of_ble_eq_true rfl) (fun r74 h74 q74 => ?_)
    obtain ⟨o2, a2, b2, rfl⟩ := q74
    show sk_S _ _ _ _ _ _ (.int _ :: _) _ _
    refine sk_S.iret (dd DX8_calls 29 rfl) rfl rfl ?_
    have k1 : ¬ ρ (17 + 3 * t) = 1 := fun q => e6_.1 (by rw [hρ]; exact q)
    have k4 : ¬ ρ (17 + 3 * t) = 4 := fun q => e6_.2.1 (by rw [hρ]; exact q)
    have k6 : ¬ ρ (17 + 3 * t) = 6 := fun q => e6_.2.2 (by rw [hρ]; exact q)
    unfold voC voCb
    rw [if_neg k1, if_neg k4, if_neg k6, if_neg k1, if_neg k4, if_neg k6]
    exact ⟨o2, a2, b2, rfl⟩
set_option maxRecDepth 100000 in
set_option maxHeartbeats 4000000 in
theorem cM_plainHauls {l : Launch} {E : sk_V} {d : Nat} {h : sk_M} {ρ : Nat → Int32} {n t : Nat} {x : Int32} (ht : t < 6) (hρ : h 55 = ρ) (hn : h 54 18 = nI n) (h30 : n ≤ 19) : sk_K l E (d + 4) MX8_plainHauls [.ref 54, .int (nI t), .int x] h (fun r h1 => sk_o [54, 66] h h1 ∧ h1 54 = upd (h 54) 18 (nI (n + (voPb (ρ (17 + 3 * t))).length)) ∧ h1 66 = appT (h 66) n (voPb (ρ (17 + 3 * t))) ∧ some (.int (voP (ρ (17 + 3 * t)) (nI t) x)) = r) := by
  refine sk_K.of (by decide +kernel) (Nat.le_of_ble_eq_true rfl) ?_
  show sk_S l E (d + 4) _ 0 [some (.ref 54), some (.int (nI t)), some (.int x)] [] h _
  refine sk_S.aload_n (i := 0) (dd DX8_plainHauls 0 rfl) rfl rfl ?_
  refine sk_S.bipush (v := 11) (dd DX8_plainHauls 1 rfl) (by decide) ?_
  refine sk_S.callV (dd DX8_plainHauls 2 rfl) rfl kX8_209 (cM_begins hn (by omega)) se_54 (by decide) rfl rfl rfl rfl (Nat.le_of_ble_eq_true rfl) (fun r3 h3 q3 => ?_)
  obtain ⟨o1, a1, b1, rfl⟩ := q3
  have n1 : h3 54 18 = nI (n + 1) := by rw [a1, upd_eq]
  have e1 : h3 55 = h 55 := o1 55 (by decide)
  show sk_S _ _ _ _ 6 _ _ _ _
  refine sk_S.aload_n (i := 0) (dd DX8_plainHauls 3 rfl) rfl rfl ?_
  refine sk_S.iload_n (i := 1) (dd DX8_plainHauls 4 rfl) rfl rfl ?_
  refine sk_S.iload_n (i := 2) (dd DX8_plainHauls 5 rfl) rfl rfl ?_
  refine sk_S.callV (dd DX8_plainHauls 6 rfl) rfl kX8_218 (cM_calls ht (e1.trans hρ) n1 (by omega)) se_54 (by decide) rfl rfl rfl rfl (Nat.le_of_ble_eq_true rfl) (fun r9 h9 q9 => ?_)
  obtain ⟨o2, a2, b2, rfl⟩ := q9
  show sk_S _ _ _ _ _ _ (.int _ :: _) _ _
  refine sk_S.iconst (v := 2) (dd DX8_plainHauls 7 rfl) (by decide) ?_
  refine sk_S.imul (dd DX8_plainHauls 8 rfl) ?_
  refine sk_S.iret (dd DX8_plainHauls 9 rfl) rfl rfl ?_
  refine ⟨o1.tr o2, ?_, ?_, ?_⟩
  · rw [a2, a1, upd_upd]
    first | done | rfl | (congr 2; simp only [voPb, List.length_cons]; omega)
  · rw [b2, b1]
    rfl
  · rfl
set_option maxRecDepth 100000 in
set_option maxHeartbeats 4000000 in
theorem cM_skiffHauls {l : Launch} {E : sk_V} {d : Nat} {h : sk_M} {ρ : Nat → Int32} {n t : Nat} {x : Int32} (ht : t < 6) (hρ : h 55 = ρ) (hn : h 54 18 = nI n) (h30 : n ≤ 18) : sk_K l E (d + 5) MX8_skiffHauls [.ref 54, .int (nI t), .int x] h (fun r h1 => sk_o [54, 66] h h1 ∧ h1 54 = upd (h 54) 18 (nI (n + (30 :: voPb (ρ (17 + 3 * t))).length)) ∧ h1 66 = appT (h 66) n (30 :: voPb (ρ (17 + 3 * t))) ∧ some (.int (-(voP (ρ (17 + 3 * t)) (nI t) x))) = r) := by
  refine sk_K.of (by decide +kernel) (Nat.le_of_ble_eq_true rfl) ?_
  show sk_S l E (d + 5) _ 0 [some (.ref 54), some (.int (nI t)), some (.int x)] [] h _
  refine sk_S.aload_n (i := 0) (dd DX8_skiffHauls 0 rfl) rfl rfl ?_
  refine sk_S.bipush (v := 30) (dd DX8_skiffHauls 1 rfl) (by decide) ?_
  refine sk_S.callV (dd DX8_skiffHauls 2 rfl) rfl kX8_209 (cM_begins hn (by omega)) se_54 (by decide) rfl rfl rfl rfl (Nat.le_of_ble_eq_true rfl) (fun r3 h3 q3 => ?_)
  obtain ⟨o1, a1, b1, rfl⟩ := q3
  have n1 : h3 54 18 = nI (n + 1) := by rw [a1, upd_eq]
  have e1 : h3 55 = h 55 := o1 55 (by decide)
  show sk_S _ _ _ _ 6 _ _ _ _
  refine sk_S.aload_n (i := 0) (dd DX8_skiffHauls 3 rfl) rfl rfl ?_
  refine sk_S.iload_n (i := 1) (dd DX8_skiffHauls 4 rfl) rfl rfl ?_
  refine sk_S.iload_n (i := 2) (dd DX8_skiffHauls 5 rfl) rfl rfl ?_
  refine sk_S.callV (dd DX8_skiffHauls 6 rfl) rfl kX8_221 (cM_plainHauls ht (e1.trans hρ) n1 (by omega)) se_54 (by decide) rfl rfl rfl rfl (Nat.le_of_ble_eq_true rfl) (fun r9 h9 q9 => ?_)
  obtain ⟨o2, a2, b2, rfl⟩ := q9
  show sk_S _ _ _ _ _ _ (.int _ :: _) _ _
  refine sk_S.ineg (dd DX8_skiffHauls 7 rfl) ?_
  refine sk_S.iret (dd DX8_skiffHauls 8 rfl) rfl rfl ?_
  refine ⟨o1.tr o2, ?_, ?_, ?_⟩
  · rw [a2, a1, upd_upd]
    first | done | rfl | (congr 2; simp only [List.length_cons]; omega)
  · rw [b2, b1]
    rfl
  · rfl
set_option maxRecDepth 100000 in
set_option maxHeartbeats 4000000 in
theorem cM_hauls {l : Launch} {E : sk_V} {d : Nat} {h : sk_M} {ρ : Nat → Int32} {n t : Nat} {x : Int32} (ht : t < 6) (hρ : h 55 = ρ) (hn : h 54 18 = nI n) (h30 : n ≤ 17) : sk_K l E (d + 6) MX8_hauls [.ref 54, .int (nI t), .int x] h (fun r h1 => sk_o [54, 66] h h1 ∧ h1 54 = upd (h 54) 18 (nI (n + (voHb (ρ (17 + 3 * t))).length)) ∧ h1 66 = appT (h 66) n (voHb (ρ (17 + 3 * t))) ∧ some (.int (voH (ρ (17 + 3 * t)) (ρ (17 + 3 * t + 1)) (nI t) x)) = r) := by
  refine sk_K.of (by decide +kernel) (Nat.le_of_ble_eq_true rfl) ?_
  show sk_S l E (d + 6) _ 0 [some (.ref 54), some (.int (nI t)), some (.int x)] [] h _
  refine sk_S.aload_n (i := 0) (dd DX8_hauls 0 rfl) rfl rfl ?_
  refine sk_S.iload_n (i := 1) (dd DX8_hauls 1 rfl) rfl rfl ?_
  refine sk_S.iconst (v := 0) (dd DX8_hauls 2 rfl) (by decide) ?_
  refine sk_S.callV (dd DX8_hauls 3 rfl) rfl kX8_51 (cM_of (j := t) (w := 0) (by omega)) se_54 (by decide) rfl rfl rfl rfl (Nat.le_of_ble_eq_true rfl) (fun r3 h3 q3 => ?_)
  obtain ⟨rfl, rfl⟩ := q3
  show sk_S _ _ _ _ _ _ (.int _ :: _) _ _
  refine sk_S.tabL (dd DX8_hauls 4 rfl) rfl (by decide) (by decide) (by decide) (fun j6 hj6 e6 => ?_) (fun e6 => ?_)
  · rcases j6 with _ | _ | _ | _ | _ | j6
    · show sk_S _ _ _ _ 40 _ _ _ _
      replace e6 : _ = (2 : Int32) := e6
      refine sk_S.aload_n (i := 0) (dd DX8_hauls 5 rfl) rfl rfl ?_
      refine sk_S.iload_n (i := 1) (dd DX8_hauls 6 rfl) rfl rfl ?_
      refine sk_S.iload_n (i := 2) (dd DX8_hauls 7 rfl) rfl rfl ?_
      refine sk_S.callV (dd DX8_hauls 8 rfl) rfl kX8_224 (cM_skiffHauls ht hρ hn (by omega)) se_54 (by decide) rfl rfl rfl rfl (Nat.le_of_ble_eq_true rfl) (fun r43 h43 q43 => ?_)
      obtain ⟨o2, a2, b2, rfl⟩ := q43
      show sk_S _ _ _ _ _ _ (.int _ :: _) _ _
      refine sk_S.iret (dd DX8_hauls 9 rfl) rfl rfl ?_
      have kq : ρ (17 + 3 * t) = 2 := by rw [← hρ]; exact e6
      unfold voH voHb
      rw [if_pos kq, if_pos kq]
      exact ⟨o2, a2, b2, rfl⟩
    · show sk_S _ _ _ _ 82 _ _ _ _
      replace e6 : _ = (3 : Int32) := e6
      refine sk_S.aload_n (i := 0) (dd DX8_hauls 33 rfl) rfl rfl ?_
      refine sk_S.iload_n (i := 1) (dd DX8_hauls 34 rfl) rfl rfl ?_
      refine sk_S.iload_n (i := 2) (dd DX8_hauls 35 rfl) rfl rfl ?_
      refine sk_S.callV (dd DX8_hauls 36 rfl) rfl kX8_221 (cM_plainHauls ht hρ hn (by omega)) se_54 (by decide) rfl rfl rfl rfl (Nat.le_of_ble_eq_true rfl) (fun r85 h85 q85 => ?_)
      obtain ⟨o2, a2, b2, rfl⟩ := q85
      show sk_S _ _ _ _ _ _ (.int _ :: _) _ _
      refine sk_S.iret (dd DX8_hauls 37 rfl) rfl rfl ?_
      have kq : ρ (17 + 3 * t) = 3 := by rw [← hρ]; exact e6
      have k2 : ¬ ρ (17 + 3 * t) = 2 := by rw [kq]; decide
      have k5 : ¬ ρ (17 + 3 * t) = 5 := by rw [kq]; decide
      have k6 : ¬ ρ (17 + 3 * t) = 6 := by rw [kq]; decide
      unfold voH voHb
      rw [if_neg k2, if_neg k5, if_neg k6, if_neg k2, if_neg k5, if_neg k6]
      exact ⟨o2, a2, b2, rfl⟩
    · show sk_S _ _ _ _ 82 _ _ _ _
      replace e6 : _ = (4 : Int32) := e6
      refine sk_S.aload_n (i := 0) (dd DX8_hauls 33 rfl) rfl rfl ?_
      refine sk_S.iload_n (i := 1) (dd DX8_hauls 34 rfl) rfl rfl ?_
      refine sk_S.iload_n (i := 2) (dd DX8_hauls 35 rfl) rfl rfl ?_
      refine sk_S.callV (dd DX8_hauls 36 rfl) rfl kX8_221 (cM_plainHauls ht hρ hn (by omega)) se_54 (by decide) rfl rfl rfl rfl (Nat.le_of_ble_eq_true rfl) (fun r85 h85 q85 => ?_)
      obtain ⟨o2, a2, b2, rfl⟩ := q85
      show sk_S _ _ _ _ _ _ (.int _ :: _) _ _
      refine sk_S.iret (dd DX8_hauls 37 rfl) rfl rfl ?_
      have kq : ρ (17 + 3 * t) = 4 := by rw [← hρ]; exact e6
      have k2 : ¬ ρ (17 + 3 * t) = 2 := by rw [kq]; decide
      have k5 : ¬ ρ (17 + 3 * t) = 5 := by rw [kq]; decide
      have k6 : ¬ ρ (17 + 3 * t) = 6 := by rw [kq]; decide
      unfold voH voHb
      rw [if_neg k2, if_neg k5, if_neg k6, if_neg k2, if_neg k5, if_neg k6]
      exact ⟨o2, a2, b2, rfl⟩
    · show sk_S _ _ _ _ 47 _ _ _ _
      replace e6 : _ = (5 : Int32) := e6
      refine sk_S.aload_n (i := 0) (dd DX8_hauls 10 rfl) rfl rfl ?_
      refine sk_S.bipush (v := 60) (dd DX8_hauls 11 rfl) (by decide) ?_
      refine sk_S.callV (dd DX8_hauls 12 rfl) rfl kX8_209 (cM_begins hn (by omega)) se_54 (by decide) rfl rfl rfl rfl (Nat.le_of_ble_eq_true rfl) (fun r50 h50 q50 => ?_)
      obtain ⟨o1, a1, b1, rfl⟩ := q50
      have n1 : h50 54 18 = nI (n + 1) := by rw [a1, upd_eq]
      have e1 : h50 55 = h 55 := o1 55 (by decide)
      show sk_S _ _ _ _ 53 _ _ _ _
      refine sk_S.aload_n (i := 0) (dd DX8_hauls 13 rfl) rfl rfl ?_
      refine sk_S.iload_n (i := 1) (dd DX8_hauls 14 rfl) rfl rfl ?_
      refine sk_S.iload_n (i := 2) (dd DX8_hauls 15 rfl) rfl rfl ?_
      refine sk_S.iconst (v := 1) (dd DX8_hauls 16 rfl) (by decide) ?_
      refine sk_S.iadd (dd DX8_hauls 17 rfl) ?_
      refine sk_S.callV (dd DX8_hauls 18 rfl) rfl kX8_224 (cM_skiffHauls ht (e1.trans hρ) n1 (by omega)) se_54 (by decide) rfl rfl rfl rfl (Nat.le_of_ble_eq_true rfl) (fun r58 h58 q58 => ?_)
      obtain ⟨o2, a2, b2, rfl⟩ := q58
      show sk_S _ _ _ _ _ _ (.int _ :: _) _ _
      refine sk_S.iret (dd DX8_hauls 19 rfl) rfl rfl ?_
      have kq : ρ (17 + 3 * t) = 5 := by rw [← hρ]; exact e6
      have k2 : ¬ ρ (17 + 3 * t) = 2 := by rw [kq]; decide
      unfold voH voHb
      rw [if_neg k2, if_pos kq, if_neg k2, if_pos kq]
      refine ⟨o1.tr o2, ?_, ?_, ?_⟩
      · rw [a2, a1, upd_upd]
        first | done | rfl | (congr 2; simp only [List.length_cons]; omega)
      · rw [b2, b1]
        rfl
      · rfl
    · show sk_S _ _ _ _ 62 _ _ _ _
      replace e6 : _ = (6 : Int32) := e6
      refine sk_S.aload_n (i := 0) (dd DX8_hauls 20 rfl) rfl rfl ?_
      refine sk_S.bipush (v := 71) (dd DX8_hauls 21 rfl) (by decide) ?_
      refine sk_S.callV (dd DX8_hauls 22 rfl) rfl kX8_209 (cM_begins hn (by omega)) se_54 (by decide) rfl rfl rfl rfl (Nat.le_of_ble_eq_true rfl) (fun r65 h65 q65 => ?_)
      obtain ⟨o1, a1, b1, rfl⟩ := q65
      have n1 : h65 54 18 = nI (n + 1) := by rw [a1, upd_eq]
      have e1 : h65 55 = h 55 := o1 55 (by decide)
      show sk_S _ _ _ _ 68 _ _ _ _
      refine sk_S.aload_n (i := 0) (dd DX8_hauls 23 rfl) rfl rfl ?_
      refine sk_S.iload_n (i := 1) (dd DX8_hauls 24 rfl) rfl rfl ?_
      refine sk_S.iload_n (i := 2) (dd DX8_hauls 25 rfl) rfl rfl ?_
      refine sk_S.callV (dd DX8_hauls 26 rfl) rfl kX8_221 (cM_plainHauls ht (e1.trans hρ) n1 (by omega)) se_54 (by decide) rfl rfl rfl rfl (Nat.le_of_ble_eq_true rfl) (fun r71 h71 q71 => ?_)
      obtain ⟨o2, a2, b2, rfl⟩ := q71
      show sk_S _ _ _ _ _ _ (.int _ :: _) _ _
      refine sk_S.aload_n (i := 0) (dd DX8_hauls 27 rfl) rfl rfl ?_
      refine sk_S.iload_n (i := 1) (dd DX8_hauls 28 rfl) rfl rfl ?_
      refine sk_S.iconst (v := 1) (dd DX8_hauls 29 rfl) (by decide) ?_
      refine sk_S.callV (dd DX8_hauls 30 rfl) rfl kX8_51 (cM_of (j := t) (w := 1) (by omega)) se_54 (by decide) rfl rfl rfl rfl (Nat.le_of_ble_eq_true rfl) (fun r77 h77 q77 => ?_)
      obtain ⟨rfl, rfl⟩ := q77
      show sk_S _ _ _ _ _ _ (.int _ :: _) _ _
      refine sk_S.iadd (dd DX8_hauls 31 rfl) ?_
      refine sk_S.iret (dd DX8_hauls 32 rfl) rfl rfl ?_
      have kq : ρ (17 + 3 * t) = 6 := by rw [← hρ]; exact e6
      have k2 : ¬ ρ (17 + 3 * t) = 2 := by rw [kq]; decide
      have k5 : ¬ ρ (17 + 3 * t) = 5 := by rw [kq]; decide
      unfold voH voHb
      rw [if_neg k2, if_neg k5, if_pos kq, if_neg k2, if_neg k5, if_pos kq]
      refine ⟨o1.tr o2, ?_, ?_, ?_⟩
      · rw [a2, a1, upd_upd]
        first | done | rfl | (congr 2; simp only [List.length_cons]; omega)
      · rw [b2, b1]
        rfl
      · rw [o2 55 (by decide), e1, hρ]
    · exact absurd hj6 (by simp)
  · show sk_S _ _ _ _ 82 _ _ _ _
    have e6_ := (⟨e6 0 (by decide), e6 1 (by decide), e6 2 (by decide), e6 3 (by decide), e6 4 (by decide)⟩ : ¬ _ = (2 : Int32) ∧ ¬ _ = (3 : Int32) ∧ ¬ _ = (4 : Int32) ∧ ¬ _ = (5 : Int32) ∧ ¬ _ = (6 : Int32))
    refine sk_S.aload_n (i := 0) (dd DX8_hauls 33 rfl) rfl rfl ?_
    refine sk_S.iload_n (i := 1) (dd DX8_hauls 34 rfl) rfl rfl ?_
    refine sk_S.iload_n (i := 2) (dd DX8_hauls 35 rfl) rfl rfl ?_
    refine sk_S.callV (dd DX8_hauls 36 rfl) rfl kX8_221 (cM_plainHauls ht hρ hn (by omega)) se_54 (by decide) rfl rfl rfl rfl (Nat.le_of_ble_eq_true rfl) (fun r85 h85 q85 => ?_)
    obtain ⟨o2, a2, b2, rfl⟩ := q85
    show sk_S _ _ _ _ _ _ (.int _ :: _) _ _
    refine sk_S.iret (dd DX8_hauls 37 rfl) rfl rfl ?_
    have k2 : ¬ ρ (17 + 3 * t) = 2 := fun q => e6_.1 (by rw [hρ]; exact q)
    have k5 : ¬ ρ (17 + 3 * t) = 5 := fun q => e6_.2.2.2.1 (by rw [hρ]; exact q)
    have k6 : ¬ ρ (17 + 3 * t) = 6 := fun q => e6_.2.2.2.2 (by rw [hρ]; exact q)
    unfold voH voHb
    rw [if_neg k2, if_neg k5, if_neg k6, if_neg k2, if_neg k5, if_neg k6]
    exact ⟨o2, a2, b2, rfl⟩
set_option maxRecDepth 100000 in
set_option maxHeartbeats 4000000 in
theorem cM_plainLets {l : Launch} {E : sk_V} {d : Nat} {h : sk_M} {ρ : Nat → Int32} {n t : Nat} {x : Int32} (ht : t < 6) (hρ : h 55 = ρ) (hn : h 54 18 = nI n) (h30 : n ≤ 16) : sk_K l E (d + 7) MX8_plainLets [.ref 54, .int (nI t), .int x] h (fun r h1 => sk_o [54, 66] h h1 ∧ h1 54 = upd (h 54) 18 (nI (n + (12 :: voHb (ρ (17 + 3 * t))).length)) ∧ h1 66 = appT (h 66) n (12 :: voHb (ρ (17 + 3 * t))) ∧ some (.int (voH (ρ (17 + 3 * t)) (ρ (17 + 3 * t + 1)) (nI t) x - (ρ (17 + 3 * t + 1)))) = r) := by
  refine sk_K.of (by decide +kernel) (Nat.le_of_ble_eq_true rfl) ?_
  show sk_S l E (d + 7) _ 0 [some (.ref 54), some (.int (nI t)), some (.int x)] [] h _
  refine sk_S.aload_n (i := 0) (dd DX8_plainLets 0 rfl) rfl rfl ?_
  refine sk_S.bipush (v := 12) (dd DX8_plainLets 1 rfl) (by decide) ?_
  refine sk_S.callV (dd DX8_plainLets 2 rfl) rfl kX8_209 (cM_begins hn (by omega)) se_54 (by decide) rfl rfl rfl rfl (Nat.le_of_ble_eq_true rfl) (fun r3 h3 q3 => ?_)
  obtain ⟨o1, a1, b1, rfl⟩ := q3
  have n1 : h3 54 18 = nI (n + 1) := by rw [a1, upd_eq]
  have e1 : h3 55 = h 55 := o1 55 (by decide)
  show sk_S _ _ _ _ 6 _ _ _ _
  refine sk_S.aload_n (i := 0) (dd DX8_plainLets 3 rfl) rfl rfl ?_
  refine sk_S.iload_n (i := 1) (dd DX8_plainLets 4 rfl) rfl rfl ?_
  refine sk_S.iload_n (i := 2) (dd DX8_plainLets 5 rfl) rfl rfl ?_
  refine sk_S.callV (dd DX8_plainLets 6 rfl) rfl kX8_227 (cM_hauls ht (e1.trans hρ) n1 (by omega)) se_54 (by decide) rfl rfl rfl rfl (Nat.le_of_ble_eq_true rfl) (fun r9 h9 q9 => ?_)
  obtain ⟨o2, a2, b2, rfl⟩ := q9
  show sk_S _ _ _ _ _ _ (.int _ :: _) _ _
  refine sk_S.aload_n (i := 0) (dd DX8_plainLets 7 rfl) rfl rfl ?_
  refine sk_S.iload_n (i := 1) (dd DX8_plainLets 8 rfl) rfl rfl ?_
  refine sk_S.iconst (v := 1) (dd DX8_plainLets 9 rfl) (by decide) ?_
  refine sk_S.callV (dd DX8_plainLets 10 rfl) rfl kX8_51 (cM_of (j := t) (w := 1) (by omega)) se_54 (by decide) rfl rfl rfl rfl (Nat.le_of_ble_eq_true rfl) (fun r15 h15 q15 => ?_)
  obtain ⟨rfl, rfl⟩ := q15
  show sk_S _ _ _ _ _ _ (.int _ :: _) _ _
  refine sk_S.isub (dd DX8_plainLets 11 rfl) ?_
  refine sk_S.iret (dd DX8_plainLets 12 rfl) rfl rfl ?_
  refine ⟨o1.tr o2, ?_, ?_, ?_⟩
  · rw [a2, a1, upd_upd]
    first | done | rfl | (congr 2; simp only [List.length_cons]; omega)
  · rw [b2, b1]
    rfl
  · rw [o2 55 (by decide), e1, hρ]
set_option maxRecDepth 100000 in
set_option maxHeartbeats 4000000 in
theorem cM_letsBy {l : Launch} {E : sk_V} {d : Nat} {h : sk_M} {ρ : Nat → Int32} {n t : Nat} {x : Int32} (ht : t < 6) (hρ : h 55 = ρ) (hn : h 54 18 = nI n) (h30 : n ≤ 15) : sk_K l E (d + 8) MX8_letsBy [.ref 54, .int (nI t), .int x] h (fun r h1 => sk_o [54, 66] h h1 ∧ h1 54 = upd (h 54) 18 (nI (n + (voLb (ρ (17 + 3 * t))).length)) ∧ h1 66 = appT (h 66) n (voLb (ρ (17 + 3 * t))) ∧ some (.int (voL (ρ (17 + 3 * t)) (ρ (17 + 3 * t + 1)) (nI t) x)) = r) := by
  refine sk_K.of (by decide +kernel) (Nat.le_of_ble_eq_true rfl) ?_
  show sk_S l E (d + 8) _ 0 [some (.ref 54), some (.int (nI t)), some (.int x)] [] h _
  refine sk_S.aload_n (i := 0) (dd DX8_letsBy 0 rfl) rfl rfl ?_
  refine sk_S.iload_n (i := 1) (dd DX8_letsBy 1 rfl) rfl rfl ?_
  refine sk_S.iconst (v := 0) (dd DX8_letsBy 2 rfl) (by decide) ?_
  refine sk_S.callV (dd DX8_letsBy 3 rfl) rfl kX8_51 (cM_of (j := t) (w := 0) (by omega)) se_54 (by decide) rfl rfl rfl rfl (Nat.le_of_ble_eq_true rfl) (fun r3 h3 q3 => ?_)
  obtain ⟨rfl, rfl⟩ := q3
  show sk_S _ _ _ _ _ _ (.int _ :: _) _ _
  refine sk_S.lookN (dd DX8_letsBy 4 rfl) (by decide) (by decide) (by decide) (fun i6 q6 w6 e6 => ?_) (fun e6 => ?_)
  · rcases i6 with _ | _ | i6
    · obtain rfl : (3, 26) = q6 := Option.some.inj w6
      show sk_S _ _ _ _ 32 _ _ _ _
      replace e6 : _ = (3 : Int32) := e6
      refine sk_S.aload_n (i := 0) (dd DX8_letsBy 5 rfl) rfl rfl ?_
      refine sk_S.bipush (v := 40) (dd DX8_letsBy 6 rfl) (by decide) ?_
      refine sk_S.callV (dd DX8_letsBy 7 rfl) rfl kX8_209 (cM_begins hn (by omega)) se_54 (by decide) rfl rfl rfl rfl (Nat.le_of_ble_eq_true rfl) (fun r35 h35 q35 => ?_)
      obtain ⟨o1, a1, b1, rfl⟩ := q35
      have n1 : h35 54 18 = nI (n + 1) := by rw [a1, upd_eq]
      have e1 : h35 55 = h 55 := o1 55 (by decide)
      show sk_S _ _ _ _ 38 _ _ _ _
      refine sk_S.aload_n (i := 0) (dd DX8_letsBy 8 rfl) rfl rfl ?_
      refine sk_S.iload_n (i := 1) (dd DX8_letsBy 9 rfl) rfl rfl ?_
      refine sk_S.iload_n (i := 2) (dd DX8_letsBy 10 rfl) rfl rfl ?_
      refine sk_S.iconst (v := 2) (dd DX8_letsBy 11 rfl) (by decide) ?_
      refine sk_S.idiv (dd DX8_letsBy 12 rfl) (by decide) ?_
      refine sk_S.callV (dd DX8_letsBy 13 rfl) rfl kX8_230 (cM_plainLets ht (e1.trans hρ) n1 (by omega)) se_54 (by decide) rfl rfl rfl rfl (Nat.le_of_ble_eq_true rfl) (fun r43 h43 q43 => ?_)
      obtain ⟨o2, a2, b2, rfl⟩ := q43
      show sk_S _ _ _ _ _ _ (.int _ :: _) _ _
      refine sk_S.iret (dd DX8_letsBy 14 rfl) rfl rfl ?_
      have kq : ρ (17 + 3 * t) = 3 := by rw [← hρ]; exact e6
      unfold voL voLb
      rw [if_pos kq, if_pos kq]
      refine ⟨o1.tr o2, ?_, ?_, ?_⟩
      · rw [a2, a1, upd_upd]
        first | done | rfl | (congr 2; simp only [List.length_cons]; omega)
      · rw [b2, b1]
        rfl
      · rfl
    · obtain rfl : (4, 41) = q6 := Option.some.inj w6
      show sk_S _ _ _ _ 47 _ _ _ _
      replace e6 : _ = (4 : Int32) := e6
      refine sk_S.aload_n (i := 0) (dd DX8_letsBy 15 rfl) rfl rfl ?_
      refine sk_S.bipush (v := 51) (dd DX8_letsBy 16 rfl) (by decide) ?_
      refine sk_S.callV (dd DX8_letsBy 17 rfl) rfl kX8_209 (cM_begins hn (by omega)) se_54 (by decide) rfl rfl rfl rfl (Nat.le_of_ble_eq_true rfl) (fun r50 h50 q50 => ?_)
      obtain ⟨o1, a1, b1, rfl⟩ := q50
      have n1 : h50 54 18 = nI (n + 1) := by rw [a1, upd_eq]
      have e1 : h50 55 = h 55 := o1 55 (by decide)
      show sk_S _ _ _ _ 53 _ _ _ _
      refine sk_S.aload_n (i := 0) (dd DX8_letsBy 18 rfl) rfl rfl ?_
      refine sk_S.iload_n (i := 1) (dd DX8_letsBy 19 rfl) rfl rfl ?_
      refine sk_S.iload_n (i := 2) (dd DX8_letsBy 20 rfl) rfl rfl ?_
      refine sk_S.callV (dd DX8_letsBy 21 rfl) rfl kX8_230 (cM_plainLets ht (e1.trans hρ) n1 (by omega)) se_54 (by decide) rfl rfl rfl rfl (Nat.le_of_ble_eq_true rfl) (fun r56 h56 q56 => ?_)
      obtain ⟨o2, a2, b2, rfl⟩ := q56
      show sk_S _ _ _ _ _ _ (.int _ :: _) _ _
      refine sk_S.iload_n (i := 1) (dd DX8_letsBy 22 rfl) rfl rfl ?_
      refine sk_S.ixor (dd DX8_letsBy 23 rfl) ?_
      refine sk_S.iret (dd DX8_letsBy 24 rfl) rfl rfl ?_
      have kq : ρ (17 + 3 * t) = 4 := by rw [← hρ]; exact e6
      have k3 : ¬ ρ (17 + 3 * t) = 3 := by rw [kq]; decide
      unfold voL voLb
      rw [if_neg k3, if_pos kq, if_neg k3, if_pos kq]
      refine ⟨o1.tr o2, ?_, ?_, ?_⟩
      · rw [a2, a1, upd_upd]
        first | done | rfl | (congr 2; simp only [List.length_cons]; omega)
      · rw [b2, b1]
        rfl
      · rfl
    · exact absurd w6 (by simp)
  · show sk_S _ _ _ _ 62 _ _ _ _
    have e6_ := (⟨e6 (3, 26) (by simp), e6 (4, 41) (by simp)⟩ : ¬ _ = (3 : Int32) ∧ ¬ _ = (4 : Int32))
    refine sk_S.aload_n (i := 0) (dd DX8_letsBy 25 rfl) rfl rfl ?_
    refine sk_S.iload_n (i := 1) (dd DX8_letsBy 26 rfl) rfl rfl ?_
    refine sk_S.iload_n (i := 2) (dd DX8_letsBy 27 rfl) rfl rfl ?_
    refine sk_S.callV (dd DX8_letsBy 28 rfl) rfl kX8_230 (cM_plainLets ht hρ hn (by omega)) se_54 (by decide) rfl rfl rfl rfl (Nat.le_of_ble_eq_true rfl) (fun r65 h65 q65 => ?_)
    obtain ⟨o2, a2, b2, rfl⟩ := q65
    show sk_S _ _ _ _ _ _ (.int _ :: _) _ _
    refine sk_S.iret (dd DX8_letsBy 29 rfl) rfl rfl ?_
    have k3 : ¬ ρ (17 + 3 * t) = 3 := fun q => e6_.1 (by rw [hρ]; exact q)
    have k4 : ¬ ρ (17 + 3 * t) = 4 := fun q => e6_.2 (by rw [hρ]; exact q)
    unfold voL voLb
    rw [if_neg k3, if_neg k4, if_neg k3, if_neg k4]
    exact ⟨o2, a2, b2, rfl⟩
end M14
