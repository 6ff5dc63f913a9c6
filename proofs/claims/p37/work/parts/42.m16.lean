section M16
set_option maxRecDepth 100000 in
set_option maxHeartbeats 4000000 in
theorem cM_look {l : Launch} {E : sk_V} {d : Nat} {h : sk_M} {ρ : Nat → Int32} {tp p : Nat} (hρ : h 55 = ρ) (htp : ρ 7 = nI tp) (ht : tp ≤ 60) (hp : h 54 12 = nI p) (hp60 : p ≤ 60) : sk_K l E (d + 0) MX8_look [.ref 54] h (fun r h1 => h = h1 ∧ some (.int (tkT ρ tp p)) = r) := by
  refine sk_K.of (by decide +kernel) (Nat.le_of_ble_eq_true rfl) ?_
  show sk_S l E (d + 0) _ 0 [some (.ref 54)] [] h _
  refine sk_S.aload_n (i := 0) (dd DX8_look 0 rfl) rfl rfl ?_
  refine sk_S.geti (dd DX8_look 1 rfl) rfl fX8_106 se_54 (by decide) rfl ?_
  refine sk_S.aload_n (i := 0) (dd DX8_look 2 rfl) rfl rfl ?_
  refine sk_S.getr (dd DX8_look 3 rfl) rfl fX8_9 se_54 (by decide) rfl ?_
  refine sk_S.bipush (v := 7) (dd DX8_look 4 rfl) (by decide) ?_
  refine sk_S.iald (dd DX8_look 5 rfl) se_55 (j := 7) ⟨by decide, by decide, by decide⟩ ?_
  refine sk_S.icmp_ge (tgt := 29) (dd DX8_look 6 rfl) (by decide) (fun c11 => ?_) (fun c11 => ?_)
  · refine sk_S.iconst (v := -1) (dd DX8_look 15 rfl) (by decide) ?_
    refine sk_S.iret (dd DX8_look 16 rfl) rfl rfl ?_
    refine ⟨rfl, ?_⟩
    unfold tkT
    rw [if_neg (by rw [hp, hρ, htp, nI_leI (by omega) (by omega)] at c11; omega)]
  · have hlt : p < tp := by
      rw [hp, hρ, htp, nI_leI (by omega) (by omega)] at c11
      omega
    refine sk_S.aload_n (i := 0) (dd DX8_look 7 rfl) rfl rfl ?_
    refine sk_S.getr (dd DX8_look 8 rfl) rfl fX8_9 se_54 (by decide) rfl ?_
    refine sk_S.bipush (v := 35) (dd DX8_look 9 rfl) (by decide) ?_
    refine sk_S.aload_n (i := 0) (dd DX8_look 10 rfl) rfl rfl ?_
    refine sk_S.geti (dd DX8_look 11 rfl) rfl fX8_106 se_54 (by decide) rfl ?_
    refine sk_S.iadd (dd DX8_look 12 rfl) ?_
    refine sk_S.iald (dd DX8_look 13 rfl) se_55 (sk_ix_e (k := 35 + p) (by rw [hp]; exact ix_add 35 _) (by omega) (by decide)) ?_
    refine sk_S.goto (tgt := 30) (dd DX8_look 14 rfl) (by decide) ?_
    refine sk_S.iret (dd DX8_look 16 rfl) rfl rfl ?_
    refine ⟨rfl, ?_⟩
    unfold tkT
    rw [if_pos hlt, hρ]
set_option maxRecDepth 100000 in
set_option maxHeartbeats 4000000 in
theorem cM_lays {l : Launch} {E : sk_V} {d : Nat} {h : sk_M} {w v : Int32} {n : Nat} (hn : h 54 11 = nI n) (hn60 : n ≤ 60) : sk_K l E (d + 0) MX8_lays [.ref 54, .int w, .int v] h (fun r h1 => sk_o [54, 61, 62] h h1 ∧ (∀ k, ¬ k = 11 → h1 54 k = h 54 k) ∧ layQ h h1 n w v ∧ none = r) := by
  refine sk_K.of (by decide +kernel) (Nat.le_of_ble_eq_true rfl) ?_
  show sk_S l E (d + 0) _ 0 [some (.ref 54), some (.int w), some (.int v)] [] h _
  refine sk_S.aload_n (i := 0) (dd DX8_lays 0 rfl) rfl rfl ?_
  refine sk_S.geti (dd DX8_lays 1 rfl) rfl fX8_110 se_54 (by decide) rfl ?_
  refine sk_S.aload_n (i := 0) (dd DX8_lays 2 rfl) rfl rfl ?_
  refine sk_S.getr (dd DX8_lays 3 rfl) rfl fX8_28 se_54 (by decide) rfl ?_
  refine sk_S.alen (v := 60) (t := 0) (dd DX8_lays 4 rfl) se_61 (by decide) (by decide) ?_
  refine sk_S.icmp_ge (tgt := 42) (dd DX8_lays 5 rfl) (by decide) (fun c9 => ?_) (fun c9 => ?_)
  · refine sk_S.vret (dd DX8_lays 24 rfl) rfl ?_
    have h60 : n = 60 := by
      have h2 : nI 60 ≤ nI n := by rw [← hn]; exact c9
      rw [nI_leI (by decide) (by omega)] at h2
      omega
    exact ⟨sk_o.rf, fun _ _ => rfl, Or.inr ⟨h60, by rw [hn, h60]⟩, rfl⟩
  · have hlt : n < 60 := by
      have h2 : ¬ nI 60 ≤ nI n := by rw [← hn]; exact c9
      rw [nI_leI (by decide) (by omega)] at h2
      omega
    refine sk_S.aload_n (i := 0) (dd DX8_lays 6 rfl) rfl rfl ?_
    refine sk_S.getr (dd DX8_lays 7 rfl) rfl fX8_28 se_54 (by decide) rfl ?_
    refine sk_S.aload_n (i := 0) (dd DX8_lays 8 rfl) rfl rfl ?_
    refine sk_S.geti (dd DX8_lays 9 rfl) rfl fX8_110 se_54 (by decide) rfl ?_
    refine sk_S.iload_n (i := 1) (dd DX8_lays 10 rfl) rfl rfl ?_
    refine sk_S.iast (dd DX8_lays 11 rfl) se_61 (sk_ix_nI (k := n) hn (by omega) (by decide)) ?_
    refine sk_S.aload_n (i := 0) (dd DX8_lays 12 rfl) rfl rfl ?_
    refine sk_S.getr (dd DX8_lays 13 rfl) rfl fX8_31 se_54 (by decide) rfl ?_
    refine sk_S.aload_n (i := 0) (dd DX8_lays 14 rfl) rfl rfl ?_
    refine sk_S.geti (dd DX8_lays 15 rfl) rfl fX8_110 se_54 (by decide) rfl ?_
    refine sk_S.iload_n (i := 2) (dd DX8_lays 16 rfl) rfl rfl ?_
    refine sk_S.iast (dd DX8_lays 17 rfl) se_62 (sk_ix_nI (k := n) hn (by omega) (by decide)) ?_
    refine sk_S.aload_n (i := 0) (dd DX8_lays 18 rfl) rfl rfl ?_
    refine sk_S.dup (dd DX8_lays 19 rfl) rfl ?_
    refine sk_S.geti (dd DX8_lays 20 rfl) rfl fX8_110 se_54 (by decide) rfl ?_
    refine sk_S.iconst (v := 1) (dd DX8_lays 21 rfl) (by decide) ?_
    refine sk_S.iadd (dd DX8_lays 22 rfl) ?_
    refine sk_S.putf (dd DX8_lays 23 rfl) rfl pX8_110 se_54 (by decide) rfl rfl rfl ?_
    refine sk_S.vret (dd DX8_lays 24 rfl) rfl ?_
    refine ⟨(((sk_o.rf (h := h)).u (by decide)).u (by decide)).u (by decide), ?_, Or.inl ⟨hlt, ?_, ?_, ?_⟩, rfl⟩
    · intro k hk; rw [sk_u_at, if_pos rfl, if_neg hk]; rfl
    · rw [sk_u_at, if_pos rfl, if_pos rfl, nI_succ, ← hn]; rfl
    · rw [sk_u, sk_r_ne _ _ (by decide), sk_u, sk_r_ne _ _ (by decide), sk_u, sk_r_eq]
    · rw [sk_u, sk_r_ne _ _ (by decide), sk_u, sk_r_eq]; rfl
set_option maxRecDepth 100000 in
set_option maxHeartbeats 4000000 in
theorem cM_nameOf {l : Launch} {E : sk_V} {d : Nat} {h : sk_M} {b : Int32} {u : Nat} (hU : h 54 15 = nI u) (hu : u < 2) : sk_K l E (d + 0) MX8_nameOf [.ref 54, .int b] h (fun r h1 => h = h1 ∧ some (.int (nmI u b)) = r) := by
  refine sk_K.of (by decide +kernel) (Nat.le_of_ble_eq_true rfl) ?_
  show sk_S l E (d + 0) _ 0 [some (.ref 54), some (.int b)] [] h _
  refine sk_S.iload_n (i := 1) (dd DX8_nameOf 0 rfl) rfl rfl ?_
  refine sk_S.lookN (dd DX8_nameOf 1 rfl) (by decide) (by decide) (by decide) (fun i1 q1 w1 e1 => ?_) (fun e1 => ?_)
  · rcases i1 with _ | _ | _ | _ | _ | i1
    · obtain rfl : (99, 53) = q1 := Option.some.inj w1
      show sk_S _ _ _ _ 54 _ _ _ _
      replace e1 : _ = (99 : Int32) := e1
      refine sk_S.aload_n (i := 0) (dd DX8_nameOf 4 rfl) rfl rfl ?_
      refine sk_S.geti (dd DX8_nameOf 5 rfl) rfl fX8_113 se_54 (by decide) rfl ?_
      refine sk_S.if_eq (tgt := 65) (dd DX8_nameOf 6 rfl) (by decide) (fun c58 => ?_) (fun c58 => ?_)
      · refine sk_S.iload_n (i := 1) (dd DX8_nameOf 9 rfl) rfl rfl ?_
        refine sk_S.bipush (v := 99) (dd DX8_nameOf 10 rfl) (by decide) ?_
        refine sk_S.icmp_ne (tgt := 75) (dd DX8_nameOf 11 rfl) (by decide) (fun c68 => ?_) (fun c68 => ?_)
        · refine sk_S.iconst (v := 1) (dd DX8_nameOf 14 rfl) (by decide) ?_
          refine sk_S.iret (dd DX8_nameOf 15 rfl) rfl rfl ?_
          have hu0 : u = 0 := nI_inj (by omega) (by decide) (hU.symm.trans c58)
          subst e1
          refine ⟨rfl, ?_⟩
          unfold nmI
          first | rfl | (rw [hu0]; rfl) | exact absurd c68 (by decide) | exact absurd rfl c68
        · refine sk_S.iconst (v := 0) (dd DX8_nameOf 12 rfl) (by decide) ?_
          refine sk_S.goto (tgt := 76) (dd DX8_nameOf 13 rfl) (by decide) ?_
          refine sk_S.iret (dd DX8_nameOf 15 rfl) rfl rfl ?_
          have hu0 : u = 0 := nI_inj (by omega) (by decide) (hU.symm.trans c58)
          subst e1
          refine ⟨rfl, ?_⟩
          unfold nmI
          first | rfl | (rw [hu0]; rfl) | exact absurd c68 (by decide) | exact absurd rfl c68
      · refine sk_S.iconst (v := -1) (dd DX8_nameOf 7 rfl) (by decide) ?_
        refine sk_S.goto (tgt := 76) (dd DX8_nameOf 8 rfl) (by decide) ?_
        refine sk_S.iret (dd DX8_nameOf 15 rfl) rfl rfl ?_
        have hu0 : ¬ u = 0 := fun q => c58 (by rw [hU, q]; rfl)
        subst e1
        refine ⟨rfl, ?_⟩
        unfold nmI
        simp [hu0]
    · obtain rfl : (110, 51) = q1 := Option.some.inj w1
      show sk_S _ _ _ _ 52 _ _ _ _
      replace e1 : _ = (110 : Int32) := e1
      refine sk_S.iconst (v := 2) (dd DX8_nameOf 2 rfl) (by decide) ?_
      refine sk_S.iret (dd DX8_nameOf 3 rfl) rfl rfl ?_
      refine ⟨rfl, ?_⟩
      unfold nmI
      rw [if_pos e1]
    · obtain rfl : (112, 76) = q1 := Option.some.inj w1
      show sk_S _ _ _ _ 77 _ _ _ _
      replace e1 : _ = (112 : Int32) := e1
      refine sk_S.aload_n (i := 0) (dd DX8_nameOf 16 rfl) rfl rfl ?_
      refine sk_S.geti (dd DX8_nameOf 17 rfl) rfl fX8_113 se_54 (by decide) rfl ?_
      refine sk_S.iconst (v := 1) (dd DX8_nameOf 18 rfl) (by decide) ?_
      refine sk_S.icmp_eq (tgt := 89) (dd DX8_nameOf 19 rfl) (by decide) (fun c82 => ?_) (fun c82 => ?_)
      · refine sk_S.iload_n (i := 1) (dd DX8_nameOf 22 rfl) rfl rfl ?_
        refine sk_S.bipush (v := 112) (dd DX8_nameOf 23 rfl) (by decide) ?_
        refine sk_S.icmp_ne (tgt := 99) (dd DX8_nameOf 24 rfl) (by decide) (fun c92 => ?_) (fun c92 => ?_)
        · refine sk_S.iconst (v := 1) (dd DX8_nameOf 27 rfl) (by decide) ?_
          refine sk_S.iret (dd DX8_nameOf 28 rfl) rfl rfl ?_
          have hu0 : u = 1 := nI_inj (by omega) (by decide) (hU.symm.trans c82)
          subst e1
          refine ⟨rfl, ?_⟩
          unfold nmI
          first | rfl | (rw [hu0]; rfl) | exact absurd c92 (by decide) | exact absurd rfl c92
        · refine sk_S.iconst (v := 0) (dd DX8_nameOf 25 rfl) (by decide) ?_
          refine sk_S.goto (tgt := 100) (dd DX8_nameOf 26 rfl) (by decide) ?_
          refine sk_S.iret (dd DX8_nameOf 28 rfl) rfl rfl ?_
          have hu0 : u = 1 := nI_inj (by omega) (by decide) (hU.symm.trans c82)
          subst e1
          refine ⟨rfl, ?_⟩
          unfold nmI
          first | rfl | (rw [hu0]; rfl) | exact absurd c92 (by decide) | exact absurd rfl c92
      · refine sk_S.iconst (v := -1) (dd DX8_nameOf 20 rfl) (by decide) ?_
        refine sk_S.goto (tgt := 100) (dd DX8_nameOf 21 rfl) (by decide) ?_
        refine sk_S.iret (dd DX8_nameOf 28 rfl) rfl rfl ?_
        have hu0 : ¬ u = 1 := fun q => c82 (by rw [hU, q]; rfl)
        subst e1
        refine ⟨rfl, ?_⟩
        unfold nmI
        simp [hu0]
    · obtain rfl : (115, 53) = q1 := Option.some.inj w1
      show sk_S _ _ _ _ 54 _ _ _ _
      replace e1 : _ = (115 : Int32) := e1
      refine sk_S.aload_n (i := 0) (dd DX8_nameOf 4 rfl) rfl rfl ?_
      refine sk_S.geti (dd DX8_nameOf 5 rfl) rfl fX8_113 se_54 (by decide) rfl ?_
      refine sk_S.if_eq (tgt := 65) (dd DX8_nameOf 6 rfl) (by decide) (fun c58 => ?_) (fun c58 => ?_)
      · refine sk_S.iload_n (i := 1) (dd DX8_nameOf 9 rfl) rfl rfl ?_
        refine sk_S.bipush (v := 99) (dd DX8_nameOf 10 rfl) (by decide) ?_
        refine sk_S.icmp_ne (tgt := 75) (dd DX8_nameOf 11 rfl) (by decide) (fun c68 => ?_) (fun c68 => ?_)
        · refine sk_S.iconst (v := 1) (dd DX8_nameOf 14 rfl) (by decide) ?_
          refine sk_S.iret (dd DX8_nameOf 15 rfl) rfl rfl ?_
          have hu0 : u = 0 := nI_inj (by omega) (by decide) (hU.symm.trans c58)
          subst e1
          refine ⟨rfl, ?_⟩
          unfold nmI
          first | rfl | (rw [hu0]; rfl) | exact absurd c68 (by decide) | exact absurd rfl c68
        · refine sk_S.iconst (v := 0) (dd DX8_nameOf 12 rfl) (by decide) ?_
          refine sk_S.goto (tgt := 76) (dd DX8_nameOf 13 rfl) (by decide) ?_
          refine sk_S.iret (dd DX8_nameOf 15 rfl) rfl rfl ?_
          have hu0 : u = 0 := nI_inj (by omega) (by decide) (hU.symm.trans c58)
          subst e1
          refine ⟨rfl, ?_⟩
          unfold nmI
          first | rfl | (rw [hu0]; rfl) | exact absurd c68 (by decide) | exact absurd rfl c68
      · refine sk_S.iconst (v := -1) (dd DX8_nameOf 7 rfl) (by decide) ?_
        refine sk_S.goto (tgt := 76) (dd DX8_nameOf 8 rfl) (by decide) ?_
        refine sk_S.iret (dd DX8_nameOf 15 rfl) rfl rfl ?_
        have hu0 : ¬ u = 0 := fun q => c58 (by rw [hU, q]; rfl)
        subst e1
        refine ⟨rfl, ?_⟩
        unfold nmI
        simp [hu0]
    · obtain rfl : (116, 76) = q1 := Option.some.inj w1
      show sk_S _ _ _ _ 77 _ _ _ _
      replace e1 : _ = (116 : Int32) := e1
      refine sk_S.aload_n (i := 0) (dd DX8_nameOf 16 rfl) rfl rfl ?_
      refine sk_S.geti (dd DX8_nameOf 17 rfl) rfl fX8_113 se_54 (by decide) rfl ?_
      refine sk_S.iconst (v := 1) (dd DX8_nameOf 18 rfl) (by decide) ?_
      refine sk_S.icmp_eq (tgt := 89) (dd DX8_nameOf 19 rfl) (by decide) (fun c82 => ?_) (fun c82 => ?_)
      · refine sk_S.iload_n (i := 1) (dd DX8_nameOf 22 rfl) rfl rfl ?_
        refine sk_S.bipush (v := 112) (dd DX8_nameOf 23 rfl) (by decide) ?_
        refine sk_S.icmp_ne (tgt := 99) (dd DX8_nameOf 24 rfl) (by decide) (fun c92 => ?_) (fun c92 => ?_)
        · refine sk_S.iconst (v := 1) (dd DX8_nameOf 27 rfl) (by decide) ?_
          refine sk_S.iret (dd DX8_nameOf 28 rfl) rfl rfl ?_
          have hu0 : u = 1 := nI_inj (by omega) (by decide) (hU.symm.trans c82)
          subst e1
          refine ⟨rfl, ?_⟩
          unfold nmI
          first | rfl | (rw [hu0]; rfl) | exact absurd c92 (by decide) | exact absurd rfl c92
        · refine sk_S.iconst (v := 0) (dd DX8_nameOf 25 rfl) (by decide) ?_
          refine sk_S.goto (tgt := 100) (dd DX8_nameOf 26 rfl) (by decide) ?_
          refine sk_S.iret (dd DX8_nameOf 28 rfl) rfl rfl ?_
          have hu0 : u = 1 := nI_inj (by omega) (by decide) (hU.symm.trans c82)
          subst e1
          refine ⟨rfl, ?_⟩
          unfold nmI
          first | rfl | (rw [hu0]; rfl) | exact absurd c92 (by decide) | exact absurd rfl c92
      · refine sk_S.iconst (v := -1) (dd DX8_nameOf 20 rfl) (by decide) ?_
        refine sk_S.goto (tgt := 100) (dd DX8_nameOf 21 rfl) (by decide) ?_
        refine sk_S.iret (dd DX8_nameOf 28 rfl) rfl rfl ?_
        have hu0 : ¬ u = 1 := fun q => c82 (by rw [hU, q]; rfl)
        subst e1
        refine ⟨rfl, ?_⟩
        unfold nmI
        simp [hu0]
    · exact absurd w1 (by simp)
  · show sk_S _ _ _ _ 101 _ _ _ _
    have e1_ := (⟨e1 (99, 53) (by simp), e1 (110, 51) (by simp), e1 (112, 76) (by simp), e1 (115, 53) (by simp), e1 (116, 76) (by simp)⟩ : ¬ _ = (99 : Int32) ∧ ¬ _ = (110 : Int32) ∧ ¬ _ = (112 : Int32) ∧ ¬ _ = (115 : Int32) ∧ ¬ _ = (116 : Int32))
    refine sk_S.iconst (v := -1) (dd DX8_nameOf 29 rfl) (by decide) ?_
    refine sk_S.iret (dd DX8_nameOf 30 rfl) rfl rfl ?_
    refine ⟨rfl, ?_⟩
    obtain ⟨a1, a2, a3, a4, a5⟩ := e1_
    unfold nmI
    rw [if_neg a2, if_neg a1, if_neg a4, if_neg a3, if_neg a5]
set_option maxRecDepth 100000 in
set_option maxHeartbeats 4000000 in
theorem lp_number {l : Launch} {E : sk_V} {d : Nat} {h : sk_M} {ρ : Nat → Int32} {tp p n : Nat} (hρ : h 55 = ρ) (htp : ρ 7 = nI tp) (ht : tp ≤ 60) (hp60 : p ≤ tp) (hn : h 54 11 = nI n) (hn60 : n ≤ 60) : ∀ (m c : Nat) (v : Int32) (g : sk_M), c + m = 4 → p + c ≤ tp → sk_o [54] h g → g 54 = upd (h 54) 12 (nI (p + c)) → (nuL (tkT ρ tp) 4 p 0) = nuL (tkT ρ tp) m (p + c) v → sk_S l E (d + 1) MX8_number 4 [some (.ref 54), some (.int v), some (.int (nI c))] [] g (fun r h1 => sk_o [54, 61, 62] h h1 ∧ (∀ k, ¬ k = 11 → ¬ k = 12 → ¬ k = 14 → h1 54 k = h 54 k) ∧ h1 54 12 = nI (nuL (tkT ρ tp) 4 p 0).1 ∧ h1 54 14 = bi ((nuL (tkT ρ tp) 4 p 0).1 = p) ∧ layQ h h1 n 1 (nuL (tkT ρ tp) 4 p 0).2 ∧ none = r)
  | 0, c, v, g, hc, hpc, ho, hg, hs => by
    have e55 : g 55 = ρ := (ho 55 (by decide)).trans hρ
    have e12 : g 54 12 = nI (p + c) := by rw [hg, upd_eq]
    have hc4 : c = 4 := by omega
    refine sk_S.iload_n (i := 2) (dd DX8_number 4 rfl) rfl rfl ?_
    refine sk_S.iconst (v := 4) (dd DX8_number 5 rfl) (by decide) ?_
    refine sk_S.icmp_ge (tgt := 52) (dd DX8_number 6 rfl) (by decide) (fun c6 => ?_) (fun c6 => absurd (by rw [hc4]; decide) c6)
    refine sk_S.aload_n (i := 0) (dd DX8_number 30 rfl) rfl rfl ?_
    refine sk_S.iload_n (i := 2) (dd DX8_number 31 rfl) rfl rfl ?_
    refine sk_S.if_ne (tgt := 61) (dd DX8_number 32 rfl) (by decide) (fun c54 => ?_) (fun c54 => ?_)
    · refine sk_S.iconst (v := 0) (dd DX8_number 35 rfl) (by decide) ?_
      refine sk_S.putf (dd DX8_number 36 rfl) rfl pX8_120 se_54 (by decide) rfl rfl rfl ?_
      have n9 : sk_u g 54 14 0 54 11 = nI n := by rw [sk_u_at, if_pos rfl, if_neg (by decide), hg, upd_ne (by decide)]; exact hn
      refine sk_S.aload_n (i := 0) (dd DX8_number 37 rfl) rfl rfl ?_
      refine sk_S.iconst (v := 1) (dd DX8_number 38 rfl) (by decide) ?_
      refine sk_S.iload_n (i := 1) (dd DX8_number 39 rfl) rfl rfl ?_
      refine sk_S.callV (dd DX8_number 40 rfl) rfl kX8_124 (cM_lays (n := n) n9 hn60) se_54 (by decide) rfl rfl rfl rfl (Nat.le_of_ble_eq_true rfl) (fun r68 h68 q68 => ?_)
      obtain ⟨o9, a9, l9, rfl⟩ := q68
      show sk_S _ _ _ _ 71 _ _ _ _
      refine sk_S.vret (dd DX8_number 41 rfl) rfl ?_
      have eP : (nuL (tkT ρ tp) 4 p 0).1 = p + c := by rw [hs]; try rfl
      have eV : (nuL (tkT ρ tp) 4 p 0).2 = v := by rw [hs]; try rfl
      refine ⟨((ho.u (k := 54) (by decide)).more (by decide)).tr o9, ?_, ?_, ?_, ?_, rfl⟩
      · intro k k1 k2 k3
        rw [a9 k k1, sk_u_at, if_pos rfl, if_neg k3, hg, upd_ne k2]
      · rw [a9 12 (by decide), sk_u_at, if_pos rfl, if_neg (by decide), hg, upd_eq, eP]
      · rw [a9 14 (by decide), sk_u_at, if_pos rfl, if_pos rfl, eP]
        have hc : ¬ c = 0 := fun q => c54 (by rw [q]; rfl)
        rw [bi_f (by omega)]
      · rw [eV]
        exact layQ.cg (ho.u (k := 54) (by decide) 61 (by decide)) (ho.u (k := 54) (by decide) 62 (by decide)) l9
    · refine sk_S.iconst (v := 1) (dd DX8_number 33 rfl) (by decide) ?_
      refine sk_S.goto (tgt := 62) (dd DX8_number 34 rfl) (by decide) ?_
      refine sk_S.putf (dd DX8_number 36 rfl) rfl pX8_120 se_54 (by decide) rfl rfl rfl ?_
      have n9 : sk_u g 54 14 1 54 11 = nI n := by rw [sk_u_at, if_pos rfl, if_neg (by decide), hg, upd_ne (by decide)]; exact hn
      refine sk_S.aload_n (i := 0) (dd DX8_number 37 rfl) rfl rfl ?_
      refine sk_S.iconst (v := 1) (dd DX8_number 38 rfl) (by decide) ?_
      refine sk_S.iload_n (i := 1) (dd DX8_number 39 rfl) rfl rfl ?_
      refine sk_S.callV (dd DX8_number 40 rfl) rfl kX8_124 (cM_lays (n := n) n9 hn60) se_54 (by decide) rfl rfl rfl rfl (Nat.le_of_ble_eq_true rfl) (fun r68 h68 q68 => ?_)
      obtain ⟨o9, a9, l9, rfl⟩ := q68
      show sk_S _ _ _ _ 71 _ _ _ _
      refine sk_S.vret (dd DX8_number 41 rfl) rfl ?_
      have eP : (nuL (tkT ρ tp) 4 p 0).1 = p + c := by rw [hs]; try rfl
      have eV : (nuL (tkT ρ tp) 4 p 0).2 = v := by rw [hs]; try rfl
      refine ⟨((ho.u (k := 54) (by decide)).more (by decide)).tr o9, ?_, ?_, ?_, ?_, rfl⟩
      · intro k k1 k2 k3
        rw [a9 k k1, sk_u_at, if_pos rfl, if_neg k3, hg, upd_ne k2]
      · rw [a9 12 (by decide), sk_u_at, if_pos rfl, if_neg (by decide), hg, upd_eq, eP]
      · rw [a9 14 (by decide), sk_u_at, if_pos rfl, if_pos rfl, eP]
        have hc : c = 0 := nI_inj (by omega) (by decide) c54
        rw [bi_t (by omega)]
      · rw [eV]
        exact layQ.cg (ho.u (k := 54) (by decide) 61 (by decide)) (ho.u (k := 54) (by decide) 62 (by decide)) l9
  | m + 1, c, v, g, hc, hpc, ho, hg, hs => by
    have e55 : g 55 = ρ := (ho 55 (by decide)).trans hρ
    have e12 : g 54 12 = nI (p + c) := by rw [hg, upd_eq]
    
    refine sk_S.iload_n (i := 2) (dd DX8_number 4 rfl) rfl rfl ?_
    refine sk_S.iconst (v := 4) (dd DX8_number 5 rfl) (by decide) ?_
    refine sk_S.icmp_ge (tgt := 52) (dd DX8_number 6 rfl) (by decide) (fun c6 => absurd c6 (nI_ge (b := 4) (by omega) (by decide))) (fun c6 => ?_)
    refine sk_S.aload_n (i := 0) (dd DX8_number 7 rfl) rfl rfl ?_
    refine sk_S.callV (dd DX8_number 8 rfl) rfl kX8_116 (cM_look e55 htp ht e12 (by omega)) se_54 (by decide) rfl rfl rfl rfl (Nat.le_of_ble_eq_true rfl) (fun r10 h10 q10 => ?_)
    obtain ⟨rfl, rfl⟩ := q10
    show sk_S _ _ _ _ _ _ (.int _ :: _) _ _
    refine sk_S.bipush (v := 48) (dd DX8_number 9 rfl) (by decide) ?_
    refine sk_S.bipush (v := 57) (dd DX8_number 10 rfl) (by decide) ?_
    refine sk_S.callS (dd DX8_number 11 rfl) rfl kX8_47 cM_in rfl rfl rfl (Nat.le_of_ble_eq_true rfl) (fun r17 h17 q17 => ?_)
    obtain ⟨rfl, rfl⟩ := q17
    show sk_S _ _ _ _ _ _ (.int _ :: _) _ _
    refine sk_S.bif_eq (tgt := 52) (dd DX8_number 12 rfl) (by decide) (fun c20 => ?_) (fun c20 => ?_)
    · refine sk_S.aload_n (i := 0) (dd DX8_number 30 rfl) rfl rfl ?_
      refine sk_S.iload_n (i := 2) (dd DX8_number 31 rfl) rfl rfl ?_
      refine sk_S.if_ne (tgt := 61) (dd DX8_number 32 rfl) (by decide) (fun c54 => ?_) (fun c54 => ?_)
      · refine sk_S.iconst (v := 0) (dd DX8_number 35 rfl) (by decide) ?_
        refine sk_S.putf (dd DX8_number 36 rfl) rfl pX8_120 se_54 (by decide) rfl rfl rfl ?_
        have n9 : sk_u g 54 14 0 54 11 = nI n := by rw [sk_u_at, if_pos rfl, if_neg (by decide), hg, upd_ne (by decide)]; exact hn
        refine sk_S.aload_n (i := 0) (dd DX8_number 37 rfl) rfl rfl ?_
        refine sk_S.iconst (v := 1) (dd DX8_number 38 rfl) (by decide) ?_
        refine sk_S.iload_n (i := 1) (dd DX8_number 39 rfl) rfl rfl ?_
        refine sk_S.callV (dd DX8_number 40 rfl) rfl kX8_124 (cM_lays (n := n) n9 hn60) se_54 (by decide) rfl rfl rfl rfl (Nat.le_of_ble_eq_true rfl) (fun r68 h68 q68 => ?_)
        obtain ⟨o9, a9, l9, rfl⟩ := q68
        show sk_S _ _ _ _ 71 _ _ _ _
        refine sk_S.vret (dd DX8_number 41 rfl) rfl ?_
        have eP : (nuL (tkT ρ tp) 4 p 0).1 = p + c := by rw [hs, nuL_0 c20]; try rfl
        have eV : (nuL (tkT ρ tp) 4 p 0).2 = v := by rw [hs, nuL_0 c20]; try rfl
        refine ⟨((ho.u (k := 54) (by decide)).more (by decide)).tr o9, ?_, ?_, ?_, ?_, rfl⟩
        · intro k k1 k2 k3
          rw [a9 k k1, sk_u_at, if_pos rfl, if_neg k3, hg, upd_ne k2]
        · rw [a9 12 (by decide), sk_u_at, if_pos rfl, if_neg (by decide), hg, upd_eq, eP]
        · rw [a9 14 (by decide), sk_u_at, if_pos rfl, if_pos rfl, eP]
          have hc : ¬ c = 0 := fun q => c54 (by rw [q]; rfl)
          rw [bi_f (by omega)]
        · rw [eV]
          exact layQ.cg (ho.u (k := 54) (by decide) 61 (by decide)) (ho.u (k := 54) (by decide) 62 (by decide)) l9
      · refine sk_S.iconst (v := 1) (dd DX8_number 33 rfl) (by decide) ?_
        refine sk_S.goto (tgt := 62) (dd DX8_number 34 rfl) (by decide) ?_
        refine sk_S.putf (dd DX8_number 36 rfl) rfl pX8_120 se_54 (by decide) rfl rfl rfl ?_
        have n9 : sk_u g 54 14 1 54 11 = nI n := by rw [sk_u_at, if_pos rfl, if_neg (by decide), hg, upd_ne (by decide)]; exact hn
        refine sk_S.aload_n (i := 0) (dd DX8_number 37 rfl) rfl rfl ?_
        refine sk_S.iconst (v := 1) (dd DX8_number 38 rfl) (by decide) ?_
        refine sk_S.iload_n (i := 1) (dd DX8_number 39 rfl) rfl rfl ?_
        refine sk_S.callV (dd DX8_number 40 rfl) rfl kX8_124 (cM_lays (n := n) n9 hn60) se_54 (by decide) rfl rfl rfl rfl (Nat.le_of_ble_eq_true rfl) (fun r68 h68 q68 => ?_)
        obtain ⟨o9, a9, l9, rfl⟩ := q68
        show sk_S _ _ _ _ 71 _ _ _ _
        refine sk_S.vret (dd DX8_number 41 rfl) rfl ?_
        have eP : (nuL (tkT ρ tp) 4 p 0).1 = p + c := by rw [hs, nuL_0 c20]; try rfl
        have eV : (nuL (tkT ρ tp) 4 p 0).2 = v := by rw [hs, nuL_0 c20]; try rfl
        refine ⟨((ho.u (k := 54) (by decide)).more (by decide)).tr o9, ?_, ?_, ?_, ?_, rfl⟩
        · intro k k1 k2 k3
          rw [a9 k k1, sk_u_at, if_pos rfl, if_neg k3, hg, upd_ne k2]
        · rw [a9 12 (by decide), sk_u_at, if_pos rfl, if_neg (by decide), hg, upd_eq, eP]
        · rw [a9 14 (by decide), sk_u_at, if_pos rfl, if_pos rfl, eP]
          have hc : c = 0 := nI_inj (by omega) (by decide) c54
          rw [bi_t (by omega)]
        · rw [eV]
          exact layQ.cg (ho.u (k := 54) (by decide) 61 (by decide)) (ho.u (k := 54) (by decide) 62 (by decide)) l9
    · refine sk_S.bipush (v := 10) (dd DX8_number 13 rfl) (by decide) ?_
      refine sk_S.iload_n (i := 1) (dd DX8_number 14 rfl) rfl rfl ?_
      refine sk_S.imul (dd DX8_number 15 rfl) ?_
      refine sk_S.aload_n (i := 0) (dd DX8_number 16 rfl) rfl rfl ?_
      refine sk_S.callV (dd DX8_number 17 rfl) rfl kX8_116 (cM_look e55 htp ht e12 (by omega)) se_54 (by decide) rfl rfl rfl rfl (Nat.le_of_ble_eq_true rfl) (fun r28 h28 q28 => ?_)
      obtain ⟨rfl, rfl⟩ := q28
      show sk_S _ _ _ _ _ _ (.int _ :: _) _ _
      refine sk_S.iadd (dd DX8_number 18 rfl) ?_
      refine sk_S.bipush (v := 48) (dd DX8_number 19 rfl) (by decide) ?_
      refine sk_S.isub (dd DX8_number 20 rfl) ?_
      refine sk_S.istore_n (i := 1) (dd DX8_number 21 rfl) rfl (Nat.le_of_ble_eq_true rfl) rfl ?_
      refine sk_S.aload_n (i := 0) (dd DX8_number 22 rfl) rfl rfl ?_
      refine sk_S.dup (dd DX8_number 23 rfl) rfl ?_
      refine sk_S.geti (dd DX8_number 24 rfl) rfl fX8_106 se_54 (by decide) rfl ?_
      refine sk_S.iconst (v := 1) (dd DX8_number 25 rfl) (by decide) ?_
      refine sk_S.iadd (dd DX8_number 26 rfl) ?_
      refine sk_S.putf (dd DX8_number 27 rfl) rfl pX8_106 se_54 (by decide) rfl rfl rfl ?_
      refine sk_S.iinc (i := 2) (v := _ + 1) (dd DX8_number 28 rfl) rfl rfl rfl ?_
      refine sk_S.goto (tgt := 4) (dd DX8_number 29 rfl) (by decide) ?_
      have hlt : p + c < tp := by
        apply Nat.lt_of_not_le
        intro q
        have e : tkT ρ tp (p + c) = -1 := if_neg (by omega)
        rw [e] at c20
        exact absurd c20 (by decide)
      refine sk_S.L (lp_number hρ htp ht hp60 hn hn60 m (c + 1) (10 * v + tkT ρ tp (p + c) - 48) _ (by omega) (by omega) (ho.u (by decide)) ?_ ?_) (by rw [nI_succ c]; rfl)
      · rw [sk_u, sk_r_eq, hg, upd_upd, upd_eq, ← Nat.add_assoc, nI_succ]
      · rw [hs, nuL_1 c20]
        rfl
set_option maxRecDepth 100000 in
set_option maxHeartbeats 4000000 in
theorem cM_number {l : Launch} {E : sk_V} {d : Nat} {h : sk_M} {ρ : Nat → Int32} {tp p n : Nat} (hρ : h 55 = ρ) (htp : ρ 7 = nI tp) (ht : tp ≤ 60) (hp60 : p ≤ tp) (hp : h 54 12 = nI p) (hn : h 54 11 = nI n) (hn60 : n ≤ 60) : sk_K l E (d + 1) MX8_number [.ref 54] h (fun r h1 => sk_o [54, 61, 62] h h1 ∧ (∀ k, ¬ k = 11 → ¬ k = 12 → ¬ k = 14 → h1 54 k = h 54 k) ∧ h1 54 12 = nI (nuL (tkT ρ tp) 4 p 0).1 ∧ h1 54 14 = bi ((nuL (tkT ρ tp) 4 p 0).1 = p) ∧ layQ h h1 n 1 (nuL (tkT ρ tp) 4 p 0).2 ∧ none = r) := by
  refine sk_K.of (by decide +kernel) (Nat.le_of_ble_eq_true rfl) ?_
  show sk_S l E (d + 1) _ 0 [some (.ref 54), none, none] [] h _
  refine sk_S.iconst (v := 0) (dd DX8_number 0 rfl) (by decide) ?_
  refine sk_S.istore_n (i := 1) (dd DX8_number 1 rfl) rfl (Nat.le_of_ble_eq_true rfl) rfl ?_
  refine sk_S.iconst (v := 0) (dd DX8_number 2 rfl) (by decide) ?_
  refine sk_S.istore_n (i := 2) (dd DX8_number 3 rfl) rfl (Nat.le_of_ble_eq_true rfl) rfl ?_
  exact lp_number hρ htp ht hp60 hn hn60 4 0 0 h rfl hp60 sk_o.rf (by rw [Nat.add_zero, ← hp, upd_self]) rfl
end M16
