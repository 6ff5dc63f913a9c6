section M10
set_option maxRecDepth 100000 in
set_option maxHeartbeats 4000000 in
theorem lp_soonest {l : Launch} {E : sk_V} {d : Nat} {h : sk_M} {ρ : Nat → Int32} {f n : Int32} {dy : Nat} (hρ : h 55 = ρ) (hdy : ρ 0 = nI dy) (hd9 : dy ≤ 9999) (hb : boI ρ) (hI : lawI ρ 0) : ∀ (m d0 : Nat) (g : sk_M), d0 + m = 61 → sk_o [55, 63, 64] h g → g 55 = upd ρ 0 (nI (dy + d0)) → (soF (soP ρ f n dy) 61 0) = (soF (soP ρ f n dy) m d0) → sk_S l E (d + 5) MX8_soonest 31 [some (.ref 54), some (.int f), some (.int n), some (.int (nI dy)), none] [] g (fun r h1 => ((soF (soP ρ f n dy) 61 0) = 61 ∧ erT h 2 h1 r) ∨ ((soF (soP ρ f n dy) 61 0) ≤ 60 ∧ sk_o [63, 64] h h1 ∧ some (.int (nI (soF (soP ρ f n dy) 61 0))) = r))
  | 0, d0, g, hd, ho, hg, hs => by
    have hd0 : d0 = 61 := by omega
    have hs2 : (soF (soP ρ f n dy) 61 0) = 61 := by rw [hs, hd0]; rfl
    refine sk_S.aload_n (i := 0) (dd DX8_soonest 17 rfl) rfl rfl ?_
    refine sk_S.getr (dd DX8_soonest 18 rfl) rfl fX8_9 se_54 (by decide) rfl ?_
    refine sk_S.iconst (v := 0) (dd DX8_soonest 19 rfl) (by decide) ?_
    refine sk_S.iald (dd DX8_soonest 20 rfl) se_55 (j := 0) ⟨by decide, by decide, by decide⟩ ?_
    refine sk_S.iload_n (i := 3) (dd DX8_soonest 21 rfl) rfl rfl ?_
    refine sk_S.bipush (v := 60) (dd DX8_soonest 22 rfl) (by decide) ?_
    refine sk_S.iadd (dd DX8_soonest 23 rfl) ?_
    refine sk_S.icmp_gt (tgt := 67) (dd DX8_soonest 24 rfl) (by decide) (fun c41 => ?_) (fun c41 => absurd (by rw [hg, upd_eq, hd0]; show nI dy + nI 60 < nI (dy + 61); rw [nI_add]; exact nI_lt (by omega) (by omega)) c41)
    refine sk_S.aload_n (i := 0) (dd DX8_soonest 40 rfl) rfl rfl ?_
    refine sk_S.getr (dd DX8_soonest 41 rfl) rfl fX8_9 se_54 (by decide) rfl ?_
    refine sk_S.iconst (v := 0) (dd DX8_soonest 42 rfl) (by decide) ?_
    refine sk_S.iald (dd DX8_soonest 43 rfl) se_55 (j := 0) ⟨by decide, by decide, by decide⟩ ?_
    refine sk_S.iload_n (i := 3) (dd DX8_soonest 44 rfl) rfl rfl ?_
    refine sk_S.isub (dd DX8_soonest 45 rfl) ?_
    refine sk_S.istore (i := 4) (dd DX8_soonest 46 rfl) (Nat.le_of_ble_eq_true rfl) rfl ?_
    refine sk_S.L (L1 := [some (.ref 54), some (.int f), some (.int n), some (.int (nI dy)), some (.int (nI d0))]) ?_ (by rw [hg, upd_eq, ← nI_add, Int32.add_comm, Int32.add_sub_cancel]; rfl)
    refine sk_S.aload_n (i := 0) (dd DX8_soonest 47 rfl) rfl rfl ?_
    refine sk_S.getr (dd DX8_soonest 48 rfl) rfl fX8_9 se_54 (by decide) rfl ?_
    refine sk_S.iconst (v := 0) (dd DX8_soonest 49 rfl) (by decide) ?_
    refine sk_S.iload_n (i := 3) (dd DX8_soonest 50 rfl) rfl rfl ?_
    refine sk_S.iast (dd DX8_soonest 51 rfl) se_55 (j := 0) ⟨by decide, by decide, by decide⟩ ?_
    have hb2 : sk_o [63, 64] h (sk_u g 55 0 (nI dy)) := back_o (ho.u (by decide)) (by rw [sk_u, sk_r_eq, hg, upd_upd, hρ, ← hdy, upd_self])
    refine sk_S.iload (i := 4) (dd DX8_soonest 52 rfl) rfl ?_
    refine sk_S.bipush (v := 60) (dd DX8_soonest 53 rfl) (by decide) ?_
    refine sk_S.icmp_le (tgt := 100) (dd DX8_soonest 54 rfl) (by decide) (fun c88 => absurd c88 (by rw [hd0]; decide)) (fun c88 => ?_)
    refine sk_S.aload_n (i := 0) (dd DX8_soonest 55 rfl) rfl rfl ?_
    refine sk_S.ldc (dd DX8_soonest 56 rfl) rfl cnX8_190 ?_
    refine sk_S.callV (dd DX8_soonest 57 rfl) rfl kX8_74 (cM_error (k := 2) ⟨by decide, by decide, by decide⟩) se_54 (by decide) rfl rfl rfl rfl (Nat.le_of_ble_eq_true rfl) (fun r94 h94 q94 => ?_)
    obtain ⟨rfl, rfl⟩ := q94
    show sk_S _ _ _ _ _ _ (.int _ :: _) _ _
    refine sk_S.goto (tgt := 102) (dd DX8_soonest 58 rfl) (by decide) ?_
    refine sk_S.iret (dd DX8_soonest 60 rfl) rfl rfl ?_
    exact Or.inl ⟨hs2, _, hb2, rfl, rfl⟩
  | m + 1, d0, g, hd, ho, hg, hs => by
    refine sk_S.aload_n (i := 0) (dd DX8_soonest 17 rfl) rfl rfl ?_
    refine sk_S.getr (dd DX8_soonest 18 rfl) rfl fX8_9 se_54 (by decide) rfl ?_
    refine sk_S.iconst (v := 0) (dd DX8_soonest 19 rfl) (by decide) ?_
    refine sk_S.iald (dd DX8_soonest 20 rfl) se_55 (j := 0) ⟨by decide, by decide, by decide⟩ ?_
    refine sk_S.iload_n (i := 3) (dd DX8_soonest 21 rfl) rfl rfl ?_
    refine sk_S.bipush (v := 60) (dd DX8_soonest 22 rfl) (by decide) ?_
    refine sk_S.iadd (dd DX8_soonest 23 rfl) ?_
    refine sk_S.icmp_gt (tgt := 67) (dd DX8_soonest 24 rfl) (by decide) (fun c41 => absurd c41 (by rw [hg, upd_eq]; show ¬ nI dy + nI 60 < nI (dy + d0); rw [nI_add]; exact nI_nlt (by omega) (by omega))) (fun c41 => ?_)
    refine sk_S.aload_n (i := 0) (dd DX8_soonest 25 rfl) rfl rfl ?_
    refine sk_S.iload_n (i := 1) (dd DX8_soonest 26 rfl) rfl rfl ?_
    refine sk_S.iload_n (i := 2) (dd DX8_soonest 27 rfl) rfl rfl ?_
    refine sk_S.callV (dd DX8_soonest 28 rfl) rfl kX8_66 (cM_catchBy hg (boI_cg (upd_ne (by decide)) hb) (lawI_cg (fun k hk => upd_ne (by omega)) hI)) se_54 (by decide) rfl rfl rfl rfl (Nat.le_of_ble_eq_true rfl) (fun r47 h47 q47 => ?_)
    obtain ⟨o2, rfl⟩ := q47
    rw [catchG_d]
    have e55 := (o2 55 (by decide)).trans hg
    show sk_S _ _ _ _ _ _ (.int _ :: _) _ _
    refine sk_S.iload_n (i := 2) (dd DX8_soonest 29 rfl) rfl rfl ?_
    refine sk_S.icmp_ge (tgt := 67) (dd DX8_soonest 30 rfl) (by decide) (fun c51 => ?_) (fun c51 => ?_)
    · refine sk_S.aload_n (i := 0) (dd DX8_soonest 40 rfl) rfl rfl ?_
      refine sk_S.getr (dd DX8_soonest 41 rfl) rfl fX8_9 se_54 (by decide) rfl ?_
      refine sk_S.iconst (v := 0) (dd DX8_soonest 42 rfl) (by decide) ?_
      refine sk_S.iald (dd DX8_soonest 43 rfl) se_55 (j := 0) ⟨by decide, by decide, by decide⟩ ?_
      refine sk_S.iload_n (i := 3) (dd DX8_soonest 44 rfl) rfl rfl ?_
      refine sk_S.isub (dd DX8_soonest 45 rfl) ?_
      refine sk_S.istore (i := 4) (dd DX8_soonest 46 rfl) (Nat.le_of_ble_eq_true rfl) rfl ?_
      refine sk_S.L (L1 := [some (.ref 54), some (.int f), some (.int n), some (.int (nI dy)), some (.int (nI d0))]) ?_ (by rw [e55, upd_eq, ← nI_add, Int32.add_comm, Int32.add_sub_cancel]; rfl)
      refine sk_S.aload_n (i := 0) (dd DX8_soonest 47 rfl) rfl rfl ?_
      refine sk_S.getr (dd DX8_soonest 48 rfl) rfl fX8_9 se_54 (by decide) rfl ?_
      refine sk_S.iconst (v := 0) (dd DX8_soonest 49 rfl) (by decide) ?_
      refine sk_S.iload_n (i := 3) (dd DX8_soonest 50 rfl) rfl rfl ?_
      refine sk_S.iast (dd DX8_soonest 51 rfl) se_55 (j := 0) ⟨by decide, by decide, by decide⟩ ?_
      have hb2 : sk_o [63, 64] h (sk_u h47 55 0 (nI dy)) := back_o ((ho.tr (o2.more (by decide))).u (by decide)) (by rw [sk_u, sk_r_eq, e55, upd_upd, hρ, ← hdy, upd_self])
      refine sk_S.iload (i := 4) (dd DX8_soonest 52 rfl) rfl ?_
      refine sk_S.bipush (v := 60) (dd DX8_soonest 53 rfl) (by decide) ?_
      refine sk_S.icmp_le (tgt := 100) (dd DX8_soonest 54 rfl) (by decide) (fun c88 => ?_) (fun c88 => absurd (nI_le (b := 60) (by omega) (by omega)) c88)
      refine sk_S.iload (i := 4) (dd DX8_soonest 59 rfl) rfl ?_
      refine sk_S.iret (dd DX8_soonest 60 rfl) rfl rfl ?_
      have eP : soP ρ f n dy d0 = true := by unfold soP; exact decide_eq_true c51
      have hs2 : (soF (soP ρ f n dy) 61 0) = d0 := by
        rw [hs]
        show (if _ then _ else _) = _
        rw [eP]
        rfl
      exact Or.inr ⟨by rw [hs2]; omega, hb2, by rw [hs2]⟩
    · refine sk_S.aload_n (i := 0) (dd DX8_soonest 31 rfl) rfl rfl ?_
      refine sk_S.getr (dd DX8_soonest 32 rfl) rfl fX8_9 se_54 (by decide) rfl ?_
      refine sk_S.iconst (v := 0) (dd DX8_soonest 33 rfl) (by decide) ?_
      refine sk_S.dup2 (dd DX8_soonest 34 rfl) rfl rfl ?_
      refine sk_S.iald (dd DX8_soonest 35 rfl) se_55 (j := 0) ⟨by decide, by decide, by decide⟩ ?_
      refine sk_S.iconst (v := 1) (dd DX8_soonest 36 rfl) (by decide) ?_
      refine sk_S.iadd (dd DX8_soonest 37 rfl) ?_
      refine sk_S.iast (dd DX8_soonest 38 rfl) se_55 (j := 0) ⟨by decide, by decide, by decide⟩ ?_
      refine sk_S.goto (tgt := 31) (dd DX8_soonest 39 rfl) (by decide) ?_
      have eP : soP ρ f n dy d0 = false := by unfold soP; exact decide_eq_false c51
      refine lp_soonest hρ hdy hd9 hb hI m (d0 + 1) _ (by omega) ((ho.tr (o2.more (by decide))).u (by decide)) ?_ ?_
      · rw [sk_u, sk_r_eq, e55, upd_upd, upd_eq, ← Nat.add_assoc, nI_succ]
      · rw [hs]
        show (if _ then _ else _) = _
        rw [eP]
        rfl
set_option maxRecDepth 100000 in
set_option maxHeartbeats 4000000 in
theorem cM_soonest {l : Launch} {E : sk_V} {d : Nat} {h : sk_M} {f n : Int32} {dy : Nat} (hdy : h 55 0 = nI dy) (hd9 : dy ≤ 9999) (hb : boI (h 55)) (hI : lawI (h 55) 0) : sk_K l E (d + 6) MX8_soonest [.ref 54, .int f, .int n] h (fun r h1 => (¬ (inN f 4 ∧ inN n 100) ∧ erM h 1 h1 r) ∨ (inN f 4 ∧ inN n 100 ∧ (((soF (soP (h 55) f n dy) 61 0) = 61 ∧ erT h 2 h1 r) ∨ ((soF (soP (h 55) f n dy) 61 0) ≤ 60 ∧ sk_o [63, 64] h h1 ∧ some (.int (nI (soF (soP (h 55) f n dy) 61 0))) = r)))) := by
  refine sk_K.of (by decide +kernel) (Nat.le_of_ble_eq_true rfl) ?_
  show sk_S l E (d + 6) _ 0 [some (.ref 54), some (.int f), some (.int n), none, none] [] h _
  refine sk_S.iload_n (i := 1) (dd DX8_soonest 0 rfl) rfl rfl ?_
  refine sk_S.callS (dd DX8_soonest 1 rfl) rfl kX8_89 cM_isFish rfl rfl rfl (Nat.le_of_ble_eq_true rfl) (fun r1 h1 q1 => ?_)
  obtain ⟨rfl, rfl⟩ := q1
  show sk_S _ _ _ _ _ _ (.int _ :: _) _ _
  refine sk_S.bif_eq (tgt := 17) (dd DX8_soonest 2 rfl) (by decide) (fun c4 => ?_) (fun c4 => ?_)
  · refine sk_S.aload_n (i := 0) (dd DX8_soonest 8 rfl) rfl rfl ?_
    refine sk_S.ldc (dd DX8_soonest 9 rfl) rfl cnX8_73 ?_
    refine sk_S.callV (dd DX8_soonest 10 rfl) rfl kX8_74 (cM_error (k := 1) ⟨by decide, by decide, by decide⟩) se_54 (by decide) rfl rfl rfl rfl (Nat.le_of_ble_eq_true rfl) (fun r20 h20 q20 => ?_)
    obtain ⟨rfl, rfl⟩ := q20
    show sk_S _ _ _ _ _ _ (.int _ :: _) _ _
    refine sk_S.iret (dd DX8_soonest 11 rfl) rfl rfl ?_
    exact Or.inl ⟨fun q => c4 ((inN_le (by decide)).mpr q.1), rfl, rfl⟩
  · refine sk_S.iload_n (i := 2) (dd DX8_soonest 3 rfl) rfl rfl ?_
    refine sk_S.iconst (v := 0) (dd DX8_soonest 4 rfl) (by decide) ?_
    refine sk_S.bipush (v := 99) (dd DX8_soonest 5 rfl) (by decide) ?_
    refine sk_S.callS (dd DX8_soonest 6 rfl) rfl kX8_47 cM_in rfl rfl rfl (Nat.le_of_ble_eq_true rfl) (fun r11 h11 q11 => ?_)
    obtain ⟨rfl, rfl⟩ := q11
    show sk_S _ _ _ _ _ _ (.int _ :: _) _ _
    refine sk_S.bif_ne (tgt := 24) (dd DX8_soonest 7 rfl) (by decide) (fun c14 => ?_) (fun c14 => ?_)
    · refine sk_S.aload_n (i := 0) (dd DX8_soonest 12 rfl) rfl rfl ?_
      refine sk_S.getr (dd DX8_soonest 13 rfl) rfl fX8_9 se_54 (by decide) rfl ?_
      refine sk_S.iconst (v := 0) (dd DX8_soonest 14 rfl) (by decide) ?_
      refine sk_S.iald (dd DX8_soonest 15 rfl) se_55 (j := 0) ⟨by decide, by decide, by decide⟩ ?_
      refine sk_S.istore_n (i := 3) (dd DX8_soonest 16 rfl) rfl (Nat.le_of_ble_eq_true rfl) rfl ?_
      rw [hdy]
      refine sk_S.mono (lp_soonest rfl hdy hd9 hb hI 61 0 h rfl sk_o.rf (by rw [Nat.add_zero, ← hdy, upd_self]) rfl) ?_
      intro r h1 q
      exact Or.inr ⟨(inN_le (by decide)).mp c4, (inN_le (by decide)).mp c14, q⟩
    · refine sk_S.aload_n (i := 0) (dd DX8_soonest 8 rfl) rfl rfl ?_
      refine sk_S.ldc (dd DX8_soonest 9 rfl) rfl cnX8_73 ?_
      refine sk_S.callV (dd DX8_soonest 10 rfl) rfl kX8_74 (cM_error (k := 1) ⟨by decide, by decide, by decide⟩) se_54 (by decide) rfl rfl rfl rfl (Nat.le_of_ble_eq_true rfl) (fun r20 h20 q20 => ?_)
      obtain ⟨rfl, rfl⟩ := q20
      show sk_S _ _ _ _ _ _ (.int _ :: _) _ _
      refine sk_S.iret (dd DX8_soonest 11 rfl) rfl rfl ?_
      exact Or.inl ⟨fun q => c14 ((inN_le (by decide)).mpr q.2), rfl, rfl⟩
set_option maxRecDepth 100000 in
set_option maxHeartbeats 4000000 in
theorem lp_copy {l : Launch} {E : sk_V} {d : Nat} {h : sk_M} {x y : Nat} (hx : sk_e x = (0, 0, 361, [])) (hy : sk_e y = (0, 0, 361, [])) (hxy : x ≠ y) : ∀ (m i : Nat) (g : sk_M), i + m = 361 → sk_o [y] h g → g y = cpyN (h x) (h y) i → sk_S l E (d + 0) MX8_copyAll 2 [some (.ref x), some (.ref y), some (.int (nI i))] [] g (fun r h1 => sk_o [y] h h1 ∧ h1 y = cpyN (h x) (h y) 361 ∧ none = r)
  | 0, i, g, hi, ho, hg => by
    have hi0 : i = 361 := by omega
    subst hi0
    refine sk_S.iload_n (i := 2) (dd DX8_copyAll 2 rfl) rfl rfl ?_
    refine sk_S.sipush (v := 361) (dd DX8_copyAll 3 rfl) (by decide) ?_
    refine sk_S.icmp_ge (tgt := 21) (dd DX8_copyAll 4 rfl) (by decide) (fun c6 => ?_) (fun c6 => absurd (by decide) c6)
    refine sk_S.vret (dd DX8_copyAll 13 rfl) rfl ?_
    exact ⟨ho, hg, rfl⟩
  | m + 1, i, g, hi, ho, hg => by
    have ex : g x = h x := ho x (by simp [hxy])
    refine sk_S.iload_n (i := 2) (dd DX8_copyAll 2 rfl) rfl rfl ?_
    refine sk_S.sipush (v := 361) (dd DX8_copyAll 3 rfl) (by decide) ?_
    refine sk_S.icmp_ge (tgt := 21) (dd DX8_copyAll 4 rfl) (by decide) (fun c6 => absurd c6 (nI_ge (b := 361) (by omega) (by decide))) (fun c6 => ?_)
    refine sk_S.aload_n (i := 1) (dd DX8_copyAll 5 rfl) rfl rfl ?_
    refine sk_S.iload_n (i := 2) (dd DX8_copyAll 6 rfl) rfl rfl ?_
    refine sk_S.aload_n (i := 0) (dd DX8_copyAll 7 rfl) rfl rfl ?_
    refine sk_S.iload_n (i := 2) (dd DX8_copyAll 8 rfl) rfl rfl ?_
    refine sk_S.iald (dd DX8_copyAll 9 rfl) hx (sk_ix_nI (k := i) rfl (by omega) (by decide)) ?_
    refine sk_S.iast (dd DX8_copyAll 10 rfl) hy (sk_ix_nI (k := i) rfl (by omega) (by decide)) ?_
    refine sk_S.iinc (i := 2) (v := _ + 1) (dd DX8_copyAll 11 rfl) rfl rfl rfl ?_
    refine sk_S.goto (tgt := 2) (dd DX8_copyAll 12 rfl) (by decide) ?_
    exact sk_S.L (lp_copy hx hy hxy m (i + 1) _ (by omega) (ho.u (by simp)) (by rw [sk_u, sk_r_eq, hg, ex, cpyN_s])) (by rw [nI_succ]; rfl)
set_option maxRecDepth 100000 in
set_option maxHeartbeats 4000000 in
theorem cM_copyAll {l : Launch} {E : sk_V} {d : Nat} {h : sk_M} {x y : Nat} (hx : sk_e x = (0, 0, 361, [])) (hy : sk_e y = (0, 0, 361, [])) (hxy : x ≠ y)  : sk_K l E (d + 0) MX8_copyAll [.ref x, .ref y] h (fun r h1 => sk_o [y] h h1 ∧ h1 y = cpyN (h x) (h y) 361 ∧ none = r) := by
  refine sk_K.of (by decide +kernel) (Nat.le_of_ble_eq_true rfl) ?_
  show sk_S l E (d + 0) _ 0 [some (.ref x), some (.ref y), none] [] h _
  refine sk_S.iconst (v := 0) (dd DX8_copyAll 0 rfl) (by decide) ?_
  refine sk_S.istore_n (i := 2) (dd DX8_copyAll 1 rfl) rfl (Nat.le_of_ble_eq_true rfl) rfl ?_
  exact lp_copy hx hy hxy 361 0 h rfl sk_o.rf cpyN_0.symm
set_option maxRecDepth 100000 in
set_option maxHeartbeats 4000000 in
theorem cM_image {l : Launch} {E : sk_V} {d : Nat} {h : sk_M}   : sk_K l E (d + 1) MX8_image [.ref 54] h (fun r h1 => sk_o [54, 56] h h1 ∧ h1 56 = cpyN (h 55) (h 56) 361 ∧ h1 54 = upd (h 54) 2 (h 54 2 + 1) ∧ some (.int (h 54 2 + 1)) = r) := by
  refine sk_K.of (by decide +kernel) (Nat.le_of_ble_eq_true rfl) ?_
  show sk_S l E (d + 1) _ 0 [some (.ref 54)] [] h _
  refine sk_S.aload_n (i := 0) (dd DX8_image 0 rfl) rfl rfl ?_
  refine sk_S.getr (dd DX8_image 1 rfl) rfl fX8_9 se_54 (by decide) rfl ?_
  refine sk_S.aload_n (i := 0) (dd DX8_image 2 rfl) rfl rfl ?_
  refine sk_S.getr (dd DX8_image 3 rfl) rfl fX8_13 se_54 (by decide) rfl ?_
  refine sk_S.callS (dd DX8_image 4 rfl) rfl kX8_253 (cM_copyAll (x := 55) (y := 56) se_55 se_56 (by decide)) rfl rfl rfl (Nat.le_of_ble_eq_true rfl) (fun r8 h8 q8 => ?_)
  obtain ⟨ho, e56, rfl⟩ := q8
  have e54 : h8 54 = h 54 := ho 54 (by decide)
  show sk_S _ _ _ _ 11 _ _ _ _
  refine sk_S.aload_n (i := 0) (dd DX8_image 5 rfl) rfl rfl ?_
  refine sk_S.dup (dd DX8_image 6 rfl) rfl ?_
  refine sk_S.geti (dd DX8_image 7 rfl) rfl fX8_257 se_54 (by decide) rfl ?_
  refine sk_S.iconst (v := 1) (dd DX8_image 8 rfl) (by decide) ?_
  refine sk_S.iadd (dd DX8_image 9 rfl) ?_
  refine sk_S.putf (dd DX8_image 10 rfl) rfl pX8_257 se_54 (by decide) rfl rfl rfl ?_
  refine sk_S.aload_n (i := 0) (dd DX8_image 11 rfl) rfl rfl ?_
  refine sk_S.geti (dd DX8_image 12 rfl) rfl fX8_257 se_54 (by decide) rfl ?_
  refine sk_S.iret (dd DX8_image 13 rfl) rfl rfl ?_
  refine ⟨(ho.more (by decide)).u (by decide), (sk_r_ne _ _ (by decide)).trans e56, ?_, ?_⟩
  · rw [sk_u, sk_r_eq, e54]
  · rw [sk_u_at, if_pos rfl, if_pos rfl, e54]
set_option maxRecDepth 100000 in
set_option maxHeartbeats 4000000 in
theorem cM_restore {l : Launch} {E : sk_V} {d : Nat} {h : sk_M}   : sk_K l E (d + 1) MX8_restore [.ref 54] h (fun r h1 => (h 54 2 = 0 ∧ erM h 2 h1 r) ∨ (¬ h 54 2 = 0 ∧ sk_o [55] h h1 ∧ h1 55 = cpyN (h 56) (h 55) 361 ∧ some (.int (h 56 0)) = r)) := by
  refine sk_K.of (by decide +kernel) (Nat.le_of_ble_eq_true rfl) ?_
  show sk_S l E (d + 1) _ 0 [some (.ref 54)] [] h _
  refine sk_S.aload_n (i := 0) (dd DX8_restore 0 rfl) rfl rfl ?_
  refine sk_S.geti (dd DX8_restore 1 rfl) rfl fX8_257 se_54 (by decide) rfl ?_
  refine sk_S.if_ne (tgt := 14) (dd DX8_restore 2 rfl) (by decide) (fun c4 => ?_) (fun c4 => ?_)
  · refine sk_S.aload_n (i := 0) (dd DX8_restore 7 rfl) rfl rfl ?_
    refine sk_S.getr (dd DX8_restore 8 rfl) rfl fX8_13 se_54 (by decide) rfl ?_
    refine sk_S.aload_n (i := 0) (dd DX8_restore 9 rfl) rfl rfl ?_
    refine sk_S.getr (dd DX8_restore 10 rfl) rfl fX8_9 se_54 (by decide) rfl ?_
    refine sk_S.callS (dd DX8_restore 11 rfl) rfl kX8_253 (cM_copyAll (x := 56) (y := 55) se_56 se_55 (by decide)) rfl rfl rfl (Nat.le_of_ble_eq_true rfl) (fun r22 h22 q22 => ?_)
    obtain ⟨ho, e55, rfl⟩ := q22
    show sk_S _ _ _ _ 25 _ _ _ _
    refine sk_S.aload_n (i := 0) (dd DX8_restore 12 rfl) rfl rfl ?_
    refine sk_S.getr (dd DX8_restore 13 rfl) rfl fX8_9 se_54 (by decide) rfl ?_
    refine sk_S.iconst (v := 0) (dd DX8_restore 14 rfl) (by decide) ?_
    refine sk_S.iald (dd DX8_restore 15 rfl) se_55 (j := 0) ⟨by decide, by decide, by decide⟩ ?_
    refine sk_S.iret (dd DX8_restore 16 rfl) rfl rfl ?_
    refine Or.inr ⟨c4, ho, e55, ?_⟩
    rw [e55]
    rfl
  · refine sk_S.aload_n (i := 0) (dd DX8_restore 3 rfl) rfl rfl ?_
    refine sk_S.ldc (dd DX8_restore 4 rfl) rfl cnX8_190 ?_
    refine sk_S.callV (dd DX8_restore 5 rfl) rfl kX8_74 (cM_error (k := 2) ⟨by decide, by decide, by decide⟩) se_54 (by decide) rfl rfl rfl rfl (Nat.le_of_ble_eq_true rfl) (fun r10 h10 q10 => ?_)
    obtain ⟨rfl, rfl⟩ := q10
    show sk_S _ _ _ _ _ _ (.int _ :: _) _ _
    refine sk_S.iret (dd DX8_restore 6 rfl) rfl rfl ?_
    exact Or.inl ⟨c4, rfl, rfl⟩
set_option maxRecDepth 100000 in
set_option maxHeartbeats 4000000 in
theorem lp_check {l : Launch} {E : sk_V} {d : Nat} {ρ : Nat → Int32} {n : Nat} (hn : n ≤ 24) : ∀ (m i : Nat) (g : sk_M), i + m = n → g 55 = upd ρ 8 0 → (soF (chP ρ) n 0) = (soF (chP ρ) m i) → sk_S l E (d + 2) MX8_check 18 [some (.ref 54), some (.int (nI n)), some (.int (nI i))] [] g (fun r h1 => g = h1 ∧ some (.int (chV ρ n (soF (chP ρ) n 0))) = r)
  | 0, i, g, hi, hg, hs => by
    have hin : i = n := by omega
    refine sk_S.iload_n (i := 2) (dd DX8_check 12 rfl) rfl rfl ?_
    refine sk_S.iload_n (i := 1) (dd DX8_check 13 rfl) rfl rfl ?_
    refine sk_S.icmp_ge (tgt := 61) (dd DX8_check 14 rfl) (by decide) (fun c20 => ?_) (fun c20 => absurd (by rw [hin]; exact Int32.le_refl _) c20)
    refine sk_S.iconst (v := 0) (dd DX8_check 37 rfl) (by decide) ?_
    refine sk_S.iret (dd DX8_check 38 rfl) rfl rfl ?_
    refine ⟨rfl, ?_⟩
    rw [hs]
    show some (Value.int (if i < n then _ else _)) = _
    rw [if_neg (by omega)]
  | m + 1, i, g, hi, hg, hs => by
    refine sk_S.iload_n (i := 2) (dd DX8_check 12 rfl) rfl rfl ?_
    refine sk_S.iload_n (i := 1) (dd DX8_check 13 rfl) rfl rfl ?_
    refine sk_S.icmp_ge (tgt := 61) (dd DX8_check 14 rfl) (by decide) (fun c20 => absurd c20 (nI_ge (by omega) (by omega))) (fun c20 => ?_)
    refine sk_S.iload_n (i := 2) (dd DX8_check 15 rfl) rfl rfl ?_
    refine sk_S.callS (dd DX8_check 16 rfl) rfl kX8_89 cM_isFish rfl rfl rfl (Nat.le_of_ble_eq_true rfl) (fun r24 h24 q24 => ?_)
    obtain ⟨rfl, rfl⟩ := q24
    show sk_S _ _ _ _ _ _ (.int _ :: _) _ _
    refine sk_S.bif_eq (tgt := 51) (dd DX8_check 17 rfl) (by decide) (fun c27 => ?_) (fun c27 => ?_)
    · refine sk_S.iconst (v := 1) (dd DX8_check 31 rfl) (by decide) ?_
      refine sk_S.iload_n (i := 2) (dd DX8_check 32 rfl) rfl rfl ?_
      refine sk_S.iadd (dd DX8_check 33 rfl) ?_
      refine sk_S.iret (dd DX8_check 34 rfl) rfl rfl ?_
      have eP : chP ρ i = true := by
        unfold chP
        apply decide_eq_true
        rintro ⟨q1, q2⟩
        exact c27 ⟨nI_pos' (by omega), nI_le (b := 3) (by omega) (by decide)⟩
      refine ⟨rfl, ?_⟩
      have e9 : (soF (chP ρ) n 0) = i := by
        rw [hs]
        show (if _ then _ else _) = _
        rw [eP]
        rfl
      rw [e9]
      unfold chV
      rw [if_pos (by omega), ← nI_add]
      rfl
    · have hi4 : i < 4 := by
        have h2 : nI i ≤ nI 3 := c27.2
        rw [nI_leI (by omega) (by decide)] at h2
        omega
      refine sk_S.aload_n (i := 0) (dd DX8_check 18 rfl) rfl rfl ?_
      refine sk_S.getr (dd DX8_check 19 rfl) rfl fX8_9 se_54 (by decide) rfl ?_
      refine sk_S.bipush (v := 95) (dd DX8_check 20 rfl) (by decide) ?_
      refine sk_S.iload_n (i := 2) (dd DX8_check 21 rfl) rfl rfl ?_
      refine sk_S.iadd (dd DX8_check 22 rfl) ?_
      refine sk_S.iald (dd DX8_check 23 rfl) se_55 (sk_ix_e (k := 95 + i) (ix_add 95 i) (by omega) (by decide)) ?_
      refine sk_S.aload_n (i := 0) (dd DX8_check 24 rfl) rfl rfl ?_
      refine sk_S.getr (dd DX8_check 25 rfl) rfl fX8_9 se_54 (by decide) rfl ?_
      refine sk_S.bipush (v := 9) (dd DX8_check 26 rfl) (by decide) ?_
      refine sk_S.iload_n (i := 2) (dd DX8_check 27 rfl) rfl rfl ?_
      refine sk_S.iadd (dd DX8_check 28 rfl) ?_
      refine sk_S.iald (dd DX8_check 29 rfl) se_55 (sk_ix_e (k := 9 + i) (ix_add 9 i) (by omega) (by decide)) ?_
      refine sk_S.icmp_eq (tgt := 55) (dd DX8_check 30 rfl) (by decide) (fun c48 => ?_) (fun c48 => ?_)
      · refine sk_S.iinc (i := 2) (v := _ + 1) (dd DX8_check 35 rfl) rfl rfl rfl ?_
        refine sk_S.goto (tgt := 18) (dd DX8_check 36 rfl) (by decide) ?_
        have e9 : (soF (chP ρ) n 0) = (soF (chP ρ) m (i + 1)) := by
          rw [hs]
          show (if _ then _ else _) = _
          have eP : chP ρ i = false := by
            unfold chP
            apply decide_eq_false
            intro q
            apply q
            rw [hg, upd_ne (by omega), upd_ne (by omega)] at c48
            exact ⟨hi4, c48⟩
          rw [eP]
          rfl
        exact sk_S.L (lp_check hn m (i + 1) g (by omega) hg e9) (by rw [nI_succ]; rfl)
      · refine sk_S.iconst (v := 1) (dd DX8_check 31 rfl) (by decide) ?_
        refine sk_S.iload_n (i := 2) (dd DX8_check 32 rfl) rfl rfl ?_
        refine sk_S.iadd (dd DX8_check 33 rfl) ?_
        refine sk_S.iret (dd DX8_check 34 rfl) rfl rfl ?_
        have eP : chP ρ i = true := by
          unfold chP
          apply decide_eq_true
          rintro ⟨q1, q2⟩
          rw [hg, upd_ne (by omega), upd_ne (by omega)] at c48
          exact c48 q2
        refine ⟨rfl, ?_⟩
        have e9 : (soF (chP ρ) n 0) = i := by
          rw [hs]
          show (if _ then _ else _) = _
          rw [eP]
          rfl
        rw [e9]
        unfold chV
        rw [if_pos (by omega), ← nI_add]
        rfl
set_option maxRecDepth 100000 in
set_option maxHeartbeats 4000000 in
theorem cM_check {l : Launch} {E : sk_V} {d : Nat} {h : sk_M} {n : Nat} (hn : h 55 8 = nI n) (hn24 : n ≤ 24) : sk_K l E (d + 2) MX8_check [.ref 54] h (fun r h1 => sk_u h 55 8 0 = h1 ∧ some (.int (chV (h 55) n (soF (chP (h 55)) n 0))) = r) := by
  refine sk_K.of (by decide +kernel) (Nat.le_of_ble_eq_true rfl) ?_
  show sk_S l E (d + 2) _ 0 [some (.ref 54), none, none] [] h _
  refine sk_S.aload_n (i := 0) (dd DX8_check 0 rfl) rfl rfl ?_
  refine sk_S.getr (dd DX8_check 1 rfl) rfl fX8_9 se_54 (by decide) rfl ?_
  refine sk_S.bipush (v := 8) (dd DX8_check 2 rfl) (by decide) ?_
  refine sk_S.iald (dd DX8_check 3 rfl) se_55 (j := 8) ⟨by decide, by decide, by decide⟩ ?_
  refine sk_S.istore_n (i := 1) (dd DX8_check 4 rfl) rfl (Nat.le_of_ble_eq_true rfl) rfl ?_
  refine sk_S.aload_n (i := 0) (dd DX8_check 5 rfl) rfl rfl ?_
  refine sk_S.getr (dd DX8_check 6 rfl) rfl fX8_9 se_54 (by decide) rfl ?_
  refine sk_S.bipush (v := 8) (dd DX8_check 7 rfl) (by decide) ?_
  refine sk_S.iconst (v := 0) (dd DX8_check 8 rfl) (by decide) ?_
  refine sk_S.iast (dd DX8_check 9 rfl) se_55 (j := 8) ⟨by decide, by decide, by decide⟩ ?_
  refine sk_S.iconst (v := 0) (dd DX8_check 10 rfl) (by decide) ?_
  refine sk_S.istore_n (i := 2) (dd DX8_check 11 rfl) rfl (Nat.le_of_ble_eq_true rfl) rfl ?_
  rw [hn]
  exact lp_check hn24 n 0 _ (Nat.zero_add _) (sk_r_eq _ _ _) rfl
set_option maxRecDepth 100000 in
set_option maxHeartbeats 4000000 in
theorem lp_bits {l : Launch} {E : sk_V} {d : Nat} {h : sk_M} {x0 : Int32} : ∀ (m s n : Nat), s ≤ m → s < 64 → sk_S l E (d + 0) MX8_bits 4 [some (.int x0), some (.int (nI n)), some (.int (nI s))] [] h (fun r h1 => h = h1 ∧ some (.int (nI (n + pcN s))) = r)
  | 0, s, n, hs, h64 => by
    have hs0 : s = 0 := by omega
    subst hs0
    refine sk_S.iload_n (i := 2) (dd DX8_bits 4 rfl) rfl rfl ?_
    refine sk_S.if_eq (tgt := 20) (dd DX8_bits 5 rfl) (by decide) (fun c5 => ?_) (fun c5 => absurd nI_0 c5)
    refine sk_S.iload_n (i := 1) (dd DX8_bits 14 rfl) rfl rfl ?_
    refine sk_S.iret (dd DX8_bits 15 rfl) rfl rfl ?_
    exact ⟨rfl, rfl⟩
  | m + 1, s, n, hs, h64 => by
    refine sk_S.iload_n (i := 2) (dd DX8_bits 4 rfl) rfl rfl ?_
    refine sk_S.if_eq (tgt := 20) (dd DX8_bits 5 rfl) (by decide) (fun c5 => ?_) (fun c5 => ?_)
    · refine sk_S.iload_n (i := 1) (dd DX8_bits 14 rfl) rfl rfl ?_
      refine sk_S.iret (dd DX8_bits 15 rfl) rfl rfl ?_
      have hs0 : s = 0 := by
        have h2 : nI s = nI 0 := c5
        exact (nI_eq (by omega) (by decide)).mp h2
      subst hs0
      exact ⟨rfl, rfl⟩
    · refine sk_S.iinc (i := 1) (v := _ + 1) (dd DX8_bits 6 rfl) rfl rfl rfl ?_
      refine sk_S.iload_n (i := 2) (dd DX8_bits 7 rfl) rfl rfl ?_
      refine sk_S.iload_n (i := 2) (dd DX8_bits 8 rfl) rfl rfl ?_
      refine sk_S.iconst (v := 1) (dd DX8_bits 9 rfl) (by decide) ?_
      refine sk_S.isub (dd DX8_bits 10 rfl) ?_
      refine sk_S.iand (dd DX8_bits 11 rfl) ?_
      refine sk_S.istore_n (i := 2) (dd DX8_bits 12 rfl) rfl (Nat.le_of_ble_eq_true rfl) rfl ?_
      refine sk_S.goto (tgt := 4) (dd DX8_bits 13 rfl) (by decide) ?_
      have hp : 0 < s := by
        apply Nat.pos_of_ne_zero
        intro q
        apply c5
        rw [q]
        rfl
      obtain ⟨a1, a2, a3⟩ := pcN_s s h64 hp
      rw [a3, show n + (pcN (s &&& (s - 1)) + 1) = n + 1 + pcN (s &&& (s - 1)) from by omega]
      exact sk_S.L (lp_bits m (s &&& (s - 1)) (n + 1) (by omega) (by omega)) (by rw [← a1, nI_succ]; rfl)
set_option maxRecDepth 100000 in
set_option maxHeartbeats 4000000 in
theorem cM_bits {l : Launch} {E : sk_V} {d : Nat} {h : sk_M} {s : Nat} (h64 : s < 64) : sk_K l E (d + 0) MX8_bits [.int (nI s)] h (fun r h1 => h = h1 ∧ some (.int (nI (pcN s))) = r) := by
  refine sk_K.of (by decide +kernel) (Nat.le_of_ble_eq_true rfl) ?_
  show sk_S l E (d + 0) _ 0 [some (.int (nI s)), none, none] [] h _
  refine sk_S.iconst (v := 0) (dd DX8_bits 0 rfl) (by decide) ?_
  refine sk_S.istore_n (i := 1) (dd DX8_bits 1 rfl) rfl (Nat.le_of_ble_eq_true rfl) rfl ?_
  refine sk_S.iload_n (i := 0) (dd DX8_bits 2 rfl) rfl rfl ?_
  refine sk_S.istore_n (i := 2) (dd DX8_bits 3 rfl) rfl (Nat.le_of_ble_eq_true rfl) rfl ?_
  rw [← Nat.zero_add (pcN s)]
  exact lp_bits s s 0 (Nat.le_refl _) h64
set_option maxRecDepth 100000 in
set_option maxHeartbeats 4000000 in
theorem lp_isE2 {l : Launch} {E : sk_V} {d : Nat} {h : sk_M} {ρ : Nat → Int32} {s f : Nat} {i0 : Option Value} {Q : Option Value → sk_M → Prop} (hf : f < 4) (hρ : h 55 = ρ) (hb : boI ρ) (kk : ∀ x5 : Option Value, sk_S l E (d + 0) MX8_isEnough 66 [some (.ref 54), some (.int (nI s)), i0, some (.int (nI f)), some (.int (setS (fun b f => h 65 (4 * b + f)) s f (boN ρ))), x5] [] h Q) : ∀ (m b : Nat), b + m = boN ρ → sk_S l E (d + 0) MX8_isEnough 19 [some (.ref 54), some (.int (nI s)), i0, some (.int (nI f)), some (.int (setS (fun b f => h 65 (4 * b + f)) s f b)), some (.int (nI b))] [] h (fun r h1 => Q r h1)
  | 0, b, hbm => by
    have hbn : b = boN ρ := by omega
    subst hbn
    refine sk_S.iload (i := 5) (dd DX8_isEnough 13 rfl) rfl ?_
    refine sk_S.aload_n (i := 0) (dd DX8_isEnough 14 rfl) rfl rfl ?_
    refine sk_S.getr (dd DX8_isEnough 15 rfl) rfl fX8_9 se_54 (by decide) rfl ?_
    refine sk_S.iconst (v := 2) (dd DX8_isEnough 16 rfl) (by decide) ?_
    refine sk_S.iald (dd DX8_isEnough 17 rfl) se_55 (j := 2) ⟨by decide, by decide, by decide⟩ ?_
    refine sk_S.icmp_ge (tgt := 66) (dd DX8_isEnough 18 rfl) (by decide) (fun c27 => ?_) (fun c27 => absurd (by rw [hρ, hb.1]; exact Int32.le_refl _) c27)
    exact kk _
  | m + 1, b, hbm => by
    have hb6 := hb.2
    refine sk_S.iload (i := 5) (dd DX8_isEnough 13 rfl) rfl ?_
    refine sk_S.aload_n (i := 0) (dd DX8_isEnough 14 rfl) rfl rfl ?_
    refine sk_S.getr (dd DX8_isEnough 15 rfl) rfl fX8_9 se_54 (by decide) rfl ?_
    refine sk_S.iconst (v := 2) (dd DX8_isEnough 16 rfl) (by decide) ?_
    refine sk_S.iald (dd DX8_isEnough 17 rfl) se_55 (j := 2) ⟨by decide, by decide, by decide⟩ ?_
    refine sk_S.icmp_ge (tgt := 66) (dd DX8_isEnough 18 rfl) (by decide) (fun c27 => absurd c27 (by rw [hρ, hb.1]; exact nI_ge (by omega) (by omega))) (fun c27 => ?_)
    refine sk_S.iload (i := 4) (dd DX8_isEnough 19 rfl) rfl ?_
    refine sk_S.iload_n (i := 1) (dd DX8_isEnough 20 rfl) rfl rfl ?_
    refine sk_S.iload (i := 5) (dd DX8_isEnough 21 rfl) rfl ?_
    refine sk_S.ishr (dd DX8_isEnough 22 rfl) ?_
    refine sk_S.iconst (v := 1) (dd DX8_isEnough 23 rfl) (by decide) ?_
    refine sk_S.iand (dd DX8_isEnough 24 rfl) ?_
    refine sk_S.iconst (v := 1) (dd DX8_isEnough 25 rfl) (by decide) ?_
    refine sk_S.icmp_ne (tgt := 56) (dd DX8_isEnough 26 rfl) (by decide) (fun c39 => ?_) (fun c39 => ?_)
    · refine sk_S.iconst (v := 0) (dd DX8_isEnough 36 rfl) (by decide) ?_
      refine sk_S.iadd (dd DX8_isEnough 37 rfl) ?_
      refine sk_S.istore (i := 4) (dd DX8_isEnough 38 rfl) (Nat.le_of_ble_eq_true rfl) rfl ?_
      refine sk_S.iinc (i := 5) (v := _ + 1) (dd DX8_isEnough 39 rfl) rfl rfl rfl ?_
      refine sk_S.goto (tgt := 19) (dd DX8_isEnough 40 rfl) (by decide) ?_
      refine sk_S.L (lp_isE2 hf hρ hb kk m (b + 1) (by omega)) ?_
      have e9 : setS (fun b f => h 65 (4 * b + f)) s f (b + 1) = setS (fun b f => h 65 (4 * b + f)) s f b + 0 := by
        show sumN _ b + (if _ then _ else _) = _
        rw [if_neg c39]
        rfl
      rw [e9, nI_succ]
      rfl
    · refine sk_S.aload_n (i := 0) (dd DX8_isEnough 27 rfl) rfl rfl ?_
      refine sk_S.getr (dd DX8_isEnough 28 rfl) rfl fX8_40 se_54 (by decide) rfl ?_
      refine sk_S.iconst (v := 4) (dd DX8_isEnough 29 rfl) (by decide) ?_
      refine sk_S.iload (i := 5) (dd DX8_isEnough 30 rfl) rfl ?_
      refine sk_S.imul (dd DX8_isEnough 31 rfl) ?_
      refine sk_S.iload_n (i := 3) (dd DX8_isEnough 32 rfl) rfl rfl ?_
      refine sk_S.iadd (dd DX8_isEnough 33 rfl) ?_
      refine sk_S.iald (dd DX8_isEnough 34 rfl) se_65 (sk_ix_e (k := 4 * b + f) (by show nI 4 * nI b + nI f = _; rw [nI_mul, nI_add]) (by omega) (by decide)) ?_
      refine sk_S.goto (tgt := 57) (dd DX8_isEnough 35 rfl) (by decide) ?_
      refine sk_S.iadd (dd DX8_isEnough 37 rfl) ?_
      refine sk_S.istore (i := 4) (dd DX8_isEnough 38 rfl) (Nat.le_of_ble_eq_true rfl) rfl ?_
      refine sk_S.iinc (i := 5) (v := _ + 1) (dd DX8_isEnough 39 rfl) rfl rfl rfl ?_
      refine sk_S.goto (tgt := 19) (dd DX8_isEnough 40 rfl) (by decide) ?_
      refine sk_S.L (lp_isE2 hf hρ hb kk m (b + 1) (by omega)) ?_
      have e9 : setS (fun b f => h 65 (4 * b + f)) s f (b + 1) = setS (fun b f => h 65 (4 * b + f)) s f b + h 65 (4 * b + f) := by
        show sumN _ b + (if _ then _ else _) = _
        rw [if_pos c39]
        rfl
      rw [e9, nI_succ]
      rfl
set_option maxRecDepth 100000 in
set_option maxHeartbeats 4000000 in
theorem lp_isE0 {l : Launch} {E : sk_V} {d : Nat} {h : sk_M} {ρ : Nat → Int32} {s f : Nat} {x4 x5 : Option Value} (hs : ¬ setE ρ (fun b f => h 65 (4 * b + f)) s 4) : sk_S l E (d + 0) MX8_isEnough 4 [some (.ref 54), some (.int (nI s)), some (.int 0), some (.int (nI f + 1)), x4, x5] [] h (fun r h1 => h = h1 ∧ ((setE ρ (fun b f => h 65 (4 * b + f)) s 4 ∧ some (.int 1) = r) ∨ (¬ setE ρ (fun b f => h 65 (4 * b + f)) s 4 ∧ some (.int 0) = r))) := by
  refine sk_S.iload_n (i := 3) (dd DX8_isEnough 4 rfl) rfl rfl ?_
  refine sk_S.iconst (v := 4) (dd DX8_isEnough 5 rfl) (by decide) ?_
  refine sk_S.icmp_ge (tgt := 92) (dd DX8_isEnough 6 rfl) (by decide) (fun c6 => ?_) (fun c6 => ?_)
  · refine sk_S.iload_n (i := 2) (dd DX8_isEnough 55 rfl) rfl rfl ?_
    refine sk_S.iret (dd DX8_isEnough 56 rfl) rfl rfl ?_
    exact ⟨rfl, Or.inr ⟨hs, rfl⟩⟩
  · refine sk_S.iload_n (i := 2) (dd DX8_isEnough 7 rfl) rfl rfl ?_
    refine sk_S.if_eq (tgt := 92) (dd DX8_isEnough 8 rfl) (by decide) (fun c10 => ?_) (fun c10 => absurd rfl c10)
    refine sk_S.iload_n (i := 2) (dd DX8_isEnough 55 rfl) rfl rfl ?_
    refine sk_S.iret (dd DX8_isEnough 56 rfl) rfl rfl ?_
    exact ⟨rfl, Or.inr ⟨hs, rfl⟩⟩
set_option maxRecDepth 100000 in
set_option maxHeartbeats 4000000 in
theorem lp_isE1 {l : Launch} {E : sk_V} {d : Nat} {h : sk_M} {ρ : Nat → Int32} {s : Nat} (hρ : h 55 = ρ) (hb : boI ρ) : ∀ (m f : Nat) (x4 x5 : Option Value), f + m = 4 → setE ρ (fun b f => h 65 (4 * b + f)) s f → sk_S l E (d + 0) MX8_isEnough 4 [some (.ref 54), some (.int (nI s)), some (.int 1), some (.int (nI f)), x4, x5] [] h (fun r h1 => h = h1 ∧ ((setE ρ (fun b f => h 65 (4 * b + f)) s 4 ∧ some (.int 1) = r) ∨ (¬ setE ρ (fun b f => h 65 (4 * b + f)) s 4 ∧ some (.int 0) = r)))
  | 0, f, x4, x5, hf, hs => by
    have hf4 : f = 4 := by omega
    subst hf4
    refine sk_S.iload_n (i := 3) (dd DX8_isEnough 4 rfl) rfl rfl ?_
    refine sk_S.iconst (v := 4) (dd DX8_isEnough 5 rfl) (by decide) ?_
    refine sk_S.icmp_ge (tgt := 92) (dd DX8_isEnough 6 rfl) (by decide) (fun c6 => ?_) (fun c6 => absurd (by decide) c6)
    refine sk_S.iload_n (i := 2) (dd DX8_isEnough 55 rfl) rfl rfl ?_
    refine sk_S.iret (dd DX8_isEnough 56 rfl) rfl rfl ?_
    exact ⟨rfl, Or.inl ⟨hs, rfl⟩⟩
  | m + 1, f, x4, x5, hf, hs => by
    refine sk_S.iload_n (i := 3) (dd DX8_isEnough 4 rfl) rfl rfl ?_
    refine sk_S.iconst (v := 4) (dd DX8_isEnough 5 rfl) (by decide) ?_
    refine sk_S.icmp_ge (tgt := 92) (dd DX8_isEnough 6 rfl) (by decide) (fun c6 => absurd c6 (nI_ge (b := 4) (by omega) (by decide))) (fun c6 => ?_)
    refine sk_S.iload_n (i := 2) (dd DX8_isEnough 7 rfl) rfl rfl ?_
    refine sk_S.if_eq (tgt := 92) (dd DX8_isEnough 8 rfl) (by decide) (fun c10 => absurd c10 (by decide)) (fun c10 => ?_)
    refine sk_S.iconst (v := 0) (dd DX8_isEnough 9 rfl) (by decide) ?_
    refine sk_S.istore (i := 4) (dd DX8_isEnough 10 rfl) (Nat.le_of_ble_eq_true rfl) rfl ?_
    refine sk_S.iconst (v := 0) (dd DX8_isEnough 11 rfl) (by decide) ?_
    refine sk_S.istore (i := 5) (dd DX8_isEnough 12 rfl) (Nat.le_of_ble_eq_true rfl) rfl ?_
    refine lp_isE2 (by omega) hρ hb (fun y5 => ?_) (boN ρ) 0 (Nat.zero_add _)
    refine sk_S.iload (i := 4) (dd DX8_isEnough 41 rfl) rfl ?_
    refine sk_S.aload_n (i := 0) (dd DX8_isEnough 42 rfl) rfl rfl ?_
    refine sk_S.getr (dd DX8_isEnough 43 rfl) rfl fX8_9 se_54 (by decide) rfl ?_
    refine sk_S.bipush (v := 9) (dd DX8_isEnough 44 rfl) (by decide) ?_
    refine sk_S.iload_n (i := 3) (dd DX8_isEnough 45 rfl) rfl rfl ?_
    refine sk_S.iadd (dd DX8_isEnough 46 rfl) ?_
    refine sk_S.iald (dd DX8_isEnough 47 rfl) se_55 (sk_ix_e (k := 9 + f) (ix_add 9 f) (by omega) (by decide)) ?_
    refine sk_S.icmp_lt (tgt := 84) (dd DX8_isEnough 48 rfl) (by decide) (fun c77 => ?_) (fun c77 => ?_)
    · have c77x : ¬ ρ (9 + f) ≤ setS (fun b f => h 65 (4 * b + f)) s f (boN ρ) := by rw [hρ] at c77; exact Int32.not_le.mpr c77
      refine sk_S.iconst (v := 0) (dd DX8_isEnough 51 rfl) (by decide) ?_
      refine sk_S.istore_n (i := 2) (dd DX8_isEnough 52 rfl) rfl (Nat.le_of_ble_eq_true rfl) rfl ?_
      refine sk_S.iinc (i := 3) (v := _ + 1) (dd DX8_isEnough 53 rfl) rfl rfl rfl ?_
      refine sk_S.goto (tgt := 4) (dd DX8_isEnough 54 rfl) (by decide) ?_
      exact lp_isE0 (fun q => c77x (setE_dn (by omega) (by omega) q).2)
    · refine sk_S.iconst (v := 1) (dd DX8_isEnough 49 rfl) (by decide) ?_
      refine sk_S.goto (tgt := 85) (dd DX8_isEnough 50 rfl) (by decide) ?_
      refine sk_S.istore_n (i := 2) (dd DX8_isEnough 52 rfl) rfl (Nat.le_of_ble_eq_true rfl) rfl ?_
      refine sk_S.iinc (i := 3) (v := _ + 1) (dd DX8_isEnough 53 rfl) rfl rfl rfl ?_
      refine sk_S.goto (tgt := 4) (dd DX8_isEnough 54 rfl) (by decide) ?_
      exact sk_S.L (lp_isE1 hρ hb m (f + 1) _ _ (by omega) ⟨hs, by rw [hρ] at c77; exact Int32.not_lt.mp c77⟩) (by rw [nI_succ]; rfl)
set_option maxRecDepth 100000 in
set_option maxHeartbeats 4000000 in
theorem cM_isEnough {l : Launch} {E : sk_V} {d : Nat} {h : sk_M} {ρ : Nat → Int32} {s : Nat} (hρ : h 55 = ρ) (hb : boI ρ) : sk_K l E (d + 0) MX8_isEnough [.ref 54, .int (nI s)] h (fun r h1 => h = h1 ∧ some (.int (@bi (setE ρ (fun b f => h 65 (4 * b + f)) s 4) (Classical.propDecidable _))) = r) := by
  refine sk_K.of (by decide +kernel) (Nat.le_of_ble_eq_true rfl) ?_
  show sk_S l E (d + 0) _ 0 [some (.ref 54), some (.int (nI s)), none, none, none, none] [] h _
  refine sk_S.iconst (v := 1) (dd DX8_isEnough 0 rfl) (by decide) ?_
  refine sk_S.istore_n (i := 2) (dd DX8_isEnough 1 rfl) rfl (Nat.le_of_ble_eq_true rfl) rfl ?_
  refine sk_S.iconst (v := 0) (dd DX8_isEnough 2 rfl) (by decide) ?_
  refine sk_S.istore_n (i := 3) (dd DX8_isEnough 3 rfl) rfl (Nat.le_of_ble_eq_true rfl) rfl ?_
  refine sk_S.mono (lp_isE1 hρ hb 4 0 none none rfl trivial) ?_
  rintro r h1 ⟨rfl, (⟨q, rfl⟩ | ⟨q, rfl⟩)⟩
  · exact ⟨rfl, by rw [@bi_t _ (Classical.propDecidable _) q]⟩
  · exact ⟨rfl, by rw [@bi_f _ (Classical.propDecidable _) q]⟩
set_option maxRecDepth 100000 in
set_option maxHeartbeats 4000000 in
theorem lp_needs {l : Launch} {E : sk_V} {d : Nat} {h g : sk_M} {ρ : Nat → Int32} {w : Int32} (hρ : h 55 = ρ) (hb : boI ρ) (ho : sk_o [63, 64, 65] h g) (hf : ∀ q, q < 4 * boN ρ → g 65 q = lndX ρ (q / 4) (q % 4)) : ∀ (m s : Nat) (x4 : Option Value), s + m = 2 ^ boN ρ → sk_S l E (d + 1) MX8_needs 67 [some (.ref 54), some (.int w), some (.int (ndI (ndN ρ (lndX ρ) s))), some (.int (nI s)), x4] [] g (fun r h1 => (¬ (ndN ρ (lndX ρ) (2 ^ boN ρ) = 64) ∧ sk_o [63, 64, 65] h h1 ∧ some (.int (if w = 0 then nI (pcN (ndN ρ (lndX ρ) (2 ^ boN ρ))) else nI (ndN ρ (lndX ρ) (2 ^ boN ρ)))) = r) ∨ (ndN ρ (lndX ρ) (2 ^ boN ρ) = 64 ∧ ∃ g, sk_o [63, 64, 65] h g ∧ erM g 2 h1 r))
  | 0, s, x4, hs => by
    have e55 : g 55 = ρ := (ho 55 (by decide)).trans hρ
    have hb6 := hb.2
    have hp := pow_nb hb6
    have hss : s = 2 ^ boN ρ := by omega
    have hle := (ndN_le (g := ρ) (X := lndX ρ) s)
    refine sk_S.iload_n (i := 3) (dd DX8_needs 45 rfl) rfl rfl ?_
    refine sk_S.iconst (v := 1) (dd DX8_needs 46 rfl) (by decide) ?_
    refine sk_S.aload_n (i := 0) (dd DX8_needs 47 rfl) rfl rfl ?_
    refine sk_S.getr (dd DX8_needs 48 rfl) rfl fX8_9 se_54 (by decide) rfl ?_
    refine sk_S.iconst (v := 2) (dd DX8_needs 49 rfl) (by decide) ?_
    refine sk_S.iald (dd DX8_needs 50 rfl) se_55 (j := 2) ⟨by decide, by decide, by decide⟩ ?_
    refine sk_S.ishl (dd DX8_needs 51 rfl) ?_
    refine sk_S.icmp_ge (tgt := 126) (dd DX8_needs 52 rfl) (by decide) (fun c76 => ?_) (fun c76 => absurd (by rw [e55, hb.1, shl_nb _ hb6, hss]; exact Int32.le_refl _) c76)
    refine sk_S.iload_n (i := 2) (dd DX8_needs 76 rfl) rfl rfl ?_
    refine sk_S.if_ge (tgt := 139) (dd DX8_needs 77 rfl) (by decide) (fun c127 => ?_) (fun c127 => ?_)
    · have h64 : ¬ (ndN ρ (lndX ρ) s) = 64 := fun q => by rw [ndI_neg q] at c127; exact absurd c127 (by decide)
      rw [ndI_pos h64]
      refine sk_S.iload_n (i := 1) (dd DX8_needs 82 rfl) rfl rfl ?_
      refine sk_S.if_ne (tgt := 150) (dd DX8_needs 83 rfl) (by decide) (fun c140 => ?_) (fun c140 => ?_)
      · refine sk_S.iload_n (i := 2) (dd DX8_needs 87 rfl) rfl rfl ?_
        refine sk_S.iret (dd DX8_needs 88 rfl) rfl rfl ?_
        subst hss
        exact Or.inl ⟨h64, ho, by rw [if_neg c140]⟩
      · refine sk_S.iload_n (i := 2) (dd DX8_needs 84 rfl) rfl rfl ?_
        refine sk_S.callS (dd DX8_needs 85 rfl) rfl kX8_191 (cM_bits (s := (ndN ρ (lndX ρ) s)) (by omega)) rfl rfl rfl (Nat.le_of_ble_eq_true rfl) (fun r144 h144 q144 => ?_)
        obtain ⟨rfl, rfl⟩ := q144
        show sk_S _ _ _ _ _ _ (.int _ :: _) _ _
        refine sk_S.goto (tgt := 151) (dd DX8_needs 86 rfl) (by decide) ?_
        refine sk_S.iret (dd DX8_needs 88 rfl) rfl rfl ?_
        subst hss
        exact Or.inl ⟨h64, ho, by rw [if_pos c140]⟩
    · refine sk_S.aload_n (i := 0) (dd DX8_needs 78 rfl) rfl rfl ?_
      refine sk_S.ldc (dd DX8_needs 79 rfl) rfl cnX8_190 ?_
      refine sk_S.callV (dd DX8_needs 80 rfl) rfl kX8_74 (cM_error (k := 2) ⟨by decide, by decide, by decide⟩) se_54 (by decide) rfl rfl rfl rfl (Nat.le_of_ble_eq_true rfl) (fun r133 h133 q133 => ?_)
      obtain ⟨rfl, rfl⟩ := q133
      show sk_S _ _ _ _ _ _ (.int _ :: _) _ _
      refine sk_S.goto (tgt := 151) (dd DX8_needs 81 rfl) (by decide) ?_
      refine sk_S.iret (dd DX8_needs 88 rfl) rfl rfl ?_
      subst hss
      refine Or.inr ⟨?_, g, ho, rfl, rfl⟩
      apply Decidable.byContradiction
      intro q
      rw [ndI_pos q] at c127
      exact c127 (nI_pos' (by omega))
  | m + 1, s, x4, hs => by
    have e55 : g 55 = ρ := (ho 55 (by decide)).trans hρ
    have hb6 := hb.2
    have hp := pow_nb hb6
    have hle := (ndN_le (g := ρ) (X := lndX ρ) s)
    have hE : setE ρ (fun b f => g 65 (4 * b + f)) s 4 ↔ setE ρ (lndX ρ) s 4 := setE_cg (fun b f hb2 hf2 => by rw [hf _ (by omega)]; congr 1 <;> omega) 4 (by omega)
    refine sk_S.iload_n (i := 3) (dd DX8_needs 45 rfl) rfl rfl ?_
    refine sk_S.iconst (v := 1) (dd DX8_needs 46 rfl) (by decide) ?_
    refine sk_S.aload_n (i := 0) (dd DX8_needs 47 rfl) rfl rfl ?_
    refine sk_S.getr (dd DX8_needs 48 rfl) rfl fX8_9 se_54 (by decide) rfl ?_
    refine sk_S.iconst (v := 2) (dd DX8_needs 49 rfl) (by decide) ?_
    refine sk_S.iald (dd DX8_needs 50 rfl) se_55 (j := 2) ⟨by decide, by decide, by decide⟩ ?_
    refine sk_S.ishl (dd DX8_needs 51 rfl) ?_
    refine sk_S.icmp_ge (tgt := 126) (dd DX8_needs 52 rfl) (by decide) (fun c76 => absurd c76 (by rw [e55, hb.1, shl_nb _ hb6]; exact nI_ge (by omega) (by omega))) (fun c76 => ?_)
    refine sk_S.iload_n (i := 2) (dd DX8_needs 53 rfl) rfl rfl ?_
    refine sk_S.if_lt (tgt := 94) (dd DX8_needs 54 rfl) (by decide) (fun c80 => ?_) (fun c80 => ?_)
    · refine sk_S.iconst (v := 1) (dd DX8_needs 60 rfl) (by decide) ?_
      refine sk_S.goto (tgt := 99) (dd DX8_needs 61 rfl) (by decide) ?_
      refine sk_S.istore (i := 4) (dd DX8_needs 63 rfl) (Nat.le_of_ble_eq_true rfl) rfl ?_
      refine sk_S.iload (i := 4) (dd DX8_needs 64 rfl) rfl ?_
      refine sk_S.if_eq (tgt := 118) (dd DX8_needs 65 rfl) (by decide) (fun c103 => absurd c103 (by decide)) (fun c103 => ?_)
      refine sk_S.aload_n (i := 0) (dd DX8_needs 66 rfl) rfl rfl ?_
      refine sk_S.iload_n (i := 3) (dd DX8_needs 67 rfl) rfl rfl ?_
      refine sk_S.callV (dd DX8_needs 68 rfl) rfl kX8_194 (cM_isEnough e55 hb) se_54 (by decide) rfl rfl rfl rfl (Nat.le_of_ble_eq_true rfl) (fun r108 h108 q108 => ?_)
      obtain ⟨rfl, rfl⟩ := q108
      show sk_S _ _ _ _ _ _ (.int _ :: _) _ _
      refine sk_S.bic_eq (tgt := 118) (dd DX8_needs 69 rfl) (by decide) (fun c111 => ?_) (fun c111 => ?_)
      · refine sk_S.iload_n (i := 2) (dd DX8_needs 72 rfl) rfl rfl ?_
        refine sk_S.istore_n (i := 2) (dd DX8_needs 73 rfl) rfl (Nat.le_of_ble_eq_true rfl) rfl ?_
        refine sk_S.iinc (i := 3) (v := _ + 1) (dd DX8_needs 74 rfl) rfl rfl rfl ?_
        refine sk_S.goto (tgt := 67) (dd DX8_needs 75 rfl) (by decide) ?_
        refine sk_S.L (lp_needs hρ hb ho hf m (s + 1) (some (.int 1)) (by omega)) ?_
        rw [ndN_0 (fun q => c111 (hE.mpr q.2)), nI_succ s]
        rfl
      · refine sk_S.iload_n (i := 3) (dd DX8_needs 70 rfl) rfl rfl ?_
        refine sk_S.goto (tgt := 119) (dd DX8_needs 71 rfl) (by decide) ?_
        refine sk_S.istore_n (i := 2) (dd DX8_needs 73 rfl) rfl (Nat.le_of_ble_eq_true rfl) rfl ?_
        refine sk_S.iinc (i := 3) (v := _ + 1) (dd DX8_needs 74 rfl) rfl rfl rfl ?_
        refine sk_S.goto (tgt := 67) (dd DX8_needs 75 rfl) (by decide) ?_
        refine sk_S.L (lp_needs hρ hb ho hf m (s + 1) (some (.int 1)) (by omega)) ?_
        rw [ndN_1 ⟨Or.inl (nd80 (by omega) c80), hE.mp c111⟩, ndI_pos (n := s) (by omega), nI_succ s]
        rfl
    · have h64 : ¬ (ndN ρ (lndX ρ) s) = 64 := fun q => by rw [ndI_neg q] at c80; exact absurd c80 (by decide)
      rw [ndI_pos h64]
      refine sk_S.iload_n (i := 3) (dd DX8_needs 55 rfl) rfl rfl ?_
      refine sk_S.callS (dd DX8_needs 56 rfl) rfl kX8_191 (cM_bits (s := s) (by omega)) rfl rfl rfl (Nat.le_of_ble_eq_true rfl) (fun r84 h84 q84 => ?_)
      obtain ⟨rfl, rfl⟩ := q84
      show sk_S _ _ _ _ _ _ (.int _ :: _) _ _
      refine sk_S.iload_n (i := 2) (dd DX8_needs 57 rfl) rfl rfl ?_
      refine sk_S.callS (dd DX8_needs 58 rfl) rfl kX8_191 (cM_bits (s := (ndN ρ (lndX ρ) s)) (by omega)) rfl rfl rfl (Nat.le_of_ble_eq_true rfl) (fun r88 h88 q88 => ?_)
      obtain ⟨rfl, rfl⟩ := q88
      show sk_S _ _ _ _ _ _ (.int _ :: _) _ _
      refine sk_S.icmp_ge (tgt := 98) (dd DX8_needs 59 rfl) (by decide) (fun c91 => ?_) (fun c91 => ?_)
      · refine sk_S.iconst (v := 0) (dd DX8_needs 62 rfl) (by decide) ?_
        refine sk_S.istore (i := 4) (dd DX8_needs 63 rfl) (Nat.le_of_ble_eq_true rfl) rfl ?_
        refine sk_S.iload (i := 4) (dd DX8_needs 64 rfl) rfl ?_
        refine sk_S.if_eq (tgt := 118) (dd DX8_needs 65 rfl) (by decide) (fun c103 => ?_) (fun c103 => absurd rfl c103)
        refine sk_S.iload_n (i := 2) (dd DX8_needs 72 rfl) rfl rfl ?_
        refine sk_S.istore_n (i := 2) (dd DX8_needs 73 rfl) rfl (Nat.le_of_ble_eq_true rfl) rfl ?_
        refine sk_S.iinc (i := 3) (v := _ + 1) (dd DX8_needs 74 rfl) rfl rfl rfl ?_
        refine sk_S.goto (tgt := 67) (dd DX8_needs 75 rfl) (by decide) ?_
        refine sk_S.L (lp_needs hρ hb ho hf m (s + 1) (some (.int 0)) (by omega)) ?_
        rw [ndN_0 (fun q => q.1.elim h64 (nd91n (by omega) c91 (by omega))), nI_succ s, ndI_pos h64]
        rfl
      · refine sk_S.iconst (v := 1) (dd DX8_needs 60 rfl) (by decide) ?_
        refine sk_S.goto (tgt := 99) (dd DX8_needs 61 rfl) (by decide) ?_
        refine sk_S.istore (i := 4) (dd DX8_needs 63 rfl) (Nat.le_of_ble_eq_true rfl) rfl ?_
        refine sk_S.iload (i := 4) (dd DX8_needs 64 rfl) rfl ?_
        refine sk_S.if_eq (tgt := 118) (dd DX8_needs 65 rfl) (by decide) (fun c103 => absurd c103 (by decide)) (fun c103 => ?_)
        refine sk_S.aload_n (i := 0) (dd DX8_needs 66 rfl) rfl rfl ?_
        refine sk_S.iload_n (i := 3) (dd DX8_needs 67 rfl) rfl rfl ?_
        refine sk_S.callV (dd DX8_needs 68 rfl) rfl kX8_194 (cM_isEnough e55 hb) se_54 (by decide) rfl rfl rfl rfl (Nat.le_of_ble_eq_true rfl) (fun r108 h108 q108 => ?_)
        obtain ⟨rfl, rfl⟩ := q108
        show sk_S _ _ _ _ _ _ (.int _ :: _) _ _
        refine sk_S.bic_eq (tgt := 118) (dd DX8_needs 69 rfl) (by decide) (fun c111 => ?_) (fun c111 => ?_)
        · refine sk_S.iload_n (i := 2) (dd DX8_needs 72 rfl) rfl rfl ?_
          refine sk_S.istore_n (i := 2) (dd DX8_needs 73 rfl) rfl (Nat.le_of_ble_eq_true rfl) rfl ?_
          refine sk_S.iinc (i := 3) (v := _ + 1) (dd DX8_needs 74 rfl) rfl rfl rfl ?_
          refine sk_S.goto (tgt := 67) (dd DX8_needs 75 rfl) (by decide) ?_
          refine sk_S.L (lp_needs hρ hb ho hf m (s + 1) (some (.int 1)) (by omega)) ?_
          rw [ndN_0 (fun q => c111 (hE.mpr q.2)), nI_succ s, ndI_pos h64]
          rfl
        · refine sk_S.iload_n (i := 3) (dd DX8_needs 70 rfl) rfl rfl ?_
          refine sk_S.goto (tgt := 119) (dd DX8_needs 71 rfl) (by decide) ?_
          refine sk_S.istore_n (i := 2) (dd DX8_needs 73 rfl) rfl (Nat.le_of_ble_eq_true rfl) rfl ?_
          refine sk_S.iinc (i := 3) (v := _ + 1) (dd DX8_needs 74 rfl) rfl rfl rfl ?_
          refine sk_S.goto (tgt := 67) (dd DX8_needs 75 rfl) (by decide) ?_
          refine sk_S.L (lp_needs hρ hb ho hf m (s + 1) (some (.int 1)) (by omega)) ?_
          rw [ndN_1 ⟨Or.inr (nd91 (by omega) (by omega) c91), hE.mp c111⟩, ndI_pos (n := s) (by omega), nI_succ s]
          rfl
set_option maxRecDepth 100000 in
set_option maxHeartbeats 4000000 in
theorem lp_fill {l : Launch} {E : sk_V} {d : Nat} {h : sk_M} {ρ : Nat → Int32} {w : Int32} (hρ : h 55 = ρ) (hb : boI ρ) (hI : lawI ρ 0) : ∀ (m k : Nat) (g : sk_M), k + m = 4 * boN ρ → sk_o [63, 64, 65] h g → (∀ q, q < k → g 65 q = lndX ρ (q / 4) (q % 4)) → sk_S l E (d + 4) MX8_needs 18 [some (.ref 54), some (.int w), some (.int (nI k)), none, none] [] g (fun r h1 => (¬ (ndN ρ (lndX ρ) (2 ^ boN ρ) = 64) ∧ sk_o [63, 64, 65] h h1 ∧ some (.int (if w = 0 then nI (pcN (ndN ρ (lndX ρ) (2 ^ boN ρ))) else nI (ndN ρ (lndX ρ) (2 ^ boN ρ)))) = r) ∨ (ndN ρ (lndX ρ) (2 ^ boN ρ) = 64 ∧ ∃ g, sk_o [63, 64, 65] h g ∧ erM g 2 h1 r))
  | 0, k, g, hk, ho, hf => by
    have e55 : g 55 = ρ := (ho 55 (by decide)).trans hρ
    have hb6 := hb.2
    have hkk : k = 4 * boN ρ := by omega
    refine sk_S.iload_n (i := 2) (dd DX8_needs 11 rfl) rfl rfl ?_
    refine sk_S.iconst (v := 4) (dd DX8_needs 12 rfl) (by decide) ?_
    refine sk_S.aload_n (i := 0) (dd DX8_needs 13 rfl) rfl rfl ?_
    refine sk_S.getr (dd DX8_needs 14 rfl) rfl fX8_9 se_54 (by decide) rfl ?_
    refine sk_S.iconst (v := 2) (dd DX8_needs 15 rfl) (by decide) ?_
    refine sk_S.iald (dd DX8_needs 16 rfl) se_55 (j := 2) ⟨by decide, by decide, by decide⟩ ?_
    refine sk_S.imul (dd DX8_needs 17 rfl) ?_
    refine sk_S.icmp_ge (tgt := 63) (dd DX8_needs 18 rfl) (by decide) (fun c27 => ?_) (fun c27 => absurd (by rw [e55, hb.1, hkk]; show nI 4 * _ ≤ _; rw [nI_mul]; exact Int32.le_refl _) c27)
    refine sk_S.iconst (v := -1) (dd DX8_needs 41 rfl) (by decide) ?_
    refine sk_S.istore_n (i := 2) (dd DX8_needs 42 rfl) rfl (Nat.le_of_ble_eq_true rfl) rfl ?_
    refine sk_S.iconst (v := 0) (dd DX8_needs 43 rfl) (by decide) ?_
    refine sk_S.istore_n (i := 3) (dd DX8_needs 44 rfl) rfl (Nat.le_of_ble_eq_true rfl) rfl ?_
    exact lp_needs hρ hb ho (fun q hq => hf q (by omega)) (2 ^ boN ρ) 0 none (Nat.zero_add _)
  | m + 1, k, g, hk, ho, hf => by
    have e55 : g 55 = ρ := (ho 55 (by decide)).trans hρ
    have hb6 := hb.2
    refine sk_S.iload_n (i := 2) (dd DX8_needs 11 rfl) rfl rfl ?_
    refine sk_S.iconst (v := 4) (dd DX8_needs 12 rfl) (by decide) ?_
    refine sk_S.aload_n (i := 0) (dd DX8_needs 13 rfl) rfl rfl ?_
    refine sk_S.getr (dd DX8_needs 14 rfl) rfl fX8_9 se_54 (by decide) rfl ?_
    refine sk_S.iconst (v := 2) (dd DX8_needs 15 rfl) (by decide) ?_
    refine sk_S.iald (dd DX8_needs 16 rfl) se_55 (j := 2) ⟨by decide, by decide, by decide⟩ ?_
    refine sk_S.imul (dd DX8_needs 17 rfl) ?_
    refine sk_S.icmp_ge (tgt := 63) (dd DX8_needs 18 rfl) (by decide) (fun c27 => absurd c27 (by rw [e55, hb.1]; show ¬ nI 4 * _ ≤ _; rw [nI_mul]; exact nI_ge (by omega) (by omega))) (fun c27 => ?_)
    refine sk_S.aload_n (i := 0) (dd DX8_needs 19 rfl) rfl rfl ?_
    refine sk_S.getr (dd DX8_needs 20 rfl) rfl fX8_40 se_54 (by decide) rfl ?_
    refine sk_S.iload_n (i := 2) (dd DX8_needs 21 rfl) rfl rfl ?_
    refine sk_S.aload_n (i := 0) (dd DX8_needs 22 rfl) rfl rfl ?_
    refine sk_S.iload_n (i := 2) (dd DX8_needs 23 rfl) rfl rfl ?_
    refine sk_S.iconst (v := 4) (dd DX8_needs 24 rfl) (by decide) ?_
    refine sk_S.idiv (dd DX8_needs 25 rfl) (by decide) ?_
    rw [div_4 (by omega)]
    refine sk_S.iload_n (i := 2) (dd DX8_needs 26 rfl) rfl rfl ?_
    refine sk_S.iconst (v := 4) (dd DX8_needs 27 rfl) (by decide) ?_
    refine sk_S.irem (dd DX8_needs 28 rfl) (by decide) ?_
    rw [rem_4 (by omega)]
    refine sk_S.aload_n (i := 0) (dd DX8_needs 29 rfl) rfl rfl ?_
    refine sk_S.getr (dd DX8_needs 30 rfl) rfl fX8_9 se_54 (by decide) rfl ?_
    refine sk_S.bipush (v := 9) (dd DX8_needs 31 rfl) (by decide) ?_
    refine sk_S.iload_n (i := 2) (dd DX8_needs 32 rfl) rfl rfl ?_
    refine sk_S.iconst (v := 4) (dd DX8_needs 33 rfl) (by decide) ?_
    refine sk_S.irem (dd DX8_needs 34 rfl) (by decide) ?_
    refine sk_S.iadd (dd DX8_needs 35 rfl) ?_
    refine sk_S.iald (dd DX8_needs 36 rfl) se_55 (sk_ix_e (k := 9 + k % 4) (by rw [rem_4 (by omega)]; exact ix_add 9 _) (by omega) (by decide)) ?_
    refine sk_S.callV (dd DX8_needs 37 rfl) rfl kX8_62 (cM_landsOf (j := k / 4) (f := nI (k % 4)) (by omega) e55 hI) se_54 (by decide) rfl rfl rfl rfl (Nat.le_of_ble_eq_true rfl) (fun r53 h53 q53 => ?_)
    obtain ⟨o2, rfl⟩ := q53
    show sk_S _ _ _ _ _ _ (.int _ :: _) _ _
    refine sk_S.iast (dd DX8_needs 38 rfl) se_65 (sk_ix_nI (k := k) rfl (by omega) (by decide)) ?_
    refine sk_S.iinc (i := 2) (v := _ + 1) (dd DX8_needs 39 rfl) rfl rfl rfl ?_
    refine sk_S.goto (tgt := 18) (dd DX8_needs 40 rfl) (by decide) ?_
    refine sk_S.L (lp_fill hρ hb hI m (k + 1) _ (by omega) ((ho.tr (o2.more (by decide))).u (by decide)) ?_) (by rw [nI_succ]; rfl)
    intro q hq
    rw [sk_u_at, if_pos rfl]
    by_cases e : q = k
    · rw [if_pos e, e, e55]
      rfl
    · rw [if_neg e, o2 65 (by decide)]
      exact hf q (by omega)
set_option maxRecDepth 100000 in
set_option maxHeartbeats 4000000 in
theorem cM_needs {l : Launch} {E : sk_V} {d : Nat} {h : sk_M} {w : Int32} (hb : boI (h 55)) (hI : lawI (h 55) 0) : sk_K l E (d + 4) MX8_needs [.ref 54, .int w] h (fun r h1 => (¬ inN w 2 ∧ erM h 1 h1 r) ∨ (inN w 2 ∧ ((¬ (ndN (h 55) (lndX (h 55)) (2 ^ boN (h 55)) = 64) ∧ sk_o [63, 64, 65] h h1 ∧ some (.int (if w = 0 then nI (pcN (ndN (h 55) (lndX (h 55)) (2 ^ boN (h 55)))) else nI (ndN (h 55) (lndX (h 55)) (2 ^ boN (h 55))))) = r) ∨ (ndN (h 55) (lndX (h 55)) (2 ^ boN (h 55)) = 64 ∧ ∃ g, sk_o [63, 64, 65] h g ∧ erM g 2 h1 r)))) := by
  refine sk_K.of (by decide +kernel) (Nat.le_of_ble_eq_true rfl) ?_
  show sk_S l E (d + 4) _ 0 [some (.ref 54), some (.int w), none, none, none] [] h _
  refine sk_S.iload_n (i := 1) (dd DX8_needs 0 rfl) rfl rfl ?_
  refine sk_S.iconst (v := 0) (dd DX8_needs 1 rfl) (by decide) ?_
  refine sk_S.iconst (v := 1) (dd DX8_needs 2 rfl) (by decide) ?_
  refine sk_S.callS (dd DX8_needs 3 rfl) rfl kX8_47 cM_in rfl rfl rfl (Nat.le_of_ble_eq_true rfl) (fun r3 h3 q3 => ?_)
  obtain ⟨rfl, rfl⟩ := q3
  show sk_S _ _ _ _ _ _ (.int _ :: _) _ _
  refine sk_S.bif_ne (tgt := 16) (dd DX8_needs 4 rfl) (by decide) (fun c6 => ?_) (fun c6 => ?_)
  · refine sk_S.iconst (v := 0) (dd DX8_needs 9 rfl) (by decide) ?_
    refine sk_S.istore_n (i := 2) (dd DX8_needs 10 rfl) rfl (Nat.le_of_ble_eq_true rfl) rfl ?_
    refine sk_S.mono (lp_fill rfl hb hI (4 * boN (h 55)) 0 h (Nat.zero_add _) sk_o.rf (fun q hq => absurd hq (Nat.not_lt_zero _))) ?_
    intro r h1 q
    exact Or.inr ⟨(inN_le (by decide)).mp c6, q⟩
  · refine sk_S.aload_n (i := 0) (dd DX8_needs 5 rfl) rfl rfl ?_
    refine sk_S.ldc (dd DX8_needs 6 rfl) rfl cnX8_73 ?_
    refine sk_S.callV (dd DX8_needs 7 rfl) rfl kX8_74 (cM_error (k := 1) ⟨by decide, by decide, by decide⟩) se_54 (by decide) rfl rfl rfl rfl (Nat.le_of_ble_eq_true rfl) (fun r12 h12 q12 => ?_)
    obtain ⟨rfl, rfl⟩ := q12
    show sk_S _ _ _ _ _ _ (.int _ :: _) _ _
    refine sk_S.iret (dd DX8_needs 8 rfl) rfl rfl ?_
    exact Or.inl ⟨fun q => c6 ((inN_le (by decide)).mpr q), rfl, rfl⟩
end M10
