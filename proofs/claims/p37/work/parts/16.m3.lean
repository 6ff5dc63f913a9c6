section M3
set_option maxRecDepth 100000 in
set_option maxHeartbeats 4000000 in
theorem lp_works {l : Launch} {E : sk_V} {d : Nat} {h : sk_M} {ρ : Nat → Int32} {u n : Nat} {a b c : Int32} {p : Nat → Int32} (hu : u < 2) (hρ : h 55 = ρ) (hn : ρ (119 + 121 * u) = nI n) (hw : lawW n (laA ρ u) (laB ρ u)) (f0 : h 63 0 = a) (f1 : h 63 1 = b) (f2 : h 63 2 = c) : ∀ (m k : Nat) (g : sk_M) (x4 : Option Value), k + m = n → sk_o [64] h g → g 64 = (evS (laA ρ u) (laB ρ u) a b c p k).2 → sk_S l E (d + 1) MX8_works 4 [some (.ref 54), some (.int (nI (119 + 121 * u))), some (.int (nI (depN (laA ρ u) k))), some (.int (nI k)), x4] [] g (fun r h1 => sk_o [64] h h1 ∧ h1 64 = (evS (laA ρ u) (laB ρ u) a b c p n).2 ∧ some (.int ((evS (laA ρ u) (laB ρ u) a b c p n).2 0)) = r)
  | 0, k, g, x4, hk, ho, hg => by
    have e55 : g 55 = ρ := (ho 55 (by decide)).trans hρ
    have hkn : k = n := by omega
    subst hkn
    refine sk_S.iload_n (i := 3) (dd DX8_works 4 rfl) rfl rfl ?_
    refine sk_S.aload_n (i := 0) (dd DX8_works 5 rfl) rfl rfl ?_
    refine sk_S.getr (dd DX8_works 6 rfl) rfl fX8_9 se_54 (by decide) rfl ?_
    refine sk_S.iload_n (i := 1) (dd DX8_works 7 rfl) rfl rfl ?_
    refine sk_S.iald (dd DX8_works 8 rfl) se_55 (sk_ix_nI (k := 119 + 121 * u) rfl (by omega) (by decide)) ?_
    refine sk_S.icmp_ge (tgt := 155) (dd DX8_works 9 rfl) (by decide) (fun c11 => ?_) (fun c11 => absurd (by rw [e55, hn]; exact Int32.le_refl _) c11)
    refine sk_S.aload_n (i := 0) (dd DX8_works 95 rfl) rfl rfl ?_
    refine sk_S.getr (dd DX8_works 96 rfl) rfl fX8_37 se_54 (by decide) rfl ?_
    refine sk_S.iconst (v := 0) (dd DX8_works 97 rfl) (by decide) ?_
    refine sk_S.iald (dd DX8_works 98 rfl) se_64 (j := 0) ⟨by decide, by decide, by decide⟩ ?_
    refine sk_S.iret (dd DX8_works 99 rfl) rfl rfl ?_
    exact ⟨ho, hg, by rw [hg]⟩
  | m + 1, k, g, x4, hk, ho, hg => by
    have e55 : g 55 = ρ := (ho 55 (by decide)).trans hρ
    have e63 : g 63 = h 63 := ho 63 (by decide)
    have hkn : k < n := by omega
    have hn60 := hw.1
    have hdk := depN_le (laA ρ u) k
    obtain ⟨w2, w3, w4⟩ := hw.2.1 k hkn
    refine sk_S.iload_n (i := 3) (dd DX8_works 4 rfl) rfl rfl ?_
    refine sk_S.aload_n (i := 0) (dd DX8_works 5 rfl) rfl rfl ?_
    refine sk_S.getr (dd DX8_works 6 rfl) rfl fX8_9 se_54 (by decide) rfl ?_
    refine sk_S.iload_n (i := 1) (dd DX8_works 7 rfl) rfl rfl ?_
    refine sk_S.iald (dd DX8_works 8 rfl) se_55 (sk_ix_nI (k := 119 + 121 * u) rfl (by omega) (by decide)) ?_
    refine sk_S.icmp_ge (tgt := 155) (dd DX8_works 9 rfl) (by decide) (fun c11 => absurd c11 (by rw [e55, hn]; exact nI_ge (by omega) (by omega))) (fun c11 => ?_)
    refine sk_S.aload_n (i := 0) (dd DX8_works 10 rfl) rfl rfl ?_
    refine sk_S.getr (dd DX8_works 11 rfl) rfl fX8_9 se_54 (by decide) rfl ?_
    refine sk_S.iload_n (i := 1) (dd DX8_works 12 rfl) rfl rfl ?_
    refine sk_S.iconst (v := 1) (dd DX8_works 13 rfl) (by decide) ?_
    refine sk_S.iadd (dd DX8_works 14 rfl) ?_
    refine sk_S.iload_n (i := 3) (dd DX8_works 15 rfl) rfl rfl ?_
    refine sk_S.iadd (dd DX8_works 16 rfl) ?_
    refine sk_S.iald (dd DX8_works 17 rfl) se_55 (sk_ix_e (k := 120 + 121 * u + k) (by show nI _ + nI 1 + nI _ = _; rw [nI_add, nI_add]; congr 1; omega) (by omega) (by decide)) ?_
    refine sk_S.istore (i := 4) (dd DX8_works 18 rfl) (Nat.le_of_ble_eq_true rfl) rfl ?_
    refine sk_S.iload (i := 4) (dd DX8_works 19 rfl) rfl ?_
    refine sk_S.iconst (v := 1) (dd DX8_works 20 rfl) (by decide) ?_
    refine sk_S.icmp_eq (tgt := 38) (dd DX8_works 21 rfl) (by decide) (fun c29 => ?_) (fun c29 => ?_)
    · refine sk_S.aload_n (i := 0) (dd DX8_works 25 rfl) rfl rfl ?_
      refine sk_S.getr (dd DX8_works 26 rfl) rfl fX8_37 se_54 (by decide) rfl ?_
      refine sk_S.iload_n (i := 2) (dd DX8_works 27 rfl) rfl rfl ?_
      refine sk_S.iload (i := 4) (dd DX8_works 28 rfl) rfl ?_
      refine sk_S.iconst (v := 1) (dd DX8_works 29 rfl) (by decide) ?_
      refine sk_S.icmp_ne (tgt := 63) (dd DX8_works 30 rfl) (by decide) (fun c46 => absurd c29 c46) (fun c46 => ?_)
      refine sk_S.aload_n (i := 0) (dd DX8_works 31 rfl) rfl rfl ?_
      refine sk_S.getr (dd DX8_works 32 rfl) rfl fX8_9 se_54 (by decide) rfl ?_
      refine sk_S.iload_n (i := 1) (dd DX8_works 33 rfl) rfl rfl ?_
      refine sk_S.bipush (v := 61) (dd DX8_works 34 rfl) (by decide) ?_
      refine sk_S.iadd (dd DX8_works 35 rfl) ?_
      refine sk_S.iload_n (i := 3) (dd DX8_works 36 rfl) rfl rfl ?_
      refine sk_S.iadd (dd DX8_works 37 rfl) ?_
      refine sk_S.iald (dd DX8_works 38 rfl) se_55 (sk_ix_e (k := 180 + 121 * u + k) (by show nI _ + nI 61 + nI _ = _; rw [nI_add, nI_add]; congr 1; omega) (by omega) (by decide)) ?_
      refine sk_S.goto (tgt := 79) (dd DX8_works 39 rfl) (by decide) ?_
      refine sk_S.iast (dd DX8_works 51 rfl) se_64 (sk_ix_nI (k := depN (laA ρ u) k) rfl (by omega) (by decide)) ?_
      refine sk_S.iinc (i := 2) (v := _ + 1) (dd DX8_works 52 rfl) rfl rfl rfl ?_
      refine sk_S.goto (tgt := 149) (dd DX8_works 53 rfl) (by decide) ?_
      refine sk_S.iinc (i := 3) (v := _ + 1) (dd DX8_works 93 rfl) rfl rfl rfl ?_
      refine sk_S.goto (tgt := 4) (dd DX8_works 94 rfl) (by decide) ?_
      have c29a : laA ρ u k = 1 := (congrFun e55 _).symm.trans c29
      refine sk_S.L (lp_works hu hρ hn hw f0 f1 f2 m (k + 1) _ (some (.int (g 55 (120 + 121 * u + k)))) (by omega) (ho.u (by decide)) ?_) ?_
      · refine (sk_r_eq g 64 _).trans ?_
        rw [evS_1 c29a, hg, e55]
      · rw [depN_1 c29a, nI_succ, nI_succ]; rfl
    · refine sk_S.iload (i := 4) (dd DX8_works 22 rfl) rfl ?_
      refine sk_S.iconst (v := 2) (dd DX8_works 23 rfl) (by decide) ?_
      refine sk_S.icmp_ne (tgt := 86) (dd DX8_works 24 rfl) (by decide) (fun c35 => ?_) (fun c35 => ?_)
      · refine sk_S.iload (i := 4) (dd DX8_works 54 rfl) rfl ?_
        refine sk_S.iconst (v := 3) (dd DX8_works 55 rfl) (by decide) ?_
        refine sk_S.icmp_ne (tgt := 119) (dd DX8_works 56 rfl) (by decide) (fun c89 => ?_) (fun c89 => ?_)
        · refine sk_S.iinc (i := 2) (v := _ - 1) (dd DX8_works 74 rfl) rfl iinc_m1 rfl ?_
          refine sk_S.aload_n (i := 0) (dd DX8_works 75 rfl) rfl rfl ?_
          refine sk_S.getr (dd DX8_works 76 rfl) rfl fX8_37 se_54 (by decide) rfl ?_
          refine sk_S.iload_n (i := 2) (dd DX8_works 77 rfl) rfl rfl ?_
          refine sk_S.iconst (v := 1) (dd DX8_works 78 rfl) (by decide) ?_
          refine sk_S.isub (dd DX8_works 79 rfl) ?_
          refine sk_S.iload (i := 4) (dd DX8_works 80 rfl) rfl ?_
          refine sk_S.aload_n (i := 0) (dd DX8_works 81 rfl) rfl rfl ?_
          refine sk_S.getr (dd DX8_works 82 rfl) rfl fX8_37 se_54 (by decide) rfl ?_
          refine sk_S.iload_n (i := 2) (dd DX8_works 83 rfl) rfl rfl ?_
          refine sk_S.iconst (v := 1) (dd DX8_works 84 rfl) (by decide) ?_
          refine sk_S.isub (dd DX8_works 85 rfl) ?_
          refine sk_S.iald (dd DX8_works 86 rfl) se_64 (ix_p2 (w4 (fun q => c29 ((congrFun e55 _).trans q)) (fun q => c35 ((congrFun e55 _).trans q)) (fun q => c89 ((congrFun e55 _).trans q))) (by omega) (by decide)) ?_
          refine sk_S.aload_n (i := 0) (dd DX8_works 87 rfl) rfl rfl ?_
          refine sk_S.getr (dd DX8_works 88 rfl) rfl fX8_37 se_54 (by decide) rfl ?_
          refine sk_S.iload_n (i := 2) (dd DX8_works 89 rfl) rfl rfl ?_
          refine sk_S.iald (dd DX8_works 90 rfl) se_64 (ix_p (Nat.le_of_succ_le (w4 (fun q => c29 ((congrFun e55 _).trans q)) (fun q => c35 ((congrFun e55 _).trans q)) (fun q => c89 ((congrFun e55 _).trans q)))) (by omega) (by decide)) ?_
          refine sk_S.callS (dd DX8_works 91 rfl) rfl kX8_159 cM_twoOf rfl rfl rfl (Nat.le_of_ble_eq_true rfl) (fun r145 h145 q145 => ?_)
          obtain ⟨rfl, rfl⟩ := q145
          show sk_S _ _ _ _ _ _ (.int _ :: _) _ _
          refine sk_S.iast (dd DX8_works 92 rfl) se_64 (ix_p2 (w4 (fun q => c29 ((congrFun e55 _).trans q)) (fun q => c35 ((congrFun e55 _).trans q)) (fun q => c89 ((congrFun e55 _).trans q))) (by omega) (by decide)) ?_
          refine sk_S.iinc (i := 3) (v := _ + 1) (dd DX8_works 93 rfl) rfl rfl rfl ?_
          refine sk_S.goto (tgt := 4) (dd DX8_works 94 rfl) (by decide) ?_
          have c29a : ¬ laA ρ u k = 1 := fun q => c29 ((congrFun e55 _).trans q)
          have c35a : ¬ laA ρ u k = 2 := fun q => c35 ((congrFun e55 _).trans q)
          have c89a : ¬ laA ρ u k = 3 := fun q => c89 ((congrFun e55 _).trans q)
          refine sk_S.L (lp_works hu hρ hn hw f0 f1 f2 m (k + 1) _ (some (.int (g 55 (120 + 121 * u + k)))) (by omega) (ho.u (by decide)) ?_) ?_
          · refine (sk_r_eq g 64 _).trans ?_
            rw [evS_4 c29a c35a c89a, hg, e55]
          · rw [depN_4 c29a c35a c89a, nI_succ, ← nI_sub (b := 1) (by have := w4 c29a c35a c89a; omega)]; rfl
        · refine sk_S.aload_n (i := 0) (dd DX8_works 57 rfl) rfl rfl ?_
          refine sk_S.getr (dd DX8_works 58 rfl) rfl fX8_37 se_54 (by decide) rfl ?_
          refine sk_S.iload_n (i := 2) (dd DX8_works 59 rfl) rfl rfl ?_
          refine sk_S.iconst (v := 1) (dd DX8_works 60 rfl) (by decide) ?_
          refine sk_S.isub (dd DX8_works 61 rfl) ?_
          refine sk_S.aload_n (i := 0) (dd DX8_works 62 rfl) rfl rfl ?_
          refine sk_S.getr (dd DX8_works 63 rfl) rfl fX8_37 se_54 (by decide) rfl ?_
          refine sk_S.iload_n (i := 2) (dd DX8_works 64 rfl) rfl rfl ?_
          refine sk_S.iconst (v := 1) (dd DX8_works 65 rfl) (by decide) ?_
          refine sk_S.isub (dd DX8_works 66 rfl) ?_
          refine sk_S.iald (dd DX8_works 67 rfl) se_64 (ix_p (w3 ((congrFun e55 _).symm.trans c89)) (by omega) (by decide)) ?_
          refine sk_S.if_ne (tgt := 114) (dd DX8_works 68 rfl) (by decide) (fun c107 => ?_) (fun c107 => ?_)
          · refine sk_S.iconst (v := 0) (dd DX8_works 71 rfl) (by decide) ?_
            refine sk_S.iast (dd DX8_works 72 rfl) se_64 (ix_p (w3 ((congrFun e55 _).symm.trans c89)) (by omega) (by decide)) ?_
            refine sk_S.goto (tgt := 149) (dd DX8_works 73 rfl) (by decide) ?_
            refine sk_S.iinc (i := 3) (v := _ + 1) (dd DX8_works 93 rfl) rfl rfl rfl ?_
            refine sk_S.goto (tgt := 4) (dd DX8_works 94 rfl) (by decide) ?_
            have c29a : ¬ laA ρ u k = 1 := fun q => c29 ((congrFun e55 _).trans q)
            have c35a : ¬ laA ρ u k = 2 := fun q => c35 ((congrFun e55 _).trans q)
            have c89a : laA ρ u k = 3 := (congrFun e55 _).symm.trans c89
            refine sk_S.L (lp_works hu hρ hn hw f0 f1 f2 m (k + 1) _ (some (.int (g 55 (120 + 121 * u + k)))) (by omega) (ho.u (by decide)) ?_) ?_
            · refine (sk_r_eq g 64 _).trans ?_
              rw [evS_3 c89a, hg, bi_f (by rw [← hg]; exact c107)]
            · rw [depN_3 c89a, nI_succ]; rfl
          · refine sk_S.iconst (v := 1) (dd DX8_works 69 rfl) (by decide) ?_
            refine sk_S.goto (tgt := 115) (dd DX8_works 70 rfl) (by decide) ?_
            refine sk_S.iast (dd DX8_works 72 rfl) se_64 (ix_p (w3 ((congrFun e55 _).symm.trans c89)) (by omega) (by decide)) ?_
            refine sk_S.goto (tgt := 149) (dd DX8_works 73 rfl) (by decide) ?_
            refine sk_S.iinc (i := 3) (v := _ + 1) (dd DX8_works 93 rfl) rfl rfl rfl ?_
            refine sk_S.goto (tgt := 4) (dd DX8_works 94 rfl) (by decide) ?_
            have c29a : ¬ laA ρ u k = 1 := fun q => c29 ((congrFun e55 _).trans q)
            have c35a : ¬ laA ρ u k = 2 := fun q => c35 ((congrFun e55 _).trans q)
            have c89a : laA ρ u k = 3 := (congrFun e55 _).symm.trans c89
            refine sk_S.L (lp_works hu hρ hn hw f0 f1 f2 m (k + 1) _ (some (.int (g 55 (120 + 121 * u + k)))) (by omega) (ho.u (by decide)) ?_) ?_
            · refine (sk_r_eq g 64 _).trans ?_
              rw [evS_3 c89a, hg, bi_t (by rw [← hg]; exact c107)]
            · rw [depN_3 c89a, nI_succ]; rfl
      · refine sk_S.aload_n (i := 0) (dd DX8_works 25 rfl) rfl rfl ?_
        refine sk_S.getr (dd DX8_works 26 rfl) rfl fX8_37 se_54 (by decide) rfl ?_
        refine sk_S.iload_n (i := 2) (dd DX8_works 27 rfl) rfl rfl ?_
        refine sk_S.iload (i := 4) (dd DX8_works 28 rfl) rfl ?_
        refine sk_S.iconst (v := 1) (dd DX8_works 29 rfl) (by decide) ?_
        refine sk_S.icmp_ne (tgt := 63) (dd DX8_works 30 rfl) (by decide) (fun c46 => ?_) (fun c46 => absurd c46 c29)
        refine sk_S.aload_n (i := 0) (dd DX8_works 40 rfl) rfl rfl ?_
        refine sk_S.getr (dd DX8_works 41 rfl) rfl fX8_34 se_54 (by decide) rfl ?_
        refine sk_S.aload_n (i := 0) (dd DX8_works 42 rfl) rfl rfl ?_
        refine sk_S.getr (dd DX8_works 43 rfl) rfl fX8_9 se_54 (by decide) rfl ?_
        refine sk_S.iload_n (i := 1) (dd DX8_works 44 rfl) rfl rfl ?_
        refine sk_S.bipush (v := 61) (dd DX8_works 45 rfl) (by decide) ?_
        refine sk_S.iadd (dd DX8_works 46 rfl) ?_
        refine sk_S.iload_n (i := 3) (dd DX8_works 47 rfl) rfl rfl ?_
        refine sk_S.iadd (dd DX8_works 48 rfl) ?_
        refine sk_S.iald (dd DX8_works 49 rfl) se_55 (sk_ix_e (k := 180 + 121 * u + k) (by show nI _ + nI 61 + nI _ = _; rw [nI_add, nI_add]; congr 1; omega) (by omega) (by decide)) ?_
        refine sk_S.iald (dd DX8_works 50 rfl) se_63 (ix3 (by rw [e55]; exact w2 ((congrFun e55 _).symm.trans c35))) ?_
        refine sk_S.iast (dd DX8_works 51 rfl) se_64 (sk_ix_nI (k := depN (laA ρ u) k) rfl (by omega) (by decide)) ?_
        refine sk_S.iinc (i := 2) (v := _ + 1) (dd DX8_works 52 rfl) rfl rfl rfl ?_
        refine sk_S.goto (tgt := 149) (dd DX8_works 53 rfl) (by decide) ?_
        refine sk_S.iinc (i := 3) (v := _ + 1) (dd DX8_works 93 rfl) rfl rfl rfl ?_
        refine sk_S.goto (tgt := 4) (dd DX8_works 94 rfl) (by decide) ?_
        have c29a : ¬ laA ρ u k = 1 := fun q => c29 ((congrFun e55 _).trans q)
        have c35a : laA ρ u k = 2 := (congrFun e55 _).symm.trans c35
        refine sk_S.L (lp_works hu hρ hn hw f0 f1 f2 m (k + 1) _ (some (.int (g 55 (120 + 121 * u + k)))) (by omega) (ho.u (by decide)) ?_) ?_
        · refine (sk_r_eq g 64 _).trans ?_
          rw [evS_2 c35a, hg, e63, e55, nm3 (w2 c35a) f0 f1 f2]
        · rw [depN_2 c35a, nI_succ, nI_succ]; rfl
set_option maxRecDepth 100000 in
set_option maxHeartbeats 4000000 in
theorem cM_works {l : Launch} {E : sk_V} {d : Nat} {h : sk_M} {ρ : Nat → Int32} {u n : Nat} {a b c : Int32} (hu : u < 2) (hρ : h 55 = ρ) (hn : ρ (119 + 121 * u) = nI n) (hw : lawW n (laA ρ u) (laB ρ u)) (f0 : h 63 0 = a) (f1 : h 63 1 = b) (f2 : h 63 2 = c) : sk_K l E (d + 1) MX8_works [.ref 54, .int (nI (119 + 121 * u))] h (fun r h1 => sk_o [64] h h1 ∧ some (.int ((evS (laA ρ u) (laB ρ u) a b c (h 64) n).2 0)) = r) := by
  refine sk_K.of (by decide +kernel) (Nat.le_of_ble_eq_true rfl) ?_
  show sk_S l E (d + 1) _ 0 [some (.ref 54), some (.int (nI (119 + 121 * u))), none, none, none] [] h _
  refine sk_S.iconst (v := 0) (dd DX8_works 0 rfl) (by decide) ?_
  refine sk_S.istore_n (i := 2) (dd DX8_works 1 rfl) rfl (Nat.le_of_ble_eq_true rfl) rfl ?_
  refine sk_S.iconst (v := 0) (dd DX8_works 2 rfl) (by decide) ?_
  refine sk_S.istore_n (i := 3) (dd DX8_works 3 rfl) rfl (Nat.le_of_ble_eq_true rfl) rfl ?_
  refine sk_S.mono (lp_works hu hρ hn hw f0 f1 f2 n 0 h none (Nat.zero_add n) sk_o.rf rfl) ?_
  rintro r h1 ⟨q1, -, q3⟩
  exact ⟨q1, q3⟩
end M3
