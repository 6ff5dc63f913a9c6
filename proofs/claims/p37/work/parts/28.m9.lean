section M9
set_option maxRecDepth 100000 in
set_option maxHeartbeats 4000000 in
theorem lp_mean {l : Launch} {E : sk_V} {d : Nat} {h : sk_M} {ρ : Nat → Int32} {j : Nat} {p : Int32} (hj : j < 4) (hρ : h 55 = ρ) (hb : boI ρ) (hI : lawI ρ 0) : ∀ (m w : Nat) (g : sk_M) (x : Int32), w + m = 10 → sk_o [55, 63, 64] h g → g 55 = upd ρ 3 x → sk_S l E (d + 6) MX8_mean 36 [some (.ref 54), some (.int (nI j)), some (.int p), some (.int (ρ 3)), some (.int (sumN (fun w => catchG ρ (nI j) (ρ (9 + j)) (nI w) (ρ 0)) w)), some (.int (nI w))] [] g (fun r h1 => sk_o [63, 64] h h1 ∧ some (.int (if p = 0 then nI (meanN ρ j / Nat.gcd (meanN ρ j) 10) else nI (10 / Nat.gcd (meanN ρ j) 10))) = r)
  | 0, w, g, x, hw, ho, hg => by
    have hwn : w = 10 := by omega
    subst hwn
    have hm := meanN_e hb j
    refine sk_S.iload (i := 5) (dd DX8_mean 21 rfl) rfl ?_
    refine sk_S.bipush (v := 10) (dd DX8_mean 22 rfl) (by decide) ?_
    refine sk_S.icmp_ge (tgt := 67) (dd DX8_mean 23 rfl) (by decide) (fun c40 => ?_) (fun c40 => absurd (by decide) c40)
    refine sk_S.aload_n (i := 0) (dd DX8_mean 37 rfl) rfl rfl ?_
    refine sk_S.getr (dd DX8_mean 38 rfl) rfl fX8_9 se_54 (by decide) rfl ?_
    refine sk_S.iconst (v := 3) (dd DX8_mean 39 rfl) (by decide) ?_
    refine sk_S.iload_n (i := 3) (dd DX8_mean 40 rfl) rfl rfl ?_
    refine sk_S.iast (dd DX8_mean 41 rfl) se_55 (j := 3) ⟨by decide, by decide, by decide⟩ ?_
    refine sk_S.iload (i := 4) (dd DX8_mean 42 rfl) rfl ?_
    rw [show sumN (fun w => catchG ρ (nI j) (ρ (9 + j)) (nI w) (ρ 0)) 10 = nI (meanN ρ j) from hm.1]
    refine sk_S.bipush (v := 10) (dd DX8_mean 43 rfl) (by decide) ?_
    refine sk_S.iload_n (i := 2) (dd DX8_mean 44 rfl) rfl rfl ?_
    refine sk_S.callS (dd DX8_mean 45 rfl) rfl kX8_197 (cM_partOf (B := 10) (by omega) (by decide) (by decide)) rfl rfl rfl (Nat.le_of_ble_eq_true rfl) (fun r79 h79 q79 => ?_)
    obtain ⟨rfl, rfl⟩ := q79
    show sk_S _ _ _ _ _ _ (.int _ :: _) _ _
    refine sk_S.iret (dd DX8_mean 46 rfl) rfl rfl ?_
    refine ⟨back_o (ho.u (by decide)) ?_, rfl⟩
    rw [sk_u, sk_r_eq, hg, upd_upd, upd_self, hρ]
  | m + 1, w, g, x, hw, ho, hg => by
    refine sk_S.iload (i := 5) (dd DX8_mean 21 rfl) rfl ?_
    refine sk_S.bipush (v := 10) (dd DX8_mean 22 rfl) (by decide) ?_
    refine sk_S.icmp_ge (tgt := 67) (dd DX8_mean 23 rfl) (by decide) (fun c40 => absurd c40 (nI_ge (b := 10) (by omega) (by decide))) (fun c40 => ?_)
    refine sk_S.aload_n (i := 0) (dd DX8_mean 24 rfl) rfl rfl ?_
    refine sk_S.getr (dd DX8_mean 25 rfl) rfl fX8_9 se_54 (by decide) rfl ?_
    refine sk_S.iconst (v := 3) (dd DX8_mean 26 rfl) (by decide) ?_
    refine sk_S.iload (i := 5) (dd DX8_mean 27 rfl) rfl ?_
    refine sk_S.iast (dd DX8_mean 28 rfl) se_55 (j := 3) ⟨by decide, by decide, by decide⟩ ?_
    have e55 : sk_u g 55 3 (nI w) 55 = upd ρ 3 (nI w) := by rw [sk_u, sk_r_eq, hg, upd_upd]
    refine sk_S.iload (i := 4) (dd DX8_mean 29 rfl) rfl ?_
    refine sk_S.aload_n (i := 0) (dd DX8_mean 30 rfl) rfl rfl ?_
    refine sk_S.iload_n (i := 1) (dd DX8_mean 31 rfl) rfl rfl ?_
    refine sk_S.callV (dd DX8_mean 32 rfl) rfl kX8_181 (cM_catchOf hj e55 (boI_cg (upd_ne (by decide)) hb) (lawI_cg (fun k hk => upd_ne (by omega)) hI)) se_54 (by decide) rfl rfl rfl rfl (Nat.le_of_ble_eq_true rfl) (fun r55 h55 q55 => ?_)
    obtain ⟨o2, rfl⟩ := q55
    rw [catchG_w, upd_ne (by omega)]
    show sk_S _ _ _ _ _ _ (.int _ :: _) _ _
    refine sk_S.iadd (dd DX8_mean 33 rfl) ?_
    refine sk_S.istore (i := 4) (dd DX8_mean 34 rfl) (Nat.le_of_ble_eq_true rfl) rfl ?_
    refine sk_S.iinc (i := 5) (v := _ + 1) (dd DX8_mean 35 rfl) rfl rfl rfl ?_
    refine sk_S.goto (tgt := 36) (dd DX8_mean 36 rfl) (by decide) ?_
    exact sk_S.L (lp_mean hj hρ hb hI m (w + 1) _ (nI w) (by omega) ((ho.u (by decide)).tr (o2.more (by decide))) ((o2 55 (by decide)).trans e55)) (by rw [nI_succ]; rfl)
set_option maxRecDepth 100000 in
set_option maxHeartbeats 4000000 in
theorem cM_mean {l : Launch} {E : sk_V} {d : Nat} {h : sk_M} {f p : Int32} (hb : boI (h 55)) (hI : lawI (h 55) 0) : sk_K l E (d + 6) MX8_mean [.ref 54, .int f, .int p] h (fun r h1 => (¬ (inN f 4 ∧ inN p 2) ∧ erM h 1 h1 r) ∨ (∃ j, j < 4 ∧ f = nI j ∧ inN p 2 ∧ sk_o [63, 64] h h1 ∧ some (.int (if p = 0 then nI (meanN (h 55) j / Nat.gcd (meanN (h 55) j) 10) else nI (10 / Nat.gcd (meanN (h 55) j) 10))) = r)) := by
  refine sk_K.of (by decide +kernel) (Nat.le_of_ble_eq_true rfl) ?_
  show sk_S l E (d + 6) _ 0 [some (.ref 54), some (.int f), some (.int p), none, none, none] [] h _
  refine sk_S.iload_n (i := 1) (dd DX8_mean 0 rfl) rfl rfl ?_
  refine sk_S.callS (dd DX8_mean 1 rfl) rfl kX8_89 cM_isFish rfl rfl rfl (Nat.le_of_ble_eq_true rfl) (fun r1 h1 q1 => ?_)
  obtain ⟨rfl, rfl⟩ := q1
  show sk_S _ _ _ _ _ _ (.int _ :: _) _ _
  refine sk_S.bif_eq (tgt := 16) (dd DX8_mean 2 rfl) (by decide) (fun c4 => ?_) (fun c4 => ?_)
  · refine sk_S.aload_n (i := 0) (dd DX8_mean 8 rfl) rfl rfl ?_
    refine sk_S.ldc (dd DX8_mean 9 rfl) rfl cnX8_73 ?_
    refine sk_S.callV (dd DX8_mean 10 rfl) rfl kX8_74 (cM_error (k := 1) ⟨by decide, by decide, by decide⟩) se_54 (by decide) rfl rfl rfl rfl (Nat.le_of_ble_eq_true rfl) (fun r19 h19 q19 => ?_)
    obtain ⟨rfl, rfl⟩ := q19
    show sk_S _ _ _ _ _ _ (.int _ :: _) _ _
    refine sk_S.iret (dd DX8_mean 11 rfl) rfl rfl ?_
    exact Or.inl ⟨fun q => c4 ((inN_le (by decide)).mpr q.1), rfl, rfl⟩
  · refine sk_S.iload_n (i := 2) (dd DX8_mean 3 rfl) rfl rfl ?_
    refine sk_S.iconst (v := 0) (dd DX8_mean 4 rfl) (by decide) ?_
    refine sk_S.iconst (v := 1) (dd DX8_mean 5 rfl) (by decide) ?_
    refine sk_S.callS (dd DX8_mean 6 rfl) rfl kX8_47 cM_in rfl rfl rfl (Nat.le_of_ble_eq_true rfl) (fun r10 h10 q10 => ?_)
    obtain ⟨rfl, rfl⟩ := q10
    show sk_S _ _ _ _ _ _ (.int _ :: _) _ _
    refine sk_S.bif_ne (tgt := 23) (dd DX8_mean 7 rfl) (by decide) (fun c13 => ?_) (fun c13 => ?_)
    · obtain ⟨j, hj, rfl⟩ := (inN_le (n := 4) (by decide)).mp c4
      refine sk_S.aload_n (i := 0) (dd DX8_mean 12 rfl) rfl rfl ?_
      refine sk_S.getr (dd DX8_mean 13 rfl) rfl fX8_9 se_54 (by decide) rfl ?_
      refine sk_S.iconst (v := 3) (dd DX8_mean 14 rfl) (by decide) ?_
      refine sk_S.iald (dd DX8_mean 15 rfl) se_55 (j := 3) ⟨by decide, by decide, by decide⟩ ?_
      refine sk_S.istore_n (i := 3) (dd DX8_mean 16 rfl) rfl (Nat.le_of_ble_eq_true rfl) rfl ?_
      refine sk_S.iconst (v := 0) (dd DX8_mean 17 rfl) (by decide) ?_
      refine sk_S.istore (i := 4) (dd DX8_mean 18 rfl) (Nat.le_of_ble_eq_true rfl) rfl ?_
      refine sk_S.iconst (v := 0) (dd DX8_mean 19 rfl) (by decide) ?_
      refine sk_S.istore (i := 5) (dd DX8_mean 20 rfl) (Nat.le_of_ble_eq_true rfl) rfl ?_
      refine sk_S.mono (lp_mean hj rfl hb hI 10 0 h (h 55 3) rfl sk_o.rf upd_self.symm) ?_
      rintro r h1 ⟨q1, q2⟩
      exact Or.inr ⟨j, hj, rfl, (inN_le (by decide)).mp c13, q1, q2⟩
    · refine sk_S.aload_n (i := 0) (dd DX8_mean 8 rfl) rfl rfl ?_
      refine sk_S.ldc (dd DX8_mean 9 rfl) rfl cnX8_73 ?_
      refine sk_S.callV (dd DX8_mean 10 rfl) rfl kX8_74 (cM_error (k := 1) ⟨by decide, by decide, by decide⟩) se_54 (by decide) rfl rfl rfl rfl (Nat.le_of_ble_eq_true rfl) (fun r19 h19 q19 => ?_)
      obtain ⟨rfl, rfl⟩ := q19
      show sk_S _ _ _ _ _ _ (.int _ :: _) _ _
      refine sk_S.iret (dd DX8_mean 11 rfl) rfl rfl ?_
      exact Or.inl ⟨fun q => c13 ((inN_le (by decide)).mpr q.2), rfl, rfl⟩
set_option maxRecDepth 100000 in
set_option maxHeartbeats 4000000 in
theorem lp_best {l : Launch} {E : sk_V} {d : Nat} {h : sk_M} {ρ : Nat → Int32} {j : Nat} {w : Int32} (hj : j < 4) (hρ : h 55 = ρ) (hb : boI ρ) (hI : lawI ρ 0) (hJ : lawI ρ 1) : ∀ (m n : Nat) (g : sk_M) (x7 x8 : Option Value), n + m = 100 → sk_o [63, 64] h g → sk_S l E (d + 7) MX8_best 39 [some (.ref 54), some (.int (nI j)), some (.int w), some (.int (coinsG ρ j 0)), some (.int (bstG ρ j n).1), some (.int (bstG ρ j n).2), some (.int (nI n)), x7, x8] [] g (fun r h1 => sk_o [63, 64] h h1 ∧ some (.int (if w = 0 then (bstG ρ j 100).1 else (bstG ρ j 100).2)) = r)
  | 0, n, g, x7, x8, hn, ho => by
    have hnn : n = 100 := by omega
    subst hnn
    refine sk_S.iload (i := 6) (dd DX8_best 23 rfl) rfl ?_
    refine sk_S.bipush (v := 99) (dd DX8_best 24 rfl) (by decide) ?_
    refine sk_S.icmp_gt (tgt := 128) (dd DX8_best 25 rfl) (by decide) (fun c43 => ?_) (fun c43 => absurd (by decide) c43)
    refine sk_S.iload_n (i := 2) (dd DX8_best 69 rfl) rfl rfl ?_
    refine sk_S.if_ne (tgt := 137) (dd DX8_best 70 rfl) (by decide) (fun c129 => ?_) (fun c129 => ?_)
    · refine sk_S.iload (i := 5) (dd DX8_best 73 rfl) rfl ?_
      refine sk_S.iret (dd DX8_best 74 rfl) rfl rfl ?_
      exact ⟨ho, by rw [if_neg c129]⟩
    · refine sk_S.iload (i := 4) (dd DX8_best 71 rfl) rfl ?_
      refine sk_S.goto (tgt := 139) (dd DX8_best 72 rfl) (by decide) ?_
      refine sk_S.iret (dd DX8_best 74 rfl) rfl rfl ?_
      exact ⟨ho, by rw [if_pos c129]⟩
  | m + 1, n, g, x7, x8, hn, ho => by
    have e55 : g 55 = ρ := (ho 55 (by decide)).trans hρ
    refine sk_S.iload (i := 6) (dd DX8_best 23 rfl) rfl ?_
    refine sk_S.bipush (v := 99) (dd DX8_best 24 rfl) (by decide) ?_
    refine sk_S.icmp_gt (tgt := 128) (dd DX8_best 25 rfl) (by decide) (fun c43 => absurd c43 (nI_nlt (a := 99) (b := n) (by omega) (by omega))) (fun c43 => ?_)
    refine sk_S.bipush (v := 10) (dd DX8_best 26 rfl) (by decide) ?_
    refine sk_S.iload (i := 6) (dd DX8_best 27 rfl) rfl ?_
    refine sk_S.imul (dd DX8_best 28 rfl) ?_
    refine sk_S.iload_n (i := 3) (dd DX8_best 29 rfl) rfl rfl ?_
    refine sk_S.imul (dd DX8_best 30 rfl) ?_
    refine sk_S.iconst (v := 2) (dd DX8_best 31 rfl) (by decide) ?_
    refine sk_S.aload_n (i := 0) (dd DX8_best 32 rfl) rfl rfl ?_
    refine sk_S.getr (dd DX8_best 33 rfl) rfl fX8_9 se_54 (by decide) rfl ?_
    refine sk_S.bipush (v := 13) (dd DX8_best 34 rfl) (by decide) ?_
    refine sk_S.iload_n (i := 1) (dd DX8_best 35 rfl) rfl rfl ?_
    refine sk_S.iadd (dd DX8_best 36 rfl) ?_
    refine sk_S.iald (dd DX8_best 37 rfl) se_55 (sk_ix_e (k := 13 + j) (ix_add 13 j) (by omega) (by decide)) ?_
    refine sk_S.imul (dd DX8_best 38 rfl) ?_
    refine sk_S.aload_n (i := 0) (dd DX8_best 39 rfl) rfl rfl ?_
    refine sk_S.iload_n (i := 1) (dd DX8_best 40 rfl) rfl rfl ?_
    refine sk_S.iload (i := 6) (dd DX8_best 41 rfl) rfl ?_
    refine sk_S.callV (dd DX8_best 42 rfl) rfl kX8_187 (cM_shortest e55 hb hI) se_54 (by decide) rfl rfl rfl rfl (Nat.le_of_ble_eq_true rfl) (fun r68 h68 q68 => ?_)
    obtain ⟨o2, rfl⟩ := q68
    show sk_S _ _ _ _ _ _ (.int _ :: _) _ _
    refine sk_S.imul (dd DX8_best 43 rfl) ?_
    refine sk_S.isub (dd DX8_best 44 rfl) ?_
    rw [show 10 * nI n * coinsG ρ j 0 - 2 * g 55 (13 + j) * sumN (shW ρ (nI j) (nI n)) 10 = gainG ρ j n from by rw [e55]; rfl]
    refine sk_S.istore (i := 7) (dd DX8_best 45 rfl) (Nat.le_of_ble_eq_true rfl) rfl ?_
    refine sk_S.iload (i := 6) (dd DX8_best 46 rfl) rfl ?_
    refine sk_S.if_eq (tgt := 87) (dd DX8_best 47 rfl) (by decide) (fun c77 => ?_) (fun c77 => ?_)
    · refine sk_S.iconst (v := 1) (dd DX8_best 51 rfl) (by decide) ?_
      refine sk_S.goto (tgt := 92) (dd DX8_best 52 rfl) (by decide) ?_
      refine sk_S.istore (i := 8) (dd DX8_best 54 rfl) (Nat.le_of_ble_eq_true rfl) rfl ?_
      refine sk_S.iload (i := 8) (dd DX8_best 55 rfl) rfl ?_
      refine sk_S.if_eq (tgt := 104) (dd DX8_best 56 rfl) (by decide) (fun c96 => absurd c96 (by decide)) (fun c96 => ?_)
      refine sk_S.iload (i := 6) (dd DX8_best 57 rfl) rfl ?_
      refine sk_S.goto (tgt := 106) (dd DX8_best 58 rfl) (by decide) ?_
      refine sk_S.istore (i := 4) (dd DX8_best 60 rfl) (Nat.le_of_ble_eq_true rfl) rfl ?_
      refine sk_S.iload (i := 8) (dd DX8_best 61 rfl) rfl ?_
      refine sk_S.if_eq (tgt := 118) (dd DX8_best 62 rfl) (by decide) (fun c110 => absurd c110 (by decide)) (fun c110 => ?_)
      refine sk_S.iload (i := 7) (dd DX8_best 63 rfl) rfl ?_
      refine sk_S.goto (tgt := 120) (dd DX8_best 64 rfl) (by decide) ?_
      refine sk_S.istore (i := 5) (dd DX8_best 66 rfl) (Nat.le_of_ble_eq_true rfl) rfl ?_
      refine sk_S.iinc (i := 6) (v := _ + 1) (dd DX8_best 67 rfl) rfl rfl rfl ?_
      refine sk_S.goto (tgt := 39) (dd DX8_best 68 rfl) (by decide) ?_
      refine sk_S.L (lp_best hj hρ hb hI hJ m (n + 1) _ (some (.int (gainG ρ j n))) (some (.int 1)) (by omega) (ho.tr o2)) ?_
      rw [bst_s1 (Or.inl ((nI_eq (by omega) (by decide)).mp c77)), nI_succ n]
      rfl
    · refine sk_S.iload (i := 7) (dd DX8_best 48 rfl) rfl ?_
      refine sk_S.iload (i := 5) (dd DX8_best 49 rfl) rfl ?_
      refine sk_S.icmp_le (tgt := 91) (dd DX8_best 50 rfl) (by decide) (fun c84 => ?_) (fun c84 => ?_)
      · refine sk_S.iconst (v := 0) (dd DX8_best 53 rfl) (by decide) ?_
        refine sk_S.istore (i := 8) (dd DX8_best 54 rfl) (Nat.le_of_ble_eq_true rfl) rfl ?_
        refine sk_S.iload (i := 8) (dd DX8_best 55 rfl) rfl ?_
        refine sk_S.if_eq (tgt := 104) (dd DX8_best 56 rfl) (by decide) (fun c96 => ?_) (fun c96 => absurd rfl c96)
        refine sk_S.iload (i := 4) (dd DX8_best 59 rfl) rfl ?_
        refine sk_S.istore (i := 4) (dd DX8_best 60 rfl) (Nat.le_of_ble_eq_true rfl) rfl ?_
        refine sk_S.iload (i := 8) (dd DX8_best 61 rfl) rfl ?_
        refine sk_S.if_eq (tgt := 118) (dd DX8_best 62 rfl) (by decide) (fun c110 => ?_) (fun c110 => absurd rfl c110)
        refine sk_S.iload (i := 5) (dd DX8_best 65 rfl) rfl ?_
        refine sk_S.istore (i := 5) (dd DX8_best 66 rfl) (Nat.le_of_ble_eq_true rfl) rfl ?_
        refine sk_S.iinc (i := 6) (v := _ + 1) (dd DX8_best 67 rfl) rfl rfl rfl ?_
        refine sk_S.goto (tgt := 39) (dd DX8_best 68 rfl) (by decide) ?_
        refine sk_S.L (lp_best hj hρ hb hI hJ m (n + 1) _ (some (.int (gainG ρ j n))) (some (.int 0)) (by omega) (ho.tr o2)) ?_
        rw [bst_s0 (fun q => q.elim (fun e => c77 (by rw [e]; rfl)) (fun e => (Int32.not_lt.mpr c84) e)), nI_succ n]
        rfl
      · refine sk_S.iconst (v := 1) (dd DX8_best 51 rfl) (by decide) ?_
        refine sk_S.goto (tgt := 92) (dd DX8_best 52 rfl) (by decide) ?_
        refine sk_S.istore (i := 8) (dd DX8_best 54 rfl) (Nat.le_of_ble_eq_true rfl) rfl ?_
        refine sk_S.iload (i := 8) (dd DX8_best 55 rfl) rfl ?_
        refine sk_S.if_eq (tgt := 104) (dd DX8_best 56 rfl) (by decide) (fun c96 => absurd c96 (by decide)) (fun c96 => ?_)
        refine sk_S.iload (i := 6) (dd DX8_best 57 rfl) rfl ?_
        refine sk_S.goto (tgt := 106) (dd DX8_best 58 rfl) (by decide) ?_
        refine sk_S.istore (i := 4) (dd DX8_best 60 rfl) (Nat.le_of_ble_eq_true rfl) rfl ?_
        refine sk_S.iload (i := 8) (dd DX8_best 61 rfl) rfl ?_
        refine sk_S.if_eq (tgt := 118) (dd DX8_best 62 rfl) (by decide) (fun c110 => absurd c110 (by decide)) (fun c110 => ?_)
        refine sk_S.iload (i := 7) (dd DX8_best 63 rfl) rfl ?_
        refine sk_S.goto (tgt := 120) (dd DX8_best 64 rfl) (by decide) ?_
        refine sk_S.istore (i := 5) (dd DX8_best 66 rfl) (Nat.le_of_ble_eq_true rfl) rfl ?_
        refine sk_S.iinc (i := 6) (v := _ + 1) (dd DX8_best 67 rfl) rfl rfl rfl ?_
        refine sk_S.goto (tgt := 39) (dd DX8_best 68 rfl) (by decide) ?_
        refine sk_S.L (lp_best hj hρ hb hI hJ m (n + 1) _ (some (.int (gainG ρ j n))) (some (.int 1)) (by omega) (ho.tr o2)) ?_
        rw [bst_s1 (Or.inr (Int32.not_le.mp c84)), nI_succ n]
        rfl
set_option maxRecDepth 100000 in
set_option maxHeartbeats 4000000 in
theorem cM_best {l : Launch} {E : sk_V} {d : Nat} {h : sk_M} {f w : Int32} (hb : boI (h 55)) (hI : lawI (h 55) 0) (hJ : lawI (h 55) 1) : sk_K l E (d + 7) MX8_best [.ref 54, .int f, .int w] h (fun r h1 => (¬ (inN f 4 ∧ inN w 2) ∧ erM h 1 h1 r) ∨ (∃ j, j < 4 ∧ f = nI j ∧ inN w 2 ∧ sk_o [63, 64] h h1 ∧ some (.int (if w = 0 then (bstG (h 55) j 100).1 else (bstG (h 55) j 100).2)) = r)) := by
  refine sk_K.of (by decide +kernel) (Nat.le_of_ble_eq_true rfl) ?_
  show sk_S l E (d + 7) _ 0 [some (.ref 54), some (.int f), some (.int w), none, none, none, none, none, none] [] h _
  refine sk_S.iload_n (i := 1) (dd DX8_best 0 rfl) rfl rfl ?_
  refine sk_S.callS (dd DX8_best 1 rfl) rfl kX8_89 cM_isFish rfl rfl rfl (Nat.le_of_ble_eq_true rfl) (fun r1 h1 q1 => ?_)
  obtain ⟨rfl, rfl⟩ := q1
  show sk_S _ _ _ _ _ _ (.int _ :: _) _ _
  refine sk_S.bif_eq (tgt := 16) (dd DX8_best 2 rfl) (by decide) (fun c4 => ?_) (fun c4 => ?_)
  · refine sk_S.aload_n (i := 0) (dd DX8_best 8 rfl) rfl rfl ?_
    refine sk_S.ldc (dd DX8_best 9 rfl) rfl cnX8_73 ?_
    refine sk_S.callV (dd DX8_best 10 rfl) rfl kX8_74 (cM_error (k := 1) ⟨by decide, by decide, by decide⟩) se_54 (by decide) rfl rfl rfl rfl (Nat.le_of_ble_eq_true rfl) (fun r19 h19 q19 => ?_)
    obtain ⟨rfl, rfl⟩ := q19
    show sk_S _ _ _ _ _ _ (.int _ :: _) _ _
    refine sk_S.iret (dd DX8_best 11 rfl) rfl rfl ?_
    exact Or.inl ⟨fun q => c4 ((inN_le (by decide)).mpr q.1), rfl, rfl⟩
  · refine sk_S.iload_n (i := 2) (dd DX8_best 3 rfl) rfl rfl ?_
    refine sk_S.iconst (v := 0) (dd DX8_best 4 rfl) (by decide) ?_
    refine sk_S.iconst (v := 1) (dd DX8_best 5 rfl) (by decide) ?_
    refine sk_S.callS (dd DX8_best 6 rfl) rfl kX8_47 cM_in rfl rfl rfl (Nat.le_of_ble_eq_true rfl) (fun r10 h10 q10 => ?_)
    obtain ⟨rfl, rfl⟩ := q10
    show sk_S _ _ _ _ _ _ (.int _ :: _) _ _
    refine sk_S.bif_ne (tgt := 23) (dd DX8_best 7 rfl) (by decide) (fun c13 => ?_) (fun c13 => ?_)
    · obtain ⟨j, hj, rfl⟩ := (inN_le (n := 4) (by decide)).mp c4
      refine sk_S.aload_n (i := 0) (dd DX8_best 12 rfl) rfl rfl ?_
      refine sk_S.iload_n (i := 1) (dd DX8_best 13 rfl) rfl rfl ?_
      refine sk_S.iconst (v := 0) (dd DX8_best 14 rfl) (by decide) ?_
      refine sk_S.callV (dd DX8_best 15 rfl) rfl kX8_92 (cM_coinsFor hj rfl hJ) se_54 (by decide) rfl rfl rfl rfl (Nat.le_of_ble_eq_true rfl) (fun r26 h26 q26 => ?_)
      obtain ⟨o1, rfl⟩ := q26
      show sk_S _ _ _ _ _ _ (.int _ :: _) _ _
      refine sk_S.istore_n (i := 3) (dd DX8_best 16 rfl) rfl (Nat.le_of_ble_eq_true rfl) rfl ?_
      refine sk_S.iconst (v := 0) (dd DX8_best 17 rfl) (by decide) ?_
      refine sk_S.istore (i := 4) (dd DX8_best 18 rfl) (Nat.le_of_ble_eq_true rfl) rfl ?_
      refine sk_S.iconst (v := 0) (dd DX8_best 19 rfl) (by decide) ?_
      refine sk_S.istore (i := 5) (dd DX8_best 20 rfl) (Nat.le_of_ble_eq_true rfl) rfl ?_
      refine sk_S.iconst (v := 0) (dd DX8_best 21 rfl) (by decide) ?_
      refine sk_S.istore (i := 6) (dd DX8_best 22 rfl) (Nat.le_of_ble_eq_true rfl) rfl ?_
      refine sk_S.mono (lp_best hj rfl hb hI hJ 100 0 _ none none rfl o1) ?_
      rintro r h1 ⟨q1, q2⟩
      exact Or.inr ⟨j, hj, rfl, (inN_le (by decide)).mp c13, q1, q2⟩
    · refine sk_S.aload_n (i := 0) (dd DX8_best 8 rfl) rfl rfl ?_
      refine sk_S.ldc (dd DX8_best 9 rfl) rfl cnX8_73 ?_
      refine sk_S.callV (dd DX8_best 10 rfl) rfl kX8_74 (cM_error (k := 1) ⟨by decide, by decide, by decide⟩) se_54 (by decide) rfl rfl rfl rfl (Nat.le_of_ble_eq_true rfl) (fun r19 h19 q19 => ?_)
      obtain ⟨rfl, rfl⟩ := q19
      show sk_S _ _ _ _ _ _ (.int _ :: _) _ _
      refine sk_S.iret (dd DX8_best 11 rfl) rfl rfl ?_
      exact Or.inl ⟨fun q => c13 ((inN_le (by decide)).mpr q.2), rfl, rfl⟩
set_option maxRecDepth 100000 in
set_option maxHeartbeats 4000000 in
theorem lp_agrees {l : Launch} {E : sk_V} {d : Nat} {h : sk_M} {ρ : Nat → Int32} {f w : Int32} (hρ : h 55 = ρ) (hb : boI ρ) (hI : lawI ρ 0) : ∀ (k m : Nat) (g : sk_M) (x6 : Option Value), m + k = 100 → sk_o [63, 64] h g → sk_S l E (d + 5) MX8_agrees 32 [some (.ref 54), some (.int f), some (.int w), some (.int (nI (cntD (agP ρ f) m))), some (.int (lstN (agP ρ f) m)), some (.int (nI (100 - m) - 1)), x6] [] g (fun r h1 => (w = 0 ∧ sk_o [63, 64] h h1 ∧ some (.int (nI (cntD (agP ρ f) 100))) = r) ∨ (¬ w = 0 ∧ ¬ 0 ≤ lstN (agP ρ f) 100 ∧ erT h 2 h1 r) ∨ (¬ w = 0 ∧ 0 ≤ lstN (agP ρ f) 100 ∧ sk_o [63, 64] h h1 ∧ some (.int (lstN (agP ρ f) 100)) = r))
  | 0, m, g, x6, hm, ho => by
    have hmm : m = 100 := by omega
    subst hmm
    refine sk_S.iload (i := 5) (dd DX8_agrees 18 rfl) rfl ?_
    refine sk_S.if_lt (tgt := 89) (dd DX8_agrees 19 rfl) (by decide) (fun c34 => ?_) (fun c34 => absurd (by decide) c34)
    refine sk_S.iload_n (i := 2) (dd DX8_agrees 46 rfl) rfl rfl ?_
    refine sk_S.if_ne (tgt := 97) (dd DX8_agrees 47 rfl) (by decide) (fun c90 => ?_) (fun c90 => ?_)
    · refine sk_S.iload (i := 4) (dd DX8_agrees 50 rfl) rfl ?_
      refine sk_S.if_ge (tgt := 111) (dd DX8_agrees 51 rfl) (by decide) (fun c99 => ?_) (fun c99 => ?_)
      · refine sk_S.iload (i := 4) (dd DX8_agrees 56 rfl) rfl ?_
        refine sk_S.iret (dd DX8_agrees 57 rfl) rfl rfl ?_
        exact Or.inr (Or.inr ⟨c90, c99, ho, rfl⟩)
      · refine sk_S.aload_n (i := 0) (dd DX8_agrees 52 rfl) rfl rfl ?_
        refine sk_S.ldc (dd DX8_agrees 53 rfl) rfl cnX8_190 ?_
        refine sk_S.callV (dd DX8_agrees 54 rfl) rfl kX8_74 (cM_error (k := 2) ⟨by decide, by decide, by decide⟩) se_54 (by decide) rfl rfl rfl rfl (Nat.le_of_ble_eq_true rfl) (fun r105 h105 q105 => ?_)
        obtain ⟨rfl, rfl⟩ := q105
        show sk_S _ _ _ _ _ _ (.int _ :: _) _ _
        refine sk_S.goto (tgt := 113) (dd DX8_agrees 55 rfl) (by decide) ?_
        refine sk_S.iret (dd DX8_agrees 57 rfl) rfl rfl ?_
        exact Or.inr (Or.inl ⟨c90, c99, g, ho, rfl, rfl⟩)
    · refine sk_S.iload_n (i := 3) (dd DX8_agrees 48 rfl) rfl rfl ?_
      refine sk_S.goto (tgt := 113) (dd DX8_agrees 49 rfl) (by decide) ?_
      refine sk_S.iret (dd DX8_agrees 57 rfl) rfl rfl ?_
      exact Or.inl ⟨c90, ho, rfl⟩
  | k + 1, m, g, x6, hm, ho => by
    have e55 : g 55 = ρ := (ho 55 (by decide)).trans hρ
    have e5 : nI (100 - m) - 1 = nI (99 - m) := by rw [show 100 - m = (99 - m) + 1 from by omega, nI_pred]
    rw [e5]
    refine sk_S.iload (i := 5) (dd DX8_agrees 18 rfl) rfl ?_
    refine sk_S.if_lt (tgt := 89) (dd DX8_agrees 19 rfl) (by decide) (fun c34 => absurd c34 (nI_pos (by omega))) (fun c34 => ?_)
    refine sk_S.aload_n (i := 0) (dd DX8_agrees 20 rfl) rfl rfl ?_
    refine sk_S.iload_n (i := 1) (dd DX8_agrees 21 rfl) rfl rfl ?_
    refine sk_S.iload (i := 5) (dd DX8_agrees 22 rfl) rfl ?_
    refine sk_S.callV (dd DX8_agrees 23 rfl) rfl kX8_66 (cM_catchBy e55 hb hI) se_54 (by decide) rfl rfl rfl rfl (Nat.le_of_ble_eq_true rfl) (fun r41 h41 q41 => ?_)
    obtain ⟨o2, rfl⟩ := q41
    show sk_S _ _ _ _ _ _ (.int _ :: _) _ _
    refine sk_S.iload (i := 5) (dd DX8_agrees 24 rfl) rfl ?_
    refine sk_S.icmp_ne (tgt := 53) (dd DX8_agrees 25 rfl) (by decide) (fun c46 => ?_) (fun c46 => ?_)
    · refine sk_S.iconst (v := 0) (dd DX8_agrees 28 rfl) (by decide) ?_
      refine sk_S.istore (i := 6) (dd DX8_agrees 29 rfl) (Nat.le_of_ble_eq_true rfl) rfl ?_
      refine sk_S.iload_n (i := 3) (dd DX8_agrees 30 rfl) rfl rfl ?_
      refine sk_S.iload (i := 6) (dd DX8_agrees 31 rfl) rfl ?_
      refine sk_S.if_eq (tgt := 66) (dd DX8_agrees 32 rfl) (by decide) (fun c59 => ?_) (fun c59 => absurd rfl c59)
      refine sk_S.iconst (v := 0) (dd DX8_agrees 35 rfl) (by decide) ?_
      refine sk_S.iadd (dd DX8_agrees 36 rfl) ?_
      refine sk_S.istore_n (i := 3) (dd DX8_agrees 37 rfl) rfl (Nat.le_of_ble_eq_true rfl) rfl ?_
      refine sk_S.iload (i := 6) (dd DX8_agrees 38 rfl) rfl ?_
      refine sk_S.if_eq (tgt := 79) (dd DX8_agrees 39 rfl) (by decide) (fun c71 => ?_) (fun c71 => absurd rfl c71)
      refine sk_S.iload (i := 4) (dd DX8_agrees 42 rfl) rfl ?_
      refine sk_S.istore (i := 4) (dd DX8_agrees 43 rfl) (Nat.le_of_ble_eq_true rfl) rfl ?_
      refine sk_S.iinc (i := 5) (v := _ - 1) (dd DX8_agrees 44 rfl) rfl iinc_m1 rfl ?_
      refine sk_S.goto (tgt := 32) (dd DX8_agrees 45 rfl) (by decide) ?_
      have eP : agP ρ f (99 - m) = false := by unfold agP; exact decide_eq_false c46
      have e1 : cntD (agP ρ f) (m + 1) = cntD (agP ρ f) m + 0 := by
        show cntD (agP ρ f) m + (if _ then 1 else 0) = _
        rw [eP]; rfl
      have e2 : lstN (agP ρ f) (m + 1) = lstN (agP ρ f) m := by
        show (if _ then _ else _) = _
        rw [eP]; rfl
      refine sk_S.L (lp_agrees hρ hb hI k (m + 1) _ (some (.int 0)) (by omega) (ho.tr o2)) ?_
      rw [e1, e2, ← nI_add (cntD (agP ρ f) m), show 100 - (m + 1) = 99 - m from by omega]
      rfl
    · refine sk_S.iconst (v := 1) (dd DX8_agrees 26 rfl) (by decide) ?_
      refine sk_S.goto (tgt := 54) (dd DX8_agrees 27 rfl) (by decide) ?_
      refine sk_S.istore (i := 6) (dd DX8_agrees 29 rfl) (Nat.le_of_ble_eq_true rfl) rfl ?_
      refine sk_S.iload_n (i := 3) (dd DX8_agrees 30 rfl) rfl rfl ?_
      refine sk_S.iload (i := 6) (dd DX8_agrees 31 rfl) rfl ?_
      refine sk_S.if_eq (tgt := 66) (dd DX8_agrees 32 rfl) (by decide) (fun c59 => absurd c59 (by decide)) (fun c59 => ?_)
      refine sk_S.iconst (v := 1) (dd DX8_agrees 33 rfl) (by decide) ?_
      refine sk_S.goto (tgt := 67) (dd DX8_agrees 34 rfl) (by decide) ?_
      refine sk_S.iadd (dd DX8_agrees 36 rfl) ?_
      refine sk_S.istore_n (i := 3) (dd DX8_agrees 37 rfl) rfl (Nat.le_of_ble_eq_true rfl) rfl ?_
      refine sk_S.iload (i := 6) (dd DX8_agrees 38 rfl) rfl ?_
      refine sk_S.if_eq (tgt := 79) (dd DX8_agrees 39 rfl) (by decide) (fun c71 => absurd c71 (by decide)) (fun c71 => ?_)
      refine sk_S.iload (i := 5) (dd DX8_agrees 40 rfl) rfl ?_
      refine sk_S.goto (tgt := 81) (dd DX8_agrees 41 rfl) (by decide) ?_
      refine sk_S.istore (i := 4) (dd DX8_agrees 43 rfl) (Nat.le_of_ble_eq_true rfl) rfl ?_
      refine sk_S.iinc (i := 5) (v := _ - 1) (dd DX8_agrees 44 rfl) rfl iinc_m1 rfl ?_
      refine sk_S.goto (tgt := 32) (dd DX8_agrees 45 rfl) (by decide) ?_
      have eP : agP ρ f (99 - m) = true := by unfold agP; exact decide_eq_true c46
      have e1 : cntD (agP ρ f) (m + 1) = cntD (agP ρ f) m + 1 := by
        show cntD (agP ρ f) m + (if _ then 1 else 0) = _
        rw [eP]; rfl
      have e2 : lstN (agP ρ f) (m + 1) = nI (99 - m) := by
        show (if _ then _ else _) = _
        rw [eP]; rfl
      refine sk_S.L (lp_agrees hρ hb hI k (m + 1) _ (some (.int 1)) (by omega) (ho.tr o2)) ?_
      rw [e1, e2, ← nI_add (cntD (agP ρ f) m), show 100 - (m + 1) = 99 - m from by omega]
      rfl
set_option maxRecDepth 100000 in
set_option maxHeartbeats 4000000 in
theorem cM_agrees {l : Launch} {E : sk_V} {d : Nat} {h : sk_M} {f w : Int32} (hb : boI (h 55)) (hI : lawI (h 55) 0) : sk_K l E (d + 5) MX8_agrees [.ref 54, .int f, .int w] h (fun r h1 => (¬ (inN f 4 ∧ inN w 2) ∧ erM h 1 h1 r) ∨ (inN f 4 ∧ inN w 2 ∧ ((w = 0 ∧ sk_o [63, 64] h h1 ∧ some (.int (nI (cntD (agP (h 55) f) 100))) = r) ∨ (¬ w = 0 ∧ ¬ 0 ≤ lstN (agP (h 55) f) 100 ∧ erT h 2 h1 r) ∨ (¬ w = 0 ∧ 0 ≤ lstN (agP (h 55) f) 100 ∧ sk_o [63, 64] h h1 ∧ some (.int (lstN (agP (h 55) f) 100)) = r)))) := by
  refine sk_K.of (by decide +kernel) (Nat.le_of_ble_eq_true rfl) ?_
  show sk_S l E (d + 5) _ 0 [some (.ref 54), some (.int f), some (.int w), none, none, none, none] [] h _
  refine sk_S.iload_n (i := 1) (dd DX8_agrees 0 rfl) rfl rfl ?_
  refine sk_S.callS (dd DX8_agrees 1 rfl) rfl kX8_89 cM_isFish rfl rfl rfl (Nat.le_of_ble_eq_true rfl) (fun r1 h1 q1 => ?_)
  obtain ⟨rfl, rfl⟩ := q1
  show sk_S _ _ _ _ _ _ (.int _ :: _) _ _
  refine sk_S.bif_eq (tgt := 16) (dd DX8_agrees 2 rfl) (by decide) (fun c4 => ?_) (fun c4 => ?_)
  · refine sk_S.aload_n (i := 0) (dd DX8_agrees 8 rfl) rfl rfl ?_
    refine sk_S.ldc (dd DX8_agrees 9 rfl) rfl cnX8_73 ?_
    refine sk_S.callV (dd DX8_agrees 10 rfl) rfl kX8_74 (cM_error (k := 1) ⟨by decide, by decide, by decide⟩) se_54 (by decide) rfl rfl rfl rfl (Nat.le_of_ble_eq_true rfl) (fun r19 h19 q19 => ?_)
    obtain ⟨rfl, rfl⟩ := q19
    show sk_S _ _ _ _ _ _ (.int _ :: _) _ _
    refine sk_S.iret (dd DX8_agrees 11 rfl) rfl rfl ?_
    exact Or.inl ⟨fun q => c4 ((inN_le (by decide)).mpr q.1), rfl, rfl⟩
  · refine sk_S.iload_n (i := 2) (dd DX8_agrees 3 rfl) rfl rfl ?_
    refine sk_S.iconst (v := 0) (dd DX8_agrees 4 rfl) (by decide) ?_
    refine sk_S.iconst (v := 1) (dd DX8_agrees 5 rfl) (by decide) ?_
    refine sk_S.callS (dd DX8_agrees 6 rfl) rfl kX8_47 cM_in rfl rfl rfl (Nat.le_of_ble_eq_true rfl) (fun r10 h10 q10 => ?_)
    obtain ⟨rfl, rfl⟩ := q10
    show sk_S _ _ _ _ _ _ (.int _ :: _) _ _
    refine sk_S.bif_ne (tgt := 23) (dd DX8_agrees 7 rfl) (by decide) (fun c13 => ?_) (fun c13 => ?_)
    · refine sk_S.iconst (v := 0) (dd DX8_agrees 12 rfl) (by decide) ?_
      refine sk_S.istore_n (i := 3) (dd DX8_agrees 13 rfl) rfl (Nat.le_of_ble_eq_true rfl) rfl ?_
      refine sk_S.iconst (v := -1) (dd DX8_agrees 14 rfl) (by decide) ?_
      refine sk_S.istore (i := 4) (dd DX8_agrees 15 rfl) (Nat.le_of_ble_eq_true rfl) rfl ?_
      refine sk_S.bipush (v := 99) (dd DX8_agrees 16 rfl) (by decide) ?_
      refine sk_S.istore (i := 5) (dd DX8_agrees 17 rfl) (Nat.le_of_ble_eq_true rfl) rfl ?_
      refine sk_S.mono (lp_agrees rfl hb hI 100 0 h none rfl sk_o.rf) ?_
      intro r h1 q
      exact Or.inr ⟨(inN_le (by decide)).mp c4, (inN_le (by decide)).mp c13, q⟩
    · refine sk_S.aload_n (i := 0) (dd DX8_agrees 8 rfl) rfl rfl ?_
      refine sk_S.ldc (dd DX8_agrees 9 rfl) rfl cnX8_73 ?_
      refine sk_S.callV (dd DX8_agrees 10 rfl) rfl kX8_74 (cM_error (k := 1) ⟨by decide, by decide, by decide⟩) se_54 (by decide) rfl rfl rfl rfl (Nat.le_of_ble_eq_true rfl) (fun r19 h19 q19 => ?_)
      obtain ⟨rfl, rfl⟩ := q19
      show sk_S _ _ _ _ _ _ (.int _ :: _) _ _
      refine sk_S.iret (dd DX8_agrees 11 rfl) rfl rfl ?_
      exact Or.inl ⟨fun q => c13 ((inN_le (by decide)).mpr q.2), rfl, rfl⟩
end M9
