section M19
set_option maxRecDepth 100000 in
set_option maxHeartbeats 1000000 in
theorem ps_one {l : Launch} {E : sk_V} {h : sk_M} {ρ : Nat → Int32} {tp u n : Nat} (hρ : h 55 = ρ) (htp : ρ 7 = nI tp) (ht : tp ≤ 60) (hU : h 54 15 = nI u) (hu : u < 2) (hS5 : psK l E h ρ tp u n 5 MX8_one) (hS0 : psK l E h ρ tp u n 0 MX8_any) : psK l E h ρ tp u (n + 1) 5 MX8_one := by
  intro d op p o g hop hp hnd hI
  rw [show 2 * (n + 1) + d + 2 = 2 * n + d + 4 from by omega]
  refine sk_K.of (by decide +kernel) (Nat.le_of_ble_eq_true rfl) ?_
  show sk_S l E (2 * n + d + 4) _ 0 [some (.ref 54), none, none] [] g _
  have hlen := hI.2.2.2.1
  have hn9 : o.length ≤ 60 := by omega
  have e55 : g 55 = ρ := (hI.1.1 55 (by decide)).trans hρ
  have e12 : g 54 12 = nI p := hI.1.2.2.1
  have eU : g 54 15 = nI u := (hI.1.2.1 15 (by decide) (by decide) (by decide) (by decide)).trans hU
  refine sk_S.aload_n (i := 0) (dd DX8_one 0 rfl) rfl rfl ?_
  refine sk_S.callV (dd DX8_one 1 rfl) rfl kX8_116 (cM_look e55 htp ht e12 (by omega)) se_54 (by decide) rfl rfl rfl rfl (Nat.le_of_ble_eq_true rfl) (fun r1 h1 q1 => ?_)
  obtain ⟨rfl, rfl⟩ := q1
  show sk_S _ _ _ _ _ _ (.int _ :: _) _ _
  refine sk_S.istore_n (i := 1) (dd DX8_one 2 rfl) rfl (Nat.le_of_ble_eq_true rfl) rfl ?_
  refine sk_S.aload_n (i := 0) (dd DX8_one 3 rfl) rfl rfl ?_
  refine sk_S.iload_n (i := 1) (dd DX8_one 4 rfl) rfl rfl ?_
  refine sk_S.callV (dd DX8_one 5 rfl) rfl kX8_137 (cM_nameOf eU hu) se_54 (by decide) rfl rfl rfl rfl (Nat.le_of_ble_eq_true rfl) (fun r7 h7 q7 => ?_)
  obtain ⟨rfl, rfl⟩ := q7
  show sk_S _ _ _ _ _ _ (.int _ :: _) _ _
  refine sk_S.istore_n (i := 2) (dd DX8_one 6 rfl) rfl (Nat.le_of_ble_eq_true rfl) rfl ?_
  refine sk_S.iload_n (i := 2) (dd DX8_one 7 rfl) rfl rfl ?_
  refine sk_S.if_lt (tgt := 34) (dd DX8_one 8 rfl) (by decide) (fun c12 => ?_) (fun c12 => ?_)
  · have hnm : ¬ 0 ≤ nmI u (tkT ρ tp p) := Int32.not_le.mpr c12
    refine sk_S.iload_n (i := 1) (dd DX8_one 20 rfl) rfl rfl ?_
    refine sk_S.bipush (v := 33) (dd DX8_one 21 rfl) (by decide) ?_
    refine sk_S.icmp_eq (tgt := 46) (dd DX8_one 22 rfl) (by decide) (fun c37 => ?_) (fun c37 => ?_)
    · have hb2 : tkT ρ tp p = 33 ∨ tkT ρ tp p = 40 := Or.inl c37
      have hlt : p < tp := tk_sg rfl hb2
      refine sk_S.aload_n (i := 0) (dd DX8_one 26 rfl) rfl rfl ?_
      refine sk_S.iload_n (i := 1) (dd DX8_one 27 rfl) rfl rfl ?_
      refine sk_S.callV (dd DX8_one 28 rfl) rfl kX8_140 (ps_opens hρ htp ht hU hu hS5 hS0 (d := d) hop hlt hnd hI rfl hb2 hnm) se_54 (by decide) rfl rfl rfl rfl (Nat.le_of_ble_eq_true rfl) (fun r48 h48 q48 => ?_)
      obtain ⟨y, rfl⟩ := q48
      show sk_S _ _ _ _ 51 _ _ _ _
      refine sk_S.goto (tgt := 58) (dd DX8_one 29 rfl) (by decide) ?_
      refine sk_S.vret (dd DX8_one 32 rfl) rfl ?_
      rw [pP_it]
      exact ⟨y, rfl⟩
    · refine sk_S.iload_n (i := 1) (dd DX8_one 23 rfl) rfl rfl ?_
      refine sk_S.bipush (v := 40) (dd DX8_one 24 rfl) (by decide) ?_
      refine sk_S.icmp_ne (tgt := 54) (dd DX8_one 25 rfl) (by decide) (fun c43 => ?_) (fun c43 => ?_)
      · refine sk_S.aload_n (i := 0) (dd DX8_one 30 rfl) rfl rfl ?_
        refine sk_S.callV (dd DX8_one 31 rfl) rfl kX8_144 (cM_number e55 htp ht hp e12 hI.2.2.1 hn9) se_54 (by decide) rfl rfl rfl rfl (Nat.le_of_ble_eq_true rfl) (fun r55 h55 q55 => ?_)
        obtain ⟨o9, a9, b9, c9, l9, rfl⟩ := q55
        show sk_S _ _ _ _ 58 _ _ _ _
        refine sk_S.vret (dd DX8_one 32 rfl) rfl ?_
        rw [pP_it]
        have ep := nuL_ge (T := tkT ρ tp) 4 p 0
        have et := nuL_tp (g := ρ) (tp := tp) 4 p 0 hp
        unfold itP
        rw [if_neg hnm, if_neg c37, if_neg c43]
        by_cases q : (nuL (tkT ρ tp) 4 p 0).1 = p
        · rw [if_pos q]
          rw [q] at b9
          exact ⟨⟨hp, Or.inr ⟨rfl, psF.num hI.1 o9 a9 b9 (c9.trans (bi_t q)) l9⟩⟩, rfl⟩
        · rw [if_neg q]
          exact ⟨⟨et, Or.inl ⟨rfl, hI.num (p1 := (nuL (tkT ρ tp) 4 p 0).1) o9 a9 b9 (c9.trans (bi_f q)) l9 hI.2.2.1 hn9 (by omega) (by omega)⟩⟩, rfl⟩
      · have hb2 : tkT ρ tp p = 33 ∨ tkT ρ tp p = 40 := Or.inr c43
        have hlt : p < tp := tk_sg rfl hb2
        refine sk_S.aload_n (i := 0) (dd DX8_one 26 rfl) rfl rfl ?_
        refine sk_S.iload_n (i := 1) (dd DX8_one 27 rfl) rfl rfl ?_
        refine sk_S.callV (dd DX8_one 28 rfl) rfl kX8_140 (ps_opens hρ htp ht hU hu hS5 hS0 (d := d) hop hlt hnd hI rfl hb2 hnm) se_54 (by decide) rfl rfl rfl rfl (Nat.le_of_ble_eq_true rfl) (fun r48 h48 q48 => ?_)
        obtain ⟨y, rfl⟩ := q48
        show sk_S _ _ _ _ 51 _ _ _ _
        refine sk_S.goto (tgt := 58) (dd DX8_one 29 rfl) (by decide) ?_
        refine sk_S.vret (dd DX8_one 32 rfl) rfl ?_
        rw [pP_it]
        exact ⟨y, rfl⟩
  · have hnm : 0 ≤ nmI u (tkT ρ tp p) := Int32.not_lt.mp c12
    have hlt : p < tp := nm_lt hnm
    refine sk_S.aload_n (i := 0) (dd DX8_one 9 rfl) rfl rfl ?_
    refine sk_S.dup (dd DX8_one 10 rfl) rfl ?_
    refine sk_S.geti (dd DX8_one 11 rfl) rfl fX8_106 se_54 (by decide) rfl ?_
    refine sk_S.iconst (v := 1) (dd DX8_one 12 rfl) (by decide) ?_
    refine sk_S.iadd (dd DX8_one 13 rfl) ?_
    refine sk_S.putf (dd DX8_one 14 rfl) rfl pX8_106 se_54 (by decide) rfl rfl rfl ?_
    refine sk_S.aload_n (i := 0) (dd DX8_one 15 rfl) rfl rfl ?_
    refine sk_S.iconst (v := 2) (dd DX8_one 16 rfl) (by decide) ?_
    refine sk_S.iload_n (i := 2) (dd DX8_one 17 rfl) rfl rfl ?_
    refine sk_S.callV (dd DX8_one 18 rfl) rfl kX8_124 (cM_lays hI.step.2.2.1 hn9) se_54 (by decide) rfl rfl rfl rfl (Nat.le_of_ble_eq_true rfl) (fun r28 h28 q28 => ?_)
    obtain ⟨o9, a9, l9, rfl⟩ := q28
    show sk_S _ _ _ _ 31 _ _ _ _
    refine sk_S.goto (tgt := 58) (dd DX8_one 19 rfl) (by decide) ?_
    refine sk_S.vret (dd DX8_one 32 rfl) rfl ?_
    have e : (itP (pP (tkT ρ tp) u n 5 (op + 1)) (pP (tkT ρ tp) u n 0 (op + 1)) (tkT ρ tp) u op p o) = (true, p + 1, o ++ [(2, nmI u (tkT ρ tp p))]) := by
      unfold itP
      rw [if_pos hnm]
    rw [pP_it, e]
    exact ⟨⟨hlt, Or.inl ⟨rfl, hI.step.lay o9 a9 l9 hI.step.2.2.1 hn9 (by omega) (by omega)⟩⟩, rfl⟩
set_option maxRecDepth 100000 in
set_option maxHeartbeats 1000000 in
theorem psAll {l : Launch} {E : sk_V} {h : sk_M} {ρ : Nat → Int32} {tp u : Nat} (hρ : h 55 = ρ) (htp : ρ 7 = nI tp) (ht : tp ≤ 60) (hU : h 54 15 = nI u) (hu : u < 2) : ∀ n, psK l E h ρ tp u n 0 MX8_any ∧ psK l E h ρ tp u n 1 MX8_all ∧ psK l E h ρ tp u n 2 MX8_compares ∧ psK l E h ρ tp u n 3 MX8_sum ∧ psK l E h ρ tp u n 4 MX8_times ∧ psK l E h ρ tp u n 5 MX8_one
  | 0 => ⟨psK_0 (by decide), psK_0 (by decide), psK_0 (by decide), psK_0 (by decide), psK_0 (by decide), psK_0 (by decide)⟩
  | n + 1 => by
    obtain ⟨i0, i1, i2, i3, i4, i5⟩ := psAll hρ htp ht hU hu n
    exact ⟨ps_any hρ htp ht hU hu i1, ps_all hρ htp ht hU hu i2, ps_compares hρ htp ht hU hu i3, ps_sum hρ htp ht hU hu i4, ps_times hρ htp ht hU hu i5, ps_one hρ htp ht hU hu i5 i0⟩
set_option maxRecDepth 100000 in
set_option maxHeartbeats 1000000 in
theorem lp_text {l : Launch} {E : sk_V} {d : Nat} {g : sk_M} {ρ0 : Nat → Int32} {u : Nat} {os : psO} (hu : u < 2) (h11 : g 54 11 = nI os.length) (hlen : os.length ≤ 60) (hrow : ∀ (i : Nat) (q : Int32 × Int32), os[i]? = some q → g 61 i = q.1 ∧ g 62 i = q.2) : ∀ (m k : Nat) (f : sk_M), k + m = os.length → sk_o [55] g f → f 55 = txL ρ0 u os k → sk_S l E (d + 1) MX8_text 118 [some (.ref 54), some (.int (nI u)), some (.int (nI (119 + 121 * u))), some (.int (nI k))] [] f (fun r h1 => sk_o [55] g h1 ∧ h1 55 = txL ρ0 u os os.length ∧ some (.int 1) = r)
  | 0, k, f, hk, ho, hf => by
    have e54 : f 54 = g 54 := ho 54 (by decide)
    have hkn : k = os.length := by omega
    refine sk_S.iload_n (i := 3) (dd DX8_text 68 rfl) rfl rfl ?_
    refine sk_S.aload_n (i := 0) (dd DX8_text 69 rfl) rfl rfl ?_
    refine sk_S.geti (dd DX8_text 70 rfl) rfl fX8_110 se_54 (by decide) rfl ?_
    refine sk_S.icmp_ge (tgt := 165) (dd DX8_text 71 rfl) (by decide) (fun c123 => ?_) (fun c123 => absurd (by rw [e54, h11, hkn]; exact Int32.le_refl _) c123)
    refine sk_S.iconst (v := 1) (dd DX8_text 98 rfl) (by decide) ?_
    refine sk_S.iret (dd DX8_text 99 rfl) rfl rfl ?_
    refine ⟨ho, ?_, rfl⟩
    rw [hf, hkn]
  | m + 1, k, f, hk, ho, hf => by
    have e54 : f 54 = g 54 := ho 54 (by decide)
    have hkl : k < os.length := by omega
    have eo : os[k]? = some (os.getD k (0, 0)) := by rw [List.getD_eq_getElem?_getD, List.getElem?_eq_getElem hkl]; rfl
    obtain ⟨r1, r2⟩ := hrow k _ eo
    refine sk_S.iload_n (i := 3) (dd DX8_text 68 rfl) rfl rfl ?_
    refine sk_S.aload_n (i := 0) (dd DX8_text 69 rfl) rfl rfl ?_
    refine sk_S.geti (dd DX8_text 70 rfl) rfl fX8_110 se_54 (by decide) rfl ?_
    refine sk_S.icmp_ge (tgt := 165) (dd DX8_text 71 rfl) (by decide) (fun c123 => absurd c123 (by rw [e54, h11]; exact nI_ge (by omega) (by omega))) (fun c123 => ?_)
    refine sk_S.aload_n (i := 0) (dd DX8_text 72 rfl) rfl rfl ?_
    refine sk_S.getr (dd DX8_text 73 rfl) rfl fX8_9 se_54 (by decide) rfl ?_
    refine sk_S.iload_n (i := 2) (dd DX8_text 74 rfl) rfl rfl ?_
    refine sk_S.iconst (v := 1) (dd DX8_text 75 rfl) (by decide) ?_
    refine sk_S.iadd (dd DX8_text 76 rfl) ?_
    refine sk_S.iload_n (i := 3) (dd DX8_text 77 rfl) rfl rfl ?_
    refine sk_S.iadd (dd DX8_text 78 rfl) ?_
    refine sk_S.aload_n (i := 0) (dd DX8_text 79 rfl) rfl rfl ?_
    refine sk_S.getr (dd DX8_text 80 rfl) rfl fX8_28 se_54 (by decide) rfl ?_
    refine sk_S.iload_n (i := 3) (dd DX8_text 81 rfl) rfl rfl ?_
    refine sk_S.iald (dd DX8_text 82 rfl) se_61 (sk_ix_nI (k := k) rfl (by omega) (by decide)) ?_
    refine sk_S.iast (dd DX8_text 83 rfl) se_55 (sk_ix_e (k := 120 + 121 * u + k) (by show nI _ + nI 1 + nI k = _; rw [nI_add, nI_add]; congr 1; omega) (by omega) (by decide)) ?_
    refine sk_S.aload_n (i := 0) (dd DX8_text 84 rfl) rfl rfl ?_
    refine sk_S.getr (dd DX8_text 85 rfl) rfl fX8_9 se_54 (by decide) rfl ?_
    refine sk_S.iload_n (i := 2) (dd DX8_text 86 rfl) rfl rfl ?_
    refine sk_S.bipush (v := 61) (dd DX8_text 87 rfl) (by decide) ?_
    refine sk_S.iadd (dd DX8_text 88 rfl) ?_
    refine sk_S.iload_n (i := 3) (dd DX8_text 89 rfl) rfl rfl ?_
    refine sk_S.iadd (dd DX8_text 90 rfl) ?_
    refine sk_S.aload_n (i := 0) (dd DX8_text 91 rfl) rfl rfl ?_
    refine sk_S.getr (dd DX8_text 92 rfl) rfl fX8_31 se_54 (by decide) rfl ?_
    refine sk_S.iload_n (i := 3) (dd DX8_text 93 rfl) rfl rfl ?_
    refine sk_S.iald (dd DX8_text 94 rfl) se_62 (sk_ix_nI (k := k) rfl (by omega) (by decide)) ?_
    refine sk_S.iast (dd DX8_text 95 rfl) se_55 (sk_ix_e (k := 180 + 121 * u + k) (by show nI _ + nI 61 + nI k = _; rw [nI_add, nI_add]; congr 1; omega) (by omega) (by decide)) ?_
    refine sk_S.iinc (i := 3) (v := _ + 1) (dd DX8_text 96 rfl) rfl rfl rfl ?_
    refine sk_S.goto (tgt := 118) (dd DX8_text 97 rfl) (by decide) ?_
    refine sk_S.L (lp_text hu h11 hlen hrow m (k + 1) _ (by omega) ((ho.u (by decide)).u (by decide)) ?_) (by rw [nI_succ]; rfl)
    rw [sk_u, sk_r_eq, sk_u, sk_r_eq, hf]
    show upd (upd _ _ (f 61 k)) _ (f 62 k) = upd (upd _ _ _) _ _
    rw [ho 61 (by decide), ho 62 (by decide), r1, r2]
set_option maxRecDepth 100000 in
set_option maxHeartbeats 1000000 in
theorem cM_text {l : Launch} {E : sk_V} {d : Nat} {h : sk_M} {x : Int32} {tp : Nat} (htp : h 55 7 = nI tp) (ht : tp ≤ 60) : sk_K l E (d + 75) MX8_text [.ref 54, .int x] h (fun r h1 => (¬ inN x 2 ∧ erM h 1 h1 r) ∨ (∃ j, j < 2 ∧ x = nI j ∧ (((((txP (h 55) tp j).1 = false) ∨ (txP (h 55) tp j).2.1 < tp) ∧ sk_o [54, 55, 61, 62] h h1 ∧ (∀ k, ¬ k = 11 → ¬ k = 12 → ¬ k = 13 → ¬ k = 14 → ¬ k = 15 → h1 54 k = h 54 k) ∧ h1 55 = upd (h 55) 7 0 ∧ some (.int (-10 - nI (txP (h 55) tp j).2.1)) = r) ∨ ((txP (h 55) tp j).1 = true ∧ (txP (h 55) tp j).2.1 = tp ∧ sk_o [54, 55, 61, 62] h h1 ∧ (∀ k, ¬ k = 11 → ¬ k = 12 → ¬ k = 13 → ¬ k = 14 → ¬ k = 15 → h1 54 k = h 54 k) ∧ h1 55 = txR (h 55) j (txP (h 55) tp j).2.2 ∧ some (.int 1) = r)))) := by
  refine sk_K.of (by decide +kernel) (Nat.le_of_ble_eq_true rfl) ?_
  show sk_S l E (d + 75) _ 0 [some (.ref 54), some (.int x), none, none] [] h _
  refine sk_S.iload_n (i := 1) (dd DX8_text 0 rfl) rfl rfl ?_
  refine sk_S.iconst (v := 0) (dd DX8_text 1 rfl) (by decide) ?_
  refine sk_S.iconst (v := 1) (dd DX8_text 2 rfl) (by decide) ?_
  refine sk_S.callS (dd DX8_text 3 rfl) rfl kX8_47 cM_in rfl rfl rfl (Nat.le_of_ble_eq_true rfl) (fun r3 h3 q3 => ?_)
  obtain ⟨rfl, rfl⟩ := q3
  show sk_S _ _ _ _ _ _ (.int _ :: _) _ _
  refine sk_S.bif_ne (tgt := 16) (dd DX8_text 4 rfl) (by decide) (fun c6 => ?_) (fun c6 => ?_)
  · obtain ⟨j, hj, rfl⟩ := (inN_le (n := 2) (by decide)).mp c6
    refine sk_S.aload_n (i := 0) (dd DX8_text 9 rfl) rfl rfl ?_
    refine sk_S.iload_n (i := 1) (dd DX8_text 10 rfl) rfl rfl ?_
    refine sk_S.putf (dd DX8_text 11 rfl) rfl pX8_113 se_54 (by decide) rfl rfl rfl ?_
    refine sk_S.aload_n (i := 0) (dd DX8_text 12 rfl) rfl rfl ?_
    refine sk_S.iconst (v := 0) (dd DX8_text 13 rfl) (by decide) ?_
    refine sk_S.putf (dd DX8_text 14 rfl) rfl pX8_110 se_54 (by decide) rfl rfl rfl ?_
    refine sk_S.aload_n (i := 0) (dd DX8_text 15 rfl) rfl rfl ?_
    refine sk_S.iconst (v := 0) (dd DX8_text 16 rfl) (by decide) ?_
    refine sk_S.putf (dd DX8_text 17 rfl) rfl pX8_106 se_54 (by decide) rfl rfl rfl ?_
    refine sk_S.aload_n (i := 0) (dd DX8_text 18 rfl) rfl rfl ?_
    refine sk_S.iconst (v := 0) (dd DX8_text 19 rfl) (by decide) ?_
    refine sk_S.putf (dd DX8_text 20 rfl) rfl pX8_128 se_54 (by decide) rfl rfl rfl ?_
    refine sk_S.aload_n (i := 0) (dd DX8_text 21 rfl) rfl rfl ?_
    refine sk_S.iconst (v := 0) (dd DX8_text 22 rfl) (by decide) ?_
    refine sk_S.putf (dd DX8_text 23 rfl) rfl pX8_120 se_54 (by decide) rfl rfl rfl ?_
    have psA := (psAll (l := l) (E := E) (h := (sk_u (sk_u (sk_u (sk_u (sk_u h 54 15 (nI j)) 54 11 0) 54 12 0) 54 13 0) 54 14 0)) (ρ := h 55) (tp := tp) (u := j) rfl htp ht (by simp [sk_u_at]) hj 36).1
    have psi0 : psI (sk_u (sk_u (sk_u (sk_u (sk_u h 54 15 (nI j)) 54 11 0) 54 12 0) 54 13 0) 54 14 0) (sk_u (sk_u (sk_u (sk_u (sk_u h 54 15 (nI j)) 54 11 0) 54 12 0) 54 13 0) 54 14 0) 0 0 [] := ⟨⟨sk_o.rf, fun _ _ _ _ _ => rfl, by simp [sk_u_at]; rfl, by simp [sk_u_at]; rfl⟩, by simp [sk_u_at], by simp [sk_u_at]; rfl, Nat.le_refl _, fun i q hq => by simp at hq⟩
    have psA2 : sk_K l E (d + 74) MX8_any [.ref 54] (sk_u (sk_u (sk_u (sk_u (sk_u h 54 15 (nI j)) 54 11 0) 54 12 0) 54 13 0) 54 14 0) (fun r h1 => psR (sk_u (sk_u (sk_u (sk_u (sk_u h 54 15 (nI j)) 54 11 0) 54 12 0) 54 13 0) 54 14 0) h1 tp 0 (txP (h 55) tp j) ∧ none = r) := by
      have q := psA d 0 0 [] _ (by decide) (Nat.zero_le _) (by decide) psi0
      rw [show 2 * 36 + d + 2 = d + 74 from by omega] at q
      exact q
    refine sk_S.aload_n (i := 0) (dd DX8_text 24 rfl) rfl rfl ?_
    refine sk_S.callV (dd DX8_text 25 rfl) rfl kX8_134 psA2 se_54 (by decide) rfl rfl rfl rfl (Nat.le_of_ble_eq_true rfl) (fun r42 h42 q42 => ?_)
    obtain ⟨y, rfl⟩ := q42
    have yB := y.B
    have e55 : h42 55 = h 55 := yB.1 55 (by decide)
    show sk_S _ _ _ _ 45 _ _ _ _
    refine sk_S.aload_n (i := 0) (dd DX8_text 26 rfl) rfl rfl ?_
    refine sk_S.aload_n (i := 0) (dd DX8_text 27 rfl) rfl rfl ?_
    refine sk_S.geti (dd DX8_text 28 rfl) rfl fX8_120 se_54 (by decide) rfl ?_
    refine sk_S.if_ne (tgt := 67) (dd DX8_text 29 rfl) (by decide) (fun c50 => ?_) (fun c50 => ?_)
    · refine sk_S.iconst (v := 1) (dd DX8_text 37 rfl) (by decide) ?_
      refine sk_S.goto (tgt := 72) (dd DX8_text 38 rfl) (by decide) ?_
      refine sk_S.putf (dd DX8_text 40 rfl) rfl pX8_120 se_54 (by decide) rfl rfl rfl ?_
      refine sk_S.aload_n (i := 0) (dd DX8_text 41 rfl) rfl rfl ?_
      refine sk_S.getr (dd DX8_text 42 rfl) rfl fX8_9 se_54 (by decide) rfl ?_
      refine sk_S.bipush (v := 7) (dd DX8_text 43 rfl) (by decide) ?_
      refine sk_S.iconst (v := 0) (dd DX8_text 44 rfl) (by decide) ?_
      refine sk_S.iast (dd DX8_text 45 rfl) se_55 (j := 7) ⟨by decide, by decide, by decide⟩ ?_
      refine sk_S.aload_n (i := 0) (dd DX8_text 46 rfl) rfl rfl ?_
      refine sk_S.geti (dd DX8_text 47 rfl) rfl fX8_120 se_54 (by decide) rfl ?_
      refine sk_S.if_eq (tgt := 98) (dd DX8_text 48 rfl) (by decide) (fun c87 => absurd c87 (show ¬ (1 : Int32) = 0 by decide)) (fun c87 => ?_)
      refine sk_S.bipush (v := -10) (dd DX8_text 49 rfl) (by decide) ?_
      refine sk_S.aload_n (i := 0) (dd DX8_text 50 rfl) rfl rfl ?_
      refine sk_S.geti (dd DX8_text 51 rfl) rfl fX8_106 se_54 (by decide) rfl ?_
      refine sk_S.isub (dd DX8_text 52 rfl) ?_
      refine sk_S.iret (dd DX8_text 53 rfl) rfl rfl ?_
      refine Or.inr ⟨j, hj, rfl, Or.inl ⟨Or.inl (y.no c50).1, ?_, ?_, ?_, ?_⟩⟩
      · exact (((((((sk_o.rf (h := h)).u (by decide)).u (by decide)).u (by decide)).u (by decide)).u (by decide)).tr (yB.1.more (by decide))).u (k := 54) (by decide) |>.u (k := 55) (by decide)
      · intro k k1 k2 k3 k4 k5
        simp only [sk_u_at, if_neg k4]
        simp
        rw [yB.2.1 k k1 k2 k3 k4]
        simp [sk_u_at, k1, k2, k3, k4, k5]
      · rw [sk_u, sk_r_eq]
        show upd (h42 55) 7 0 = _
        rw [e55]
      · simp only [sk_u_at]
        simp
        rw [yB.2.2.1]
    · refine sk_S.aload_n (i := 0) (dd DX8_text 30 rfl) rfl rfl ?_
      refine sk_S.geti (dd DX8_text 31 rfl) rfl fX8_106 se_54 (by decide) rfl ?_
      refine sk_S.aload_n (i := 0) (dd DX8_text 32 rfl) rfl rfl ?_
      refine sk_S.getr (dd DX8_text 33 rfl) rfl fX8_9 se_54 (by decide) rfl ?_
      refine sk_S.bipush (v := 7) (dd DX8_text 34 rfl) (by decide) ?_
      refine sk_S.iald (dd DX8_text 35 rfl) se_55 (j := 7) ⟨by decide, by decide, by decide⟩ ?_
      refine sk_S.icmp_ge (tgt := 71) (dd DX8_text 36 rfl) (by decide) (fun c64 => ?_) (fun c64 => ?_)
      · refine sk_S.iconst (v := 0) (dd DX8_text 39 rfl) (by decide) ?_
        refine sk_S.putf (dd DX8_text 40 rfl) rfl pX8_120 se_54 (by decide) rfl rfl rfl ?_
        refine sk_S.aload_n (i := 0) (dd DX8_text 41 rfl) rfl rfl ?_
        refine sk_S.getr (dd DX8_text 42 rfl) rfl fX8_9 se_54 (by decide) rfl ?_
        refine sk_S.bipush (v := 7) (dd DX8_text 43 rfl) (by decide) ?_
        refine sk_S.iconst (v := 0) (dd DX8_text 44 rfl) (by decide) ?_
        refine sk_S.iast (dd DX8_text 45 rfl) se_55 (j := 7) ⟨by decide, by decide, by decide⟩ ?_
        refine sk_S.aload_n (i := 0) (dd DX8_text 46 rfl) rfl rfl ?_
        refine sk_S.geti (dd DX8_text 47 rfl) rfl fX8_120 se_54 (by decide) rfl ?_
        refine sk_S.if_eq (tgt := 98) (dd DX8_text 48 rfl) (by decide) (fun c87 => ?_) (fun c87 => absurd rfl c87)
        refine sk_S.bipush (v := 119) (dd DX8_text 54 rfl) (by decide) ?_
        refine sk_S.bipush (v := 121) (dd DX8_text 55 rfl) (by decide) ?_
        refine sk_S.iload_n (i := 1) (dd DX8_text 56 rfl) rfl rfl ?_
        refine sk_S.imul (dd DX8_text 57 rfl) ?_
        refine sk_S.iadd (dd DX8_text 58 rfl) ?_
        refine sk_S.istore_n (i := 2) (dd DX8_text 59 rfl) rfl (Nat.le_of_ble_eq_true rfl) rfl ?_
        refine sk_S.L (L1 := [some (.ref 54), some (.int (nI j)), some (.int (nI (119 + 121 * j))), none]) ?_ (by rw [← ix_at]; rfl)
        refine sk_S.aload_n (i := 0) (dd DX8_text 60 rfl) rfl rfl ?_
        refine sk_S.getr (dd DX8_text 61 rfl) rfl fX8_9 se_54 (by decide) rfl ?_
        refine sk_S.iload_n (i := 2) (dd DX8_text 62 rfl) rfl rfl ?_
        refine sk_S.aload_n (i := 0) (dd DX8_text 63 rfl) rfl rfl ?_
        refine sk_S.geti (dd DX8_text 64 rfl) rfl fX8_110 se_54 (by decide) rfl ?_
        refine sk_S.iast (dd DX8_text 65 rfl) se_55 (sk_ix_nI (k := 119 + 121 * j) rfl (by omega) (by decide)) ?_
        refine sk_S.iconst (v := 0) (dd DX8_text 66 rfl) (by decide) ?_
        refine sk_S.istore_n (i := 3) (dd DX8_text 67 rfl) rfl (Nat.le_of_ble_eq_true rfl) rfl ?_
        have f2 := (y.ok c50).2
        have hy := y.1
        have hlen := f2.2.2.2.1
        have hfull : (txP (h 55) tp j).2.1 = tp := by
          rw [yB.2.2.1, e55, htp, nI_leI (by omega) (by omega)] at c64
          omega
        refine sk_S.mono (lp_text (ρ0 := upd (upd (h 55) 7 0) (119 + 121 * j) (nI (txP (h 55) tp j).2.2.length)) (os := (txP (h 55) tp j).2.2) hj ?_ (by omega) ?_ (txP (h 55) tp j).2.2.length 0 _ (Nat.zero_add _) sk_o.rf ?_) ?_
        · exact f2.2.2.1
        · exact f2.2.2.2.2
        · rw [sk_u, sk_r_eq, sk_u, sk_r_eq]
          show upd (upd (h42 55) 7 0) _ (h42 54 11) = _
          rw [e55, f2.2.2.1]
          rfl
        · rintro r h1 ⟨q1, q2, q3⟩
          refine Or.inr ⟨j, hj, rfl, Or.inr ⟨(y.ok c50).1, hfull, ?_, ?_, q2, q3⟩⟩
          · exact ((((((((((sk_o.rf (h := h)).u (by decide)).u (by decide)).u (by decide)).u (by decide)).u (by decide)).tr (yB.1.more (by decide))).u (k := 54) (by decide)).u (k := 55) (by decide)).u (k := 55) (by decide)).tr (q1.more (by decide))
          · intro k k1 k2 k3 k4 k5
            rw [q1 54 (by decide)]
            simp only [sk_u_at, if_neg k4]
            simp
            rw [yB.2.1 k k1 k2 k3 k4]
            simp [sk_u_at, k1, k2, k3, k4, k5]
      · refine sk_S.iconst (v := 1) (dd DX8_text 37 rfl) (by decide) ?_
        refine sk_S.goto (tgt := 72) (dd DX8_text 38 rfl) (by decide) ?_
        refine sk_S.putf (dd DX8_text 40 rfl) rfl pX8_120 se_54 (by decide) rfl rfl rfl ?_
        refine sk_S.aload_n (i := 0) (dd DX8_text 41 rfl) rfl rfl ?_
        refine sk_S.getr (dd DX8_text 42 rfl) rfl fX8_9 se_54 (by decide) rfl ?_
        refine sk_S.bipush (v := 7) (dd DX8_text 43 rfl) (by decide) ?_
        refine sk_S.iconst (v := 0) (dd DX8_text 44 rfl) (by decide) ?_
        refine sk_S.iast (dd DX8_text 45 rfl) se_55 (j := 7) ⟨by decide, by decide, by decide⟩ ?_
        refine sk_S.aload_n (i := 0) (dd DX8_text 46 rfl) rfl rfl ?_
        refine sk_S.geti (dd DX8_text 47 rfl) rfl fX8_120 se_54 (by decide) rfl ?_
        refine sk_S.if_eq (tgt := 98) (dd DX8_text 48 rfl) (by decide) (fun c87 => absurd c87 (show ¬ (1 : Int32) = 0 by decide)) (fun c87 => ?_)
        refine sk_S.bipush (v := -10) (dd DX8_text 49 rfl) (by decide) ?_
        refine sk_S.aload_n (i := 0) (dd DX8_text 50 rfl) rfl rfl ?_
        refine sk_S.geti (dd DX8_text 51 rfl) rfl fX8_106 se_54 (by decide) rfl ?_
        refine sk_S.isub (dd DX8_text 52 rfl) ?_
        refine sk_S.iret (dd DX8_text 53 rfl) rfl rfl ?_
        refine Or.inr ⟨j, hj, rfl, Or.inl ⟨Or.inr (by rw [yB.2.2.1, e55, htp, nI_leI (by omega) (by have := y.1; omega)] at c64; omega), ?_, ?_, ?_, ?_⟩⟩
        · exact (((((((sk_o.rf (h := h)).u (by decide)).u (by decide)).u (by decide)).u (by decide)).u (by decide)).tr (yB.1.more (by decide))).u (k := 54) (by decide) |>.u (k := 55) (by decide)
        · intro k k1 k2 k3 k4 k5
          simp only [sk_u_at, if_neg k4]
          simp
          rw [yB.2.1 k k1 k2 k3 k4]
          simp [sk_u_at, k1, k2, k3, k4, k5]
        · rw [sk_u, sk_r_eq]
          show upd (h42 55) 7 0 = _
          rw [e55]
        · simp only [sk_u_at]
          simp
          rw [yB.2.2.1]
  · refine sk_S.aload_n (i := 0) (dd DX8_text 5 rfl) rfl rfl ?_
    refine sk_S.ldc (dd DX8_text 6 rfl) rfl cnX8_73 ?_
    refine sk_S.callV (dd DX8_text 7 rfl) rfl kX8_74 (cM_error (k := 1) ⟨by decide, by decide, by decide⟩) se_54 (by decide) rfl rfl rfl rfl (Nat.le_of_ble_eq_true rfl) (fun r12 h12 q12 => ?_)
    obtain ⟨rfl, rfl⟩ := q12
    show sk_S _ _ _ _ _ _ (.int _ :: _) _ _
    refine sk_S.iret (dd DX8_text 8 rfl) rfl rfl ?_
    exact Or.inl ⟨fun q => c6 ((inN_le (by decide)).mpr q), rfl, rfl⟩
end M19
