section M18
set_option maxRecDepth 100000 in
set_option maxHeartbeats 4000000 in
theorem ps_compares {l : Launch} {E : sk_V} {h : sk_M} {ρ : Nat → Int32} {tp u n : Nat} (hρ : h 55 = ρ) (htp : ρ 7 = nI tp) (ht : tp ≤ 60) (hU : h 54 15 = nI u) (hu : u < 2) (hS : psK l E h ρ tp u n 3 MX8_sum) : psK l E h ρ tp u (n + 1) 2 MX8_compares := by
  intro d op p o g hop hp hnd hI
  rw [show 2 * (n + 1) + d + 2 = 2 * n + d + 4 from by omega]
  refine sk_K.of (by decide +kernel) (Nat.le_of_ble_eq_true rfl) ?_
  show sk_S l E (2 * n + d + 4) _ 0 [some (.ref 54), none] [] g _
  refine sk_S.aload_n (i := 0) (dd DX8_compares 0 rfl) rfl rfl ?_
  refine sk_S.callV (dd DX8_compares 1 rfl) rfl kX8_150 (hS (d + 1) op p o g hop hp (by unfold ndD at *; omega) hI) se_54 (by decide) rfl rfl rfl rfl (Nat.le_of_ble_eq_true rfl) (fun r1 h1 q1 => ?_)
  obtain ⟨y, rfl⟩ := q1
  have yB := y.B
  have y1 := y.1
  have e55 : h1 55 = ρ := (yB.1 55 (by decide)).trans hρ
  have e12 := yB.2.2.1
  show sk_S _ _ _ _ 4 _ _ _ _
  refine sk_S.aload_n (i := 0) (dd DX8_compares 2 rfl) rfl rfl ?_
  refine sk_S.callV (dd DX8_compares 3 rfl) rfl kX8_116 (cM_look e55 htp ht e12 (by omega)) se_54 (by decide) rfl rfl rfl rfl (Nat.le_of_ble_eq_true rfl) (fun r5 h5 q5 => ?_)
  obtain ⟨rfl, rfl⟩ := q5
  show sk_S _ _ _ _ _ _ (.int _ :: _) _ _
  refine sk_S.istore_n (i := 1) (dd DX8_compares 4 rfl) rfl (Nat.le_of_ble_eq_true rfl) rfl ?_
  refine sk_S.aload_n (i := 0) (dd DX8_compares 5 rfl) rfl rfl ?_
  refine sk_S.geti (dd DX8_compares 6 rfl) rfl fX8_120 se_54 (by decide) rfl ?_
  refine sk_S.if_ne (tgt := 54) (dd DX8_compares 7 rfl) (by decide) (fun c13 => ?_) (fun c13 => ?_)
  · refine sk_S.vret (dd DX8_compares 29 rfl) rfl ?_
    obtain ⟨f1, f2⟩ := y.no c13
    rw [pP_no (by decide) f1]
    exact ⟨y, rfl⟩
  · refine sk_S.iload_n (i := 1) (dd DX8_compares 8 rfl) rfl rfl ?_
    refine sk_S.bipush (v := 60) (dd DX8_compares 9 rfl) (by decide) ?_
    refine sk_S.icmp_eq (tgt := 34) (dd DX8_compares 10 rfl) (by decide) (fun c19 => ?_) (fun c19 => ?_)
    · obtain ⟨f1, f2⟩ := y.ok c13
      have hlv : lvP (tkT ρ tp (pP (tkT ρ tp) u n 3 op p o).2.1) = 2 := lv_2.mpr (by rw [c19]; decide)
      have hlt : (pP (tkT ρ tp) u n 3 op p o).2.1 < tp := tk_lt (g := ρ) (by rw [hlv]; decide)
      refine sk_S.aload_n (i := 0) (dd DX8_compares 17 rfl) rfl rfl ?_
      refine sk_S.dup (dd DX8_compares 18 rfl) rfl ?_
      refine sk_S.geti (dd DX8_compares 19 rfl) rfl fX8_106 se_54 (by decide) rfl ?_
      refine sk_S.iconst (v := 1) (dd DX8_compares 20 rfl) (by decide) ?_
      refine sk_S.iadd (dd DX8_compares 21 rfl) ?_
      refine sk_S.putf (dd DX8_compares 22 rfl) rfl pX8_106 se_54 (by decide) rfl rfl rfl ?_
      refine sk_S.aload_n (i := 0) (dd DX8_compares 23 rfl) rfl rfl ?_
      refine sk_S.callV (dd DX8_compares 24 rfl) rfl kX8_150 (hS (d + 1) op ((pP (tkT ρ tp) u n 3 op p o).2.1 + 1) (pP (tkT ρ tp) u n 3 op p o).2.2 _ hop hlt (by unfold ndD at *; omega) f2.step) se_54 (by decide) rfl rfl rfl rfl (Nat.le_of_ble_eq_true rfl) (fun r45 h45 q45 => ?_)
      obtain ⟨y2, rfl⟩ := q45
      obtain ⟨n9, hn9, hl9⟩ := y2.laid ht
      show sk_S _ _ _ _ 48 _ _ _ _
      refine sk_S.aload_n (i := 0) (dd DX8_compares 25 rfl) rfl rfl ?_
      refine sk_S.iload_n (i := 1) (dd DX8_compares 26 rfl) rfl rfl ?_
      refine sk_S.iconst (v := 0) (dd DX8_compares 27 rfl) (by decide) ?_
      refine sk_S.callV (dd DX8_compares 28 rfl) rfl kX8_124 (cM_lays hl9 hn9) se_54 (by decide) rfl rfl rfl rfl (Nat.le_of_ble_eq_true rfl) (fun r51 h51 q51 => ?_)
      obtain ⟨o9, a9, l9, rfl⟩ := q51
      show sk_S _ _ _ _ 54 _ _ _ _
      refine sk_S.vret (dd DX8_compares 29 rfl) rfl ?_
      rw [pP_yes (by decide) f1, if_pos rfl]
      rcases y2.2 with ⟨g1, g2⟩ | ⟨g1, g2⟩
      · have hlen := pP_len n 3 op ((pP (tkT ρ tp) u n 3 op p o).2.1 + 1) (pP (tkT ρ tp) u n 3 op p o).2.2 g1
        have hy := y2.1
        have ho := f2.2.2.2.1
        rw [lp_yes hlv g1]
        exact ⟨⟨y2.1, Or.inl ⟨rfl, g2.lay o9 a9 l9 hl9 hn9 (by omega) (by omega)⟩⟩, rfl⟩
      · rw [lp_no hlv g1]
        exact ⟨⟨y2.1, Or.inr ⟨g1, g2.lay o9 a9 l9⟩⟩, rfl⟩
    · refine sk_S.iload_n (i := 1) (dd DX8_compares 11 rfl) rfl rfl ?_
      refine sk_S.bipush (v := 61) (dd DX8_compares 12 rfl) (by decide) ?_
      refine sk_S.icmp_eq (tgt := 34) (dd DX8_compares 13 rfl) (by decide) (fun c25 => ?_) (fun c25 => ?_)
      · obtain ⟨f1, f2⟩ := y.ok c13
        have hlv : lvP (tkT ρ tp (pP (tkT ρ tp) u n 3 op p o).2.1) = 2 := lv_2.mpr (by rw [c25]; decide)
        have hlt : (pP (tkT ρ tp) u n 3 op p o).2.1 < tp := tk_lt (g := ρ) (by rw [hlv]; decide)
        refine sk_S.aload_n (i := 0) (dd DX8_compares 17 rfl) rfl rfl ?_
        refine sk_S.dup (dd DX8_compares 18 rfl) rfl ?_
        refine sk_S.geti (dd DX8_compares 19 rfl) rfl fX8_106 se_54 (by decide) rfl ?_
        refine sk_S.iconst (v := 1) (dd DX8_compares 20 rfl) (by decide) ?_
        refine sk_S.iadd (dd DX8_compares 21 rfl) ?_
        refine sk_S.putf (dd DX8_compares 22 rfl) rfl pX8_106 se_54 (by decide) rfl rfl rfl ?_
        refine sk_S.aload_n (i := 0) (dd DX8_compares 23 rfl) rfl rfl ?_
        refine sk_S.callV (dd DX8_compares 24 rfl) rfl kX8_150 (hS (d + 1) op ((pP (tkT ρ tp) u n 3 op p o).2.1 + 1) (pP (tkT ρ tp) u n 3 op p o).2.2 _ hop hlt (by unfold ndD at *; omega) f2.step) se_54 (by decide) rfl rfl rfl rfl (Nat.le_of_ble_eq_true rfl) (fun r45 h45 q45 => ?_)
        obtain ⟨y2, rfl⟩ := q45
        obtain ⟨n9, hn9, hl9⟩ := y2.laid ht
        show sk_S _ _ _ _ 48 _ _ _ _
        refine sk_S.aload_n (i := 0) (dd DX8_compares 25 rfl) rfl rfl ?_
        refine sk_S.iload_n (i := 1) (dd DX8_compares 26 rfl) rfl rfl ?_
        refine sk_S.iconst (v := 0) (dd DX8_compares 27 rfl) (by decide) ?_
        refine sk_S.callV (dd DX8_compares 28 rfl) rfl kX8_124 (cM_lays hl9 hn9) se_54 (by decide) rfl rfl rfl rfl (Nat.le_of_ble_eq_true rfl) (fun r51 h51 q51 => ?_)
        obtain ⟨o9, a9, l9, rfl⟩ := q51
        show sk_S _ _ _ _ 54 _ _ _ _
        refine sk_S.vret (dd DX8_compares 29 rfl) rfl ?_
        rw [pP_yes (by decide) f1, if_pos rfl]
        rcases y2.2 with ⟨g1, g2⟩ | ⟨g1, g2⟩
        · have hlen := pP_len n 3 op ((pP (tkT ρ tp) u n 3 op p o).2.1 + 1) (pP (tkT ρ tp) u n 3 op p o).2.2 g1
          have hy := y2.1
          have ho := f2.2.2.2.1
          rw [lp_yes hlv g1]
          exact ⟨⟨y2.1, Or.inl ⟨rfl, g2.lay o9 a9 l9 hl9 hn9 (by omega) (by omega)⟩⟩, rfl⟩
        · rw [lp_no hlv g1]
          exact ⟨⟨y2.1, Or.inr ⟨g1, g2.lay o9 a9 l9⟩⟩, rfl⟩
      · refine sk_S.iload_n (i := 1) (dd DX8_compares 14 rfl) rfl rfl ?_
        refine sk_S.bipush (v := 62) (dd DX8_compares 15 rfl) (by decide) ?_
        refine sk_S.icmp_ne (tgt := 54) (dd DX8_compares 16 rfl) (by decide) (fun c31 => ?_) (fun c31 => ?_)
        · refine sk_S.vret (dd DX8_compares 29 rfl) rfl ?_
          obtain ⟨f1, f2⟩ := y.ok c13
          have hlv : ¬ lvP (tkT ρ tp (pP (tkT ρ tp) u n 3 op p o).2.1) = 2 := fun q => by
            have q2 := lv_2.mp q
            simp only [List.mem_cons, List.not_mem_nil, or_false] at q2
            rcases q2 with q2 | q2 | q2
            · exact c19 q2
            · exact c25 q2
            · exact c31 q2
          rw [pP_yes (by decide) f1, lp_out hlv]
          exact ⟨⟨y.1, Or.inl ⟨rfl, f2⟩⟩, rfl⟩
        · obtain ⟨f1, f2⟩ := y.ok c13
          have hlv : lvP (tkT ρ tp (pP (tkT ρ tp) u n 3 op p o).2.1) = 2 := lv_2.mpr (by rw [c31]; decide)
          have hlt : (pP (tkT ρ tp) u n 3 op p o).2.1 < tp := tk_lt (g := ρ) (by rw [hlv]; decide)
          refine sk_S.aload_n (i := 0) (dd DX8_compares 17 rfl) rfl rfl ?_
          refine sk_S.dup (dd DX8_compares 18 rfl) rfl ?_
          refine sk_S.geti (dd DX8_compares 19 rfl) rfl fX8_106 se_54 (by decide) rfl ?_
          refine sk_S.iconst (v := 1) (dd DX8_compares 20 rfl) (by decide) ?_
          refine sk_S.iadd (dd DX8_compares 21 rfl) ?_
          refine sk_S.putf (dd DX8_compares 22 rfl) rfl pX8_106 se_54 (by decide) rfl rfl rfl ?_
          refine sk_S.aload_n (i := 0) (dd DX8_compares 23 rfl) rfl rfl ?_
          refine sk_S.callV (dd DX8_compares 24 rfl) rfl kX8_150 (hS (d + 1) op ((pP (tkT ρ tp) u n 3 op p o).2.1 + 1) (pP (tkT ρ tp) u n 3 op p o).2.2 _ hop hlt (by unfold ndD at *; omega) f2.step) se_54 (by decide) rfl rfl rfl rfl (Nat.le_of_ble_eq_true rfl) (fun r45 h45 q45 => ?_)
          obtain ⟨y2, rfl⟩ := q45
          obtain ⟨n9, hn9, hl9⟩ := y2.laid ht
          show sk_S _ _ _ _ 48 _ _ _ _
          refine sk_S.aload_n (i := 0) (dd DX8_compares 25 rfl) rfl rfl ?_
          refine sk_S.iload_n (i := 1) (dd DX8_compares 26 rfl) rfl rfl ?_
          refine sk_S.iconst (v := 0) (dd DX8_compares 27 rfl) (by decide) ?_
          refine sk_S.callV (dd DX8_compares 28 rfl) rfl kX8_124 (cM_lays hl9 hn9) se_54 (by decide) rfl rfl rfl rfl (Nat.le_of_ble_eq_true rfl) (fun r51 h51 q51 => ?_)
          obtain ⟨o9, a9, l9, rfl⟩ := q51
          show sk_S _ _ _ _ 54 _ _ _ _
          refine sk_S.vret (dd DX8_compares 29 rfl) rfl ?_
          rw [pP_yes (by decide) f1, if_pos rfl]
          rcases y2.2 with ⟨g1, g2⟩ | ⟨g1, g2⟩
          · have hlen := pP_len n 3 op ((pP (tkT ρ tp) u n 3 op p o).2.1 + 1) (pP (tkT ρ tp) u n 3 op p o).2.2 g1
            have hy := y2.1
            have ho := f2.2.2.2.1
            rw [lp_yes hlv g1]
            exact ⟨⟨y2.1, Or.inl ⟨rfl, g2.lay o9 a9 l9 hl9 hn9 (by omega) (by omega)⟩⟩, rfl⟩
          · rw [lp_no hlv g1]
            exact ⟨⟨y2.1, Or.inr ⟨g1, g2.lay o9 a9 l9⟩⟩, rfl⟩
set_option maxRecDepth 100000 in
set_option maxHeartbeats 4000000 in
theorem ps_opens {l : Launch} {E : sk_V} {h : sk_M} {ρ : Nat → Int32} {tp u n : Nat} (hρ : h 55 = ρ) (htp : ρ 7 = nI tp) (ht : tp ≤ 60) (hU : h 54 15 = nI u) (hu : u < 2) (hS5 : psK l E h ρ tp u n 5 MX8_one) (hS0 : psK l E h ρ tp u n 0 MX8_any) {d op p : Nat} {o : psO} {g : sk_M} {b : Int32} (hop : op ≤ 5) (hp : p < tp) (hnd : ndD op 5 ≤ n + 1) (hI : psI h g op p o) (hb : tkT ρ tp p = b) (hb2 : b = 33 ∨ b = 40) (hnm : ¬ 0 ≤ nmI u (tkT ρ tp p)) : sk_K l E (2 * n + d + 3) MX8_opens [.ref 54, .int b] g (fun r h1 => psR h h1 tp op (itP (pP (tkT ρ tp) u n 5 (op + 1)) (pP (tkT ρ tp) u n 0 (op + 1)) (tkT ρ tp) u op p o) ∧ none = r) := by
  refine sk_K.of (by decide +kernel) (Nat.le_of_ble_eq_true rfl) ?_
  show sk_S l E (2 * n + d + 3) _ 0 [some (.ref 54), some (.int b)] [] g _
  refine sk_S.aload_n (i := 0) (dd DX8_opens 0 rfl) rfl rfl ?_
  refine sk_S.geti (dd DX8_opens 1 rfl) rfl fX8_128 se_54 (by decide) rfl ?_
  refine sk_S.iconst (v := 5) (dd DX8_opens 2 rfl) (by decide) ?_
  refine sk_S.icmp_ne (tgt := 14) (dd DX8_opens 3 rfl) (by decide) (fun c5 => ?_) (fun c5 => ?_)
  · refine sk_S.aload_n (i := 0) (dd DX8_opens 8 rfl) rfl rfl ?_
    refine sk_S.dup (dd DX8_opens 9 rfl) rfl ?_
    refine sk_S.geti (dd DX8_opens 10 rfl) rfl fX8_128 se_54 (by decide) rfl ?_
    refine sk_S.iconst (v := 1) (dd DX8_opens 11 rfl) (by decide) ?_
    refine sk_S.iadd (dd DX8_opens 12 rfl) ?_
    refine sk_S.putf (dd DX8_opens 13 rfl) rfl pX8_128 se_54 (by decide) rfl rfl rfl ?_
    refine sk_S.aload_n (i := 0) (dd DX8_opens 14 rfl) rfl rfl ?_
    refine sk_S.dup (dd DX8_opens 15 rfl) rfl ?_
    refine sk_S.geti (dd DX8_opens 16 rfl) rfl fX8_106 se_54 (by decide) rfl ?_
    refine sk_S.iconst (v := 1) (dd DX8_opens 17 rfl) (by decide) ?_
    refine sk_S.iadd (dd DX8_opens 18 rfl) ?_
    refine sk_S.putf (dd DX8_opens 19 rfl) rfl pX8_106 se_54 (by decide) rfl rfl rfl ?_
    have h5 : ¬ op = 5 := fun q => c5 (by rw [hI.1.2.2.2, q]; rfl)
    have hI1 : psI h (sk_u g 54 13 (g 54 13 + 1)) (op + 1) p o := hI.up (sk_o.rf.u (by decide)) (fun k k1 k2 k3 => by simp [sk_u_at, k1, k2, k3]) (by simp [sk_u_at]; exact hI.1.2.2.1) (by simp [sk_u_at]; rw [hI.1.2.2.2, nI_succ]) (by simp [sk_u_at]; exact hI.2.1) hI.2.2.2.1
    refine sk_S.iload_n (i := 1) (dd DX8_opens 20 rfl) rfl rfl ?_
    refine sk_S.bipush (v := 33) (dd DX8_opens 21 rfl) (by decide) ?_
    refine sk_S.icmp_ne (tgt := 53) (dd DX8_opens 22 rfl) (by decide) (fun c37 => ?_) (fun c37 => ?_)
    · refine sk_S.aload_n (i := 0) (dd DX8_opens 30 rfl) rfl rfl ?_
      refine sk_S.callV (dd DX8_opens 31 rfl) rfl kX8_134 (hS0 d (op + 1) (p + 1) o _ (by omega) hp (by unfold ndD at *; omega) hI1.step) se_54 (by decide) rfl rfl rfl rfl (Nat.le_of_ble_eq_true rfl) (fun r54 h54 q54 => ?_)
      obtain ⟨y, rfl⟩ := q54
      have yB := y.B
      have e55 : h54 55 = ρ := (yB.1 55 (by decide)).trans hρ
      show sk_S _ _ _ _ 57 _ _ _ _
      refine sk_S.aload_n (i := 0) (dd DX8_opens 32 rfl) rfl rfl ?_
      refine sk_S.aload_n (i := 0) (dd DX8_opens 33 rfl) rfl rfl ?_
      refine sk_S.geti (dd DX8_opens 34 rfl) rfl fX8_120 se_54 (by decide) rfl ?_
      refine sk_S.if_ne (tgt := 74) (dd DX8_opens 35 rfl) (by decide) (fun c62 => ?_) (fun c62 => ?_)
      · refine sk_S.iconst (v := 1) (dd DX8_opens 40 rfl) (by decide) ?_
        refine sk_S.goto (tgt := 79) (dd DX8_opens 41 rfl) (by decide) ?_
        refine sk_S.putf (dd DX8_opens 43 rfl) rfl pX8_120 se_54 (by decide) rfl rfl rfl ?_
        refine sk_S.aload_n (i := 0) (dd DX8_opens 44 rfl) rfl rfl ?_
        refine sk_S.dup (dd DX8_opens 45 rfl) rfl ?_
        refine sk_S.geti (dd DX8_opens 46 rfl) rfl fX8_106 se_54 (by decide) rfl ?_
        refine sk_S.aload_n (i := 0) (dd DX8_opens 47 rfl) rfl rfl ?_
        refine sk_S.geti (dd DX8_opens 48 rfl) rfl fX8_120 se_54 (by decide) rfl ?_
        refine sk_S.if_eq (tgt := 98) (dd DX8_opens 49 rfl) (by decide) (fun c91 => absurd c91 (show ¬ (1 : Int32) = 0 by decide)) (fun c91 => ?_)
        refine sk_S.iconst (v := 0) (dd DX8_opens 50 rfl) (by decide) ?_
        refine sk_S.goto (tgt := 99) (dd DX8_opens 51 rfl) (by decide) ?_
        refine sk_S.iadd (dd DX8_opens 53 rfl) ?_
        refine sk_S.putf (dd DX8_opens 54 rfl) rfl pX8_106 se_54 (by decide) rfl rfl rfl ?_
        refine sk_S.aload_n (i := 0) (dd DX8_opens 55 rfl) rfl rfl ?_
        refine sk_S.dup (dd DX8_opens 56 rfl) rfl ?_
        refine sk_S.geti (dd DX8_opens 57 rfl) rfl fX8_128 se_54 (by decide) rfl ?_
        refine sk_S.iconst (v := 1) (dd DX8_opens 58 rfl) (by decide) ?_
        refine sk_S.isub (dd DX8_opens 59 rfl) ?_
        refine sk_S.putf (dd DX8_opens 60 rfl) rfl pX8_128 se_54 (by decide) rfl rfl rfl ?_
        refine sk_S.vret (dd DX8_opens 61 rfl) rfl ?_
        have e40 : tkT ρ tp p = 40 := hb.trans (hb2.resolve_left c37)
        have e3 : ¬ tkT ρ tp p = 33 := by rw [e40]; decide
        obtain ⟨f1, f2⟩ := y.no c62
        have e : (itP (pP (tkT ρ tp) u n 5 (op + 1)) (pP (tkT ρ tp) u n 0 (op + 1)) (tkT ρ tp) u op p o) = (pP (tkT ρ tp) u n 0 (op + 1)) (p + 1) o := by
          unfold itP
          rw [if_neg hnm, if_neg e3, if_pos e40, if_neg h5, if_neg (by rw [f1]; exact Bool.false_ne_true)]
        rw [e]
        exact ⟨⟨y.1, Or.inr ⟨f1, psF.up f2.1 f2.2.2 (((sk_o.rf.u (by decide)).u (by decide)).u (by decide)) (fun k k1 k2 k3 => by simp [sk_u_at, k1, k2, k3]) (by simp [sk_u_at]; exact f2.1.2.2.1) (by simp [sk_u_at]; rw [f2.1.2.2.2, nI_p1]) (by simp [sk_u_at])⟩⟩, rfl⟩
      · obtain ⟨f1, f2⟩ := y.ok c62
        have e12 := f2.1.2.2.1
        have hy := y.1
        refine sk_S.aload_n (i := 0) (dd DX8_opens 36 rfl) rfl rfl ?_
        refine sk_S.callV (dd DX8_opens 37 rfl) rfl kX8_116 (cM_look e55 htp ht e12 (by omega)) se_54 (by decide) rfl rfl rfl rfl (Nat.le_of_ble_eq_true rfl) (fun r66 h66 q66 => ?_)
        obtain ⟨rfl, rfl⟩ := q66
        show sk_S _ _ _ _ _ _ (.int _ :: _) _ _
        refine sk_S.bipush (v := 41) (dd DX8_opens 38 rfl) (by decide) ?_
        refine sk_S.icmp_eq (tgt := 78) (dd DX8_opens 39 rfl) (by decide) (fun c71 => ?_) (fun c71 => ?_)
        · refine sk_S.iconst (v := 0) (dd DX8_opens 42 rfl) (by decide) ?_
          refine sk_S.putf (dd DX8_opens 43 rfl) rfl pX8_120 se_54 (by decide) rfl rfl rfl ?_
          refine sk_S.aload_n (i := 0) (dd DX8_opens 44 rfl) rfl rfl ?_
          refine sk_S.dup (dd DX8_opens 45 rfl) rfl ?_
          refine sk_S.geti (dd DX8_opens 46 rfl) rfl fX8_106 se_54 (by decide) rfl ?_
          refine sk_S.aload_n (i := 0) (dd DX8_opens 47 rfl) rfl rfl ?_
          refine sk_S.geti (dd DX8_opens 48 rfl) rfl fX8_120 se_54 (by decide) rfl ?_
          refine sk_S.if_eq (tgt := 98) (dd DX8_opens 49 rfl) (by decide) (fun c91 => ?_) (fun c91 => absurd rfl c91)
          refine sk_S.iconst (v := 1) (dd DX8_opens 52 rfl) (by decide) ?_
          refine sk_S.iadd (dd DX8_opens 53 rfl) ?_
          refine sk_S.putf (dd DX8_opens 54 rfl) rfl pX8_106 se_54 (by decide) rfl rfl rfl ?_
          refine sk_S.aload_n (i := 0) (dd DX8_opens 55 rfl) rfl rfl ?_
          refine sk_S.dup (dd DX8_opens 56 rfl) rfl ?_
          refine sk_S.geti (dd DX8_opens 57 rfl) rfl fX8_128 se_54 (by decide) rfl ?_
          refine sk_S.iconst (v := 1) (dd DX8_opens 58 rfl) (by decide) ?_
          refine sk_S.isub (dd DX8_opens 59 rfl) ?_
          refine sk_S.putf (dd DX8_opens 60 rfl) rfl pX8_128 se_54 (by decide) rfl rfl rfl ?_
          refine sk_S.vret (dd DX8_opens 61 rfl) rfl ?_
          have e40 : tkT ρ tp p = 40 := hb.trans (hb2.resolve_left c37)
          have e3 : ¬ tkT ρ tp p = 33 := by rw [e40]; decide
          have hlt : ((pP (tkT ρ tp) u n 0 (op + 1)) (p + 1) o).2.1 < tp := by
            apply Decidable.byContradiction
            intro q
            rw [tk_no (by omega)] at c71
            exact absurd c71 (by decide)
          have e : (itP (pP (tkT ρ tp) u n 5 (op + 1)) (pP (tkT ρ tp) u n 0 (op + 1)) (tkT ρ tp) u op p o) = (true, ((pP (tkT ρ tp) u n 0 (op + 1)) (p + 1) o).2.1 + 1, ((pP (tkT ρ tp) u n 0 (op + 1)) (p + 1) o).2.2) := by
            unfold itP
            rw [if_neg hnm, if_neg e3, if_pos e40, if_neg h5, if_pos f1, if_pos c71]
          rw [e]
          exact ⟨⟨hlt, Or.inl ⟨rfl, f2.up (((sk_o.rf.u (by decide)).u (by decide)).u (by decide)) (fun k k1 k2 k3 => by simp [sk_u_at, k1, k2, k3]) (by simp [sk_u_at]; rw [f2.1.2.2.1, nI_succ]) (by simp [sk_u_at]; rw [f2.1.2.2.2, nI_p1]) (by simp [sk_u_at]) (by have := f2.2.2.2.1; dsimp only; omega)⟩⟩, rfl⟩
        · refine sk_S.iconst (v := 1) (dd DX8_opens 40 rfl) (by decide) ?_
          refine sk_S.goto (tgt := 79) (dd DX8_opens 41 rfl) (by decide) ?_
          refine sk_S.putf (dd DX8_opens 43 rfl) rfl pX8_120 se_54 (by decide) rfl rfl rfl ?_
          refine sk_S.aload_n (i := 0) (dd DX8_opens 44 rfl) rfl rfl ?_
          refine sk_S.dup (dd DX8_opens 45 rfl) rfl ?_
          refine sk_S.geti (dd DX8_opens 46 rfl) rfl fX8_106 se_54 (by decide) rfl ?_
          refine sk_S.aload_n (i := 0) (dd DX8_opens 47 rfl) rfl rfl ?_
          refine sk_S.geti (dd DX8_opens 48 rfl) rfl fX8_120 se_54 (by decide) rfl ?_
          refine sk_S.if_eq (tgt := 98) (dd DX8_opens 49 rfl) (by decide) (fun c91 => absurd c91 (show ¬ (1 : Int32) = 0 by decide)) (fun c91 => ?_)
          refine sk_S.iconst (v := 0) (dd DX8_opens 50 rfl) (by decide) ?_
          refine sk_S.goto (tgt := 99) (dd DX8_opens 51 rfl) (by decide) ?_
          refine sk_S.iadd (dd DX8_opens 53 rfl) ?_
          refine sk_S.putf (dd DX8_opens 54 rfl) rfl pX8_106 se_54 (by decide) rfl rfl rfl ?_
          refine sk_S.aload_n (i := 0) (dd DX8_opens 55 rfl) rfl rfl ?_
          refine sk_S.dup (dd DX8_opens 56 rfl) rfl ?_
          refine sk_S.geti (dd DX8_opens 57 rfl) rfl fX8_128 se_54 (by decide) rfl ?_
          refine sk_S.iconst (v := 1) (dd DX8_opens 58 rfl) (by decide) ?_
          refine sk_S.isub (dd DX8_opens 59 rfl) ?_
          refine sk_S.putf (dd DX8_opens 60 rfl) rfl pX8_128 se_54 (by decide) rfl rfl rfl ?_
          refine sk_S.vret (dd DX8_opens 61 rfl) rfl ?_
          have e40 : tkT ρ tp p = 40 := hb.trans (hb2.resolve_left c37)
          have e3 : ¬ tkT ρ tp p = 33 := by rw [e40]; decide
          have e : (itP (pP (tkT ρ tp) u n 5 (op + 1)) (pP (tkT ρ tp) u n 0 (op + 1)) (tkT ρ tp) u op p o) = (false, ((pP (tkT ρ tp) u n 0 (op + 1)) (p + 1) o).2.1, o) := by
            unfold itP
            rw [if_neg hnm, if_neg e3, if_pos e40, if_neg h5, if_pos f1, if_neg c71]
          rw [e]
          exact ⟨⟨y.1, Or.inr ⟨rfl, psF.up f2.1 (y.laid ht) (((sk_o.rf.u (by decide)).u (by decide)).u (by decide)) (fun k k1 k2 k3 => by simp [sk_u_at, k1, k2, k3]) (by simp [sk_u_at]; exact f2.1.2.2.1) (by simp [sk_u_at]; rw [f2.1.2.2.2, nI_p1]) (by simp [sk_u_at])⟩⟩, rfl⟩
    · refine sk_S.aload_n (i := 0) (dd DX8_opens 23 rfl) rfl rfl ?_
      refine sk_S.callV (dd DX8_opens 24 rfl) rfl kX8_131 (hS5 d (op + 1) (p + 1) o _ (by omega) hp (by unfold ndD at *; omega) hI1.step) se_54 (by decide) rfl rfl rfl rfl (Nat.le_of_ble_eq_true rfl) (fun r41 h41 q41 => ?_)
      obtain ⟨y, rfl⟩ := q41
      obtain ⟨n9, hn9, hl9⟩ := y.laid ht
      show sk_S _ _ _ _ 44 _ _ _ _
      refine sk_S.aload_n (i := 0) (dd DX8_opens 25 rfl) rfl rfl ?_
      refine sk_S.iconst (v := 3) (dd DX8_opens 26 rfl) (by decide) ?_
      refine sk_S.iconst (v := 0) (dd DX8_opens 27 rfl) (by decide) ?_
      refine sk_S.callV (dd DX8_opens 28 rfl) rfl kX8_124 (cM_lays hl9 hn9) se_54 (by decide) rfl rfl rfl rfl (Nat.le_of_ble_eq_true rfl) (fun r47 h47 q47 => ?_)
      obtain ⟨o9, a9, l9, rfl⟩ := q47
      show sk_S _ _ _ _ 50 _ _ _ _
      refine sk_S.goto (tgt := 103) (dd DX8_opens 29 rfl) (by decide) ?_
      refine sk_S.aload_n (i := 0) (dd DX8_opens 55 rfl) rfl rfl ?_
      refine sk_S.dup (dd DX8_opens 56 rfl) rfl ?_
      refine sk_S.geti (dd DX8_opens 57 rfl) rfl fX8_128 se_54 (by decide) rfl ?_
      refine sk_S.iconst (v := 1) (dd DX8_opens 58 rfl) (by decide) ?_
      refine sk_S.isub (dd DX8_opens 59 rfl) ?_
      refine sk_S.putf (dd DX8_opens 60 rfl) rfl pX8_128 se_54 (by decide) rfl rfl rfl ?_
      refine sk_S.vret (dd DX8_opens 61 rfl) rfl ?_
      have e33 : tkT ρ tp p = 33 := hb.trans c37
      rcases y.2 with ⟨f1, f2⟩ | ⟨f1, f2⟩
      · have hlen := pP_len n 5 (op + 1) (p + 1) o f1
        have hy := y.1
        have ho := hI.2.2.2.1
        have e : (itP (pP (tkT ρ tp) u n 5 (op + 1)) (pP (tkT ρ tp) u n 0 (op + 1)) (tkT ρ tp) u op p o) = (true, ((pP (tkT ρ tp) u n 5 (op + 1)) (p + 1) o).2.1, ((pP (tkT ρ tp) u n 5 (op + 1)) (p + 1) o).2.2 ++ [(3, 0)]) := by
          unfold itP
          rw [if_neg hnm, if_pos e33, if_neg h5, if_pos f1]
        rw [e]
        have z := f2.lay o9 a9 l9 hl9 hn9 (by omega) (by omega)
        exact ⟨⟨y.1, Or.inl ⟨rfl, z.up (sk_o.rf.u (by decide)) (fun k k1 k2 k3 => by simp [sk_u_at, k1, k2, k3]) (by simp [sk_u_at]; exact z.1.2.2.1) (by simp [sk_u_at]; rw [z.1.2.2.2, nI_p1]) (by simp [sk_u_at]; exact z.2.1) z.2.2.2.1⟩⟩, rfl⟩
      · have e : (itP (pP (tkT ρ tp) u n 5 (op + 1)) (pP (tkT ρ tp) u n 0 (op + 1)) (tkT ρ tp) u op p o) = (pP (tkT ρ tp) u n 5 (op + 1)) (p + 1) o := by
          unfold itP
          rw [if_neg hnm, if_pos e33, if_neg h5, if_neg (by rw [f1]; exact Bool.false_ne_true)]
        rw [e]
        have z := f2.lay o9 a9 l9
        exact ⟨⟨y.1, Or.inr ⟨f1, psF.up z.1 z.2.2 (sk_o.rf.u (by decide)) (fun k k1 k2 k3 => by simp [sk_u_at, k1, k2, k3]) (by simp [sk_u_at]; exact z.1.2.2.1) (by simp [sk_u_at]; rw [z.1.2.2.2, nI_p1]) (by simp [sk_u_at]; exact z.2.1)⟩⟩, rfl⟩
  · refine sk_S.aload_n (i := 0) (dd DX8_opens 4 rfl) rfl rfl ?_
    refine sk_S.iconst (v := 1) (dd DX8_opens 5 rfl) (by decide) ?_
    refine sk_S.putf (dd DX8_opens 6 rfl) rfl pX8_120 se_54 (by decide) rfl rfl rfl ?_
    refine sk_S.vret (dd DX8_opens 7 rfl) rfl ?_
    have h5 : op = 5 := nI_inj (by omega) (by decide) (hI.1.2.2.2.symm.trans c5)
    have e : (itP (pP (tkT ρ tp) u n 5 (op + 1)) (pP (tkT ρ tp) u n 0 (op + 1)) (tkT ρ tp) u op p o) = (false, p, o) := by
      unfold itP
      rw [if_neg hnm]
      rcases hb2 with rfl | rfl
      · rw [if_pos hb, if_pos h5]
      · rw [if_neg (by rw [hb]; decide), if_pos hb, if_pos h5]
    rw [e]
    exact ⟨⟨by show p ≤ tp; omega, Or.inr ⟨rfl, psF.up hI.1 ⟨_, by have := hI.2.2.2.1; omega, hI.2.2.1⟩ (sk_o.rf.u (by decide)) (fun k k1 k2 k3 => by simp [sk_u_at, k1, k2, k3]) (by simp [sk_u_at]; exact hI.1.2.2.1) (by simp [sk_u_at]; exact hI.1.2.2.2) (by simp [sk_u_at])⟩⟩, rfl⟩
end M18
