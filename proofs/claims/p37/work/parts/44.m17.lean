section M17
set_option maxRecDepth 100000 in
set_option maxHeartbeats 4000000 in
theorem lf_times {l : Launch} {E : sk_V} {d : Nat} {g : sk_M} {x1 : Option Value} (hbad : ¬ g 54 14 = 0) : sk_S l E d MX8_times 4 [some (.ref 54), x1] [] g (fun r h1 => g = h1 ∧ none = r) := by
  refine sk_S.aload_n (i := 0) (dd DX8_times 2 rfl) rfl rfl ?_
  refine sk_S.geti (dd DX8_times 3 rfl) rfl fX8_120 se_54 (by decide) rfl ?_
  refine sk_S.if_ne (tgt := 66) (dd DX8_times 4 rfl) (by decide) (fun c8 => ?_) (fun c8 => absurd c8 hbad)
  refine sk_S.vret (dd DX8_times 33 rfl) rfl ?_
  exact ⟨rfl, rfl⟩
set_option maxRecDepth 100000 in
set_option maxHeartbeats 4000000 in
theorem lp_times {l : Launch} {E : sk_V} {h : sk_M} {ρ : Nat → Int32} {tp u n : Nat} (hρ : h 55 = ρ) (htp : ρ 7 = nI tp) (ht : tp ≤ 60) (hU : h 54 15 = nI u) (hu : u < 2) (hS : psK l E h ρ tp u n 5 MX8_one) {d op : Nat} (hop : op ≤ 5) (hnd : ndD op 4 ≤ n + 1) : ∀ (c p : Nat) (o : psO) (g : sk_M) (x1 : Option Value), 60 ≤ c + p → p ≤ tp → psI h g op p o → sk_S l E (2 * n + d + 4) MX8_times 4 [some (.ref 54), x1] [] g (fun r h1 => psR h h1 tp op (lpP (pP (tkT ρ tp) u n 5 op) (tkT ρ tp) 4 c p o) ∧ none = r)
  | 0, p, o, g, x1, hc, hp, hI => by
    have e55 : g 55 = ρ := (hI.1.1 55 (by decide)).trans hρ
    have e12 : g 54 12 = nI p := hI.1.2.2.1
    refine sk_S.aload_n (i := 0) (dd DX8_times 2 rfl) rfl rfl ?_
    refine sk_S.geti (dd DX8_times 3 rfl) rfl fX8_120 se_54 (by decide) rfl ?_
    refine sk_S.if_ne (tgt := 66) (dd DX8_times 4 rfl) (by decide) (fun c8 => absurd hI.2.1 c8) (fun c8 => ?_)
    refine sk_S.aload_n (i := 0) (dd DX8_times 5 rfl) rfl rfl ?_
    refine sk_S.callV (dd DX8_times 6 rfl) rfl kX8_116 (cM_look e55 htp ht e12 (by omega)) se_54 (by decide) rfl rfl rfl rfl (Nat.le_of_ble_eq_true rfl) (fun r12 h12 q12 => ?_)
    obtain ⟨rfl, rfl⟩ := q12
    show sk_S _ _ _ _ _ _ (.int _ :: _) _ _
    refine sk_S.bipush (v := 42) (dd DX8_times 7 rfl) (by decide) ?_
    refine sk_S.icmp_eq (tgt := 38) (dd DX8_times 8 rfl) (by decide) (fun c17 => absurd c17 (by rw [tk_no (by omega)]; decide)) (fun c17 => ?_)
    refine sk_S.aload_n (i := 0) (dd DX8_times 9 rfl) rfl rfl ?_
    refine sk_S.callV (dd DX8_times 10 rfl) rfl kX8_116 (cM_look e55 htp ht e12 (by omega)) se_54 (by decide) rfl rfl rfl rfl (Nat.le_of_ble_eq_true rfl) (fun r21 h21 q21 => ?_)
    obtain ⟨rfl, rfl⟩ := q21
    show sk_S _ _ _ _ _ _ (.int _ :: _) _ _
    refine sk_S.bipush (v := 47) (dd DX8_times 11 rfl) (by decide) ?_
    refine sk_S.icmp_eq (tgt := 38) (dd DX8_times 12 rfl) (by decide) (fun c26 => absurd c26 (by rw [tk_no (by omega)]; decide)) (fun c26 => ?_)
    refine sk_S.aload_n (i := 0) (dd DX8_times 13 rfl) rfl rfl ?_
    refine sk_S.callV (dd DX8_times 14 rfl) rfl kX8_116 (cM_look e55 htp ht e12 (by omega)) se_54 (by decide) rfl rfl rfl rfl (Nat.le_of_ble_eq_true rfl) (fun r30 h30 q30 => ?_)
    obtain ⟨rfl, rfl⟩ := q30
    show sk_S _ _ _ _ _ _ (.int _ :: _) _ _
    refine sk_S.bipush (v := 37) (dd DX8_times 15 rfl) (by decide) ?_
    refine sk_S.icmp_ne (tgt := 66) (dd DX8_times 16 rfl) (by decide) (fun c35 => ?_) (fun c35 => absurd c35 (by rw [tk_no (by omega)]; decide))
    refine sk_S.vret (dd DX8_times 33 rfl) rfl ?_
    exact ⟨⟨hp, Or.inl ⟨rfl, hI⟩⟩, rfl⟩
  | c + 1, p, o, g, x1, hc, hp, hI => by
    have e55 : g 55 = ρ := (hI.1.1 55 (by decide)).trans hρ
    have e12 : g 54 12 = nI p := hI.1.2.2.1
    refine sk_S.aload_n (i := 0) (dd DX8_times 2 rfl) rfl rfl ?_
    refine sk_S.geti (dd DX8_times 3 rfl) rfl fX8_120 se_54 (by decide) rfl ?_
    refine sk_S.if_ne (tgt := 66) (dd DX8_times 4 rfl) (by decide) (fun c8 => absurd hI.2.1 c8) (fun c8 => ?_)
    refine sk_S.aload_n (i := 0) (dd DX8_times 5 rfl) rfl rfl ?_
    refine sk_S.callV (dd DX8_times 6 rfl) rfl kX8_116 (cM_look e55 htp ht e12 (by omega)) se_54 (by decide) rfl rfl rfl rfl (Nat.le_of_ble_eq_true rfl) (fun r12 h12 q12 => ?_)
    obtain ⟨rfl, rfl⟩ := q12
    show sk_S _ _ _ _ _ _ (.int _ :: _) _ _
    refine sk_S.bipush (v := 42) (dd DX8_times 7 rfl) (by decide) ?_
    refine sk_S.icmp_eq (tgt := 38) (dd DX8_times 8 rfl) (by decide) (fun c17 => ?_) (fun c17 => ?_)
    · have hlv : lvP (tkT ρ tp p) = 4 := lv_4.mpr (by rw [c17]; decide)
      have hlt : p < tp := tk_lt (g := ρ) (by rw [hlv]; decide)
      refine sk_S.aload_n (i := 0) (dd DX8_times 17 rfl) rfl rfl ?_
      refine sk_S.callV (dd DX8_times 18 rfl) rfl kX8_116 (cM_look e55 htp ht e12 (by omega)) se_54 (by decide) rfl rfl rfl rfl (Nat.le_of_ble_eq_true rfl) (fun r39 h39 q39 => ?_)
      obtain ⟨rfl, rfl⟩ := q39
      show sk_S _ _ _ _ _ _ (.int _ :: _) _ _
      refine sk_S.istore_n (i := 1) (dd DX8_times 19 rfl) rfl (Nat.le_of_ble_eq_true rfl) rfl ?_
      refine sk_S.aload_n (i := 0) (dd DX8_times 20 rfl) rfl rfl ?_
      refine sk_S.dup (dd DX8_times 21 rfl) rfl ?_
      refine sk_S.geti (dd DX8_times 22 rfl) rfl fX8_106 se_54 (by decide) rfl ?_
      refine sk_S.iconst (v := 1) (dd DX8_times 23 rfl) (by decide) ?_
      refine sk_S.iadd (dd DX8_times 24 rfl) ?_
      refine sk_S.putf (dd DX8_times 25 rfl) rfl pX8_106 se_54 (by decide) rfl rfl rfl ?_
      refine sk_S.aload_n (i := 0) (dd DX8_times 26 rfl) rfl rfl ?_
      refine sk_S.callV (dd DX8_times 27 rfl) rfl kX8_131 (hS (d + 1) op (p + 1) o _ hop hlt (by unfold ndD at *; omega) hI.step) se_54 (by decide) rfl rfl rfl rfl (Nat.le_of_ble_eq_true rfl) (fun r54 h54 q54 => ?_)
      obtain ⟨y, rfl⟩ := q54
      obtain ⟨n9, hn9, hl9⟩ := y.laid ht
      show sk_S _ _ _ _ 57 _ _ _ _
      refine sk_S.aload_n (i := 0) (dd DX8_times 28 rfl) rfl rfl ?_
      refine sk_S.iload_n (i := 1) (dd DX8_times 29 rfl) rfl rfl ?_
      refine sk_S.iconst (v := 0) (dd DX8_times 30 rfl) (by decide) ?_
      refine sk_S.callV (dd DX8_times 31 rfl) rfl kX8_124 (cM_lays hl9 hn9) se_54 (by decide) rfl rfl rfl rfl (Nat.le_of_ble_eq_true rfl) (fun r60 h60 q60 => ?_)
      obtain ⟨o9, a9, l9, rfl⟩ := q60
      show sk_S _ _ _ _ 63 _ _ _ _
      refine sk_S.goto (tgt := 4) (dd DX8_times 32 rfl) (by decide) ?_
      rcases y.2 with ⟨f1, f2⟩ | ⟨f1, f2⟩
      · have hlen := pP_len n 5 op (p + 1) o f1
        have hy := y.1
        have ho := hI.2.2.2.1
        rw [lp_yes hlv f1]
        refine sk_S.L (lp_times hρ htp ht hU hu hS hop hnd c _ _ _ (some (.int (tkT ρ tp p))) (by omega) y.1 ?_) rfl
        exact f2.lay o9 a9 l9 hl9 hn9 (by omega) (by omega)
      · rw [lp_no hlv f1]
        have f3 := f2.lay o9 a9 l9
        refine sk_S.mono (lf_times (by rw [f3.2.1]; decide)) ?_
        rintro r h1 ⟨rfl, rfl⟩
        exact ⟨⟨y.1, Or.inr ⟨f1, f3⟩⟩, rfl⟩
    · refine sk_S.aload_n (i := 0) (dd DX8_times 9 rfl) rfl rfl ?_
      refine sk_S.callV (dd DX8_times 10 rfl) rfl kX8_116 (cM_look e55 htp ht e12 (by omega)) se_54 (by decide) rfl rfl rfl rfl (Nat.le_of_ble_eq_true rfl) (fun r21 h21 q21 => ?_)
      obtain ⟨rfl, rfl⟩ := q21
      show sk_S _ _ _ _ _ _ (.int _ :: _) _ _
      refine sk_S.bipush (v := 47) (dd DX8_times 11 rfl) (by decide) ?_
      refine sk_S.icmp_eq (tgt := 38) (dd DX8_times 12 rfl) (by decide) (fun c26 => ?_) (fun c26 => ?_)
      · have hlv : lvP (tkT ρ tp p) = 4 := lv_4.mpr (by rw [c26]; decide)
        have hlt : p < tp := tk_lt (g := ρ) (by rw [hlv]; decide)
        refine sk_S.aload_n (i := 0) (dd DX8_times 17 rfl) rfl rfl ?_
        refine sk_S.callV (dd DX8_times 18 rfl) rfl kX8_116 (cM_look e55 htp ht e12 (by omega)) se_54 (by decide) rfl rfl rfl rfl (Nat.le_of_ble_eq_true rfl) (fun r39 h39 q39 => ?_)
        obtain ⟨rfl, rfl⟩ := q39
        show sk_S _ _ _ _ _ _ (.int _ :: _) _ _
        refine sk_S.istore_n (i := 1) (dd DX8_times 19 rfl) rfl (Nat.le_of_ble_eq_true rfl) rfl ?_
        refine sk_S.aload_n (i := 0) (dd DX8_times 20 rfl) rfl rfl ?_
        refine sk_S.dup (dd DX8_times 21 rfl) rfl ?_
        refine sk_S.geti (dd DX8_times 22 rfl) rfl fX8_106 se_54 (by decide) rfl ?_
        refine sk_S.iconst (v := 1) (dd DX8_times 23 rfl) (by decide) ?_
        refine sk_S.iadd (dd DX8_times 24 rfl) ?_
        refine sk_S.putf (dd DX8_times 25 rfl) rfl pX8_106 se_54 (by decide) rfl rfl rfl ?_
        refine sk_S.aload_n (i := 0) (dd DX8_times 26 rfl) rfl rfl ?_
        refine sk_S.callV (dd DX8_times 27 rfl) rfl kX8_131 (hS (d + 1) op (p + 1) o _ hop hlt (by unfold ndD at *; omega) hI.step) se_54 (by decide) rfl rfl rfl rfl (Nat.le_of_ble_eq_true rfl) (fun r54 h54 q54 => ?_)
        obtain ⟨y, rfl⟩ := q54
        obtain ⟨n9, hn9, hl9⟩ := y.laid ht
        show sk_S _ _ _ _ 57 _ _ _ _
        refine sk_S.aload_n (i := 0) (dd DX8_times 28 rfl) rfl rfl ?_
        refine sk_S.iload_n (i := 1) (dd DX8_times 29 rfl) rfl rfl ?_
        refine sk_S.iconst (v := 0) (dd DX8_times 30 rfl) (by decide) ?_
        refine sk_S.callV (dd DX8_times 31 rfl) rfl kX8_124 (cM_lays hl9 hn9) se_54 (by decide) rfl rfl rfl rfl (Nat.le_of_ble_eq_true rfl) (fun r60 h60 q60 => ?_)
        obtain ⟨o9, a9, l9, rfl⟩ := q60
        show sk_S _ _ _ _ 63 _ _ _ _
        refine sk_S.goto (tgt := 4) (dd DX8_times 32 rfl) (by decide) ?_
        rcases y.2 with ⟨f1, f2⟩ | ⟨f1, f2⟩
        · have hlen := pP_len n 5 op (p + 1) o f1
          have hy := y.1
          have ho := hI.2.2.2.1
          rw [lp_yes hlv f1]
          refine sk_S.L (lp_times hρ htp ht hU hu hS hop hnd c _ _ _ (some (.int (tkT ρ tp p))) (by omega) y.1 ?_) rfl
          exact f2.lay o9 a9 l9 hl9 hn9 (by omega) (by omega)
        · rw [lp_no hlv f1]
          have f3 := f2.lay o9 a9 l9
          refine sk_S.mono (lf_times (by rw [f3.2.1]; decide)) ?_
          rintro r h1 ⟨rfl, rfl⟩
          exact ⟨⟨y.1, Or.inr ⟨f1, f3⟩⟩, rfl⟩
      · refine sk_S.aload_n (i := 0) (dd DX8_times 13 rfl) rfl rfl ?_
        refine sk_S.callV (dd DX8_times 14 rfl) rfl kX8_116 (cM_look e55 htp ht e12 (by omega)) se_54 (by decide) rfl rfl rfl rfl (Nat.le_of_ble_eq_true rfl) (fun r30 h30 q30 => ?_)
        obtain ⟨rfl, rfl⟩ := q30
        show sk_S _ _ _ _ _ _ (.int _ :: _) _ _
        refine sk_S.bipush (v := 37) (dd DX8_times 15 rfl) (by decide) ?_
        refine sk_S.icmp_ne (tgt := 66) (dd DX8_times 16 rfl) (by decide) (fun c35 => ?_) (fun c35 => ?_)
        · refine sk_S.vret (dd DX8_times 33 rfl) rfl ?_
          have hlv : ¬ lvP (tkT ρ tp p) = 4 := fun q => by
            have q2 := lv_4.mp q
            simp only [List.mem_cons, List.not_mem_nil, or_false] at q2
            rcases q2 with q2 | q2 | q2
            · exact c17 q2
            · exact c26 q2
            · exact c35 q2
          rw [lp_out hlv]
          exact ⟨⟨hp, Or.inl ⟨rfl, hI⟩⟩, rfl⟩
        · have hlv : lvP (tkT ρ tp p) = 4 := lv_4.mpr (by rw [c35]; decide)
          have hlt : p < tp := tk_lt (g := ρ) (by rw [hlv]; decide)
          refine sk_S.aload_n (i := 0) (dd DX8_times 17 rfl) rfl rfl ?_
          refine sk_S.callV (dd DX8_times 18 rfl) rfl kX8_116 (cM_look e55 htp ht e12 (by omega)) se_54 (by decide) rfl rfl rfl rfl (Nat.le_of_ble_eq_true rfl) (fun r39 h39 q39 => ?_)
          obtain ⟨rfl, rfl⟩ := q39
          show sk_S _ _ _ _ _ _ (.int _ :: _) _ _
          refine sk_S.istore_n (i := 1) (dd DX8_times 19 rfl) rfl (Nat.le_of_ble_eq_true rfl) rfl ?_
          refine sk_S.aload_n (i := 0) (dd DX8_times 20 rfl) rfl rfl ?_
          refine sk_S.dup (dd DX8_times 21 rfl) rfl ?_
          refine sk_S.geti (dd DX8_times 22 rfl) rfl fX8_106 se_54 (by decide) rfl ?_
          refine sk_S.iconst (v := 1) (dd DX8_times 23 rfl) (by decide) ?_
          refine sk_S.iadd (dd DX8_times 24 rfl) ?_
          refine sk_S.putf (dd DX8_times 25 rfl) rfl pX8_106 se_54 (by decide) rfl rfl rfl ?_
          refine sk_S.aload_n (i := 0) (dd DX8_times 26 rfl) rfl rfl ?_
          refine sk_S.callV (dd DX8_times 27 rfl) rfl kX8_131 (hS (d + 1) op (p + 1) o _ hop hlt (by unfold ndD at *; omega) hI.step) se_54 (by decide) rfl rfl rfl rfl (Nat.le_of_ble_eq_true rfl) (fun r54 h54 q54 => ?_)
          obtain ⟨y, rfl⟩ := q54
          obtain ⟨n9, hn9, hl9⟩ := y.laid ht
          show sk_S _ _ _ _ 57 _ _ _ _
          refine sk_S.aload_n (i := 0) (dd DX8_times 28 rfl) rfl rfl ?_
          refine sk_S.iload_n (i := 1) (dd DX8_times 29 rfl) rfl rfl ?_
          refine sk_S.iconst (v := 0) (dd DX8_times 30 rfl) (by decide) ?_
          refine sk_S.callV (dd DX8_times 31 rfl) rfl kX8_124 (cM_lays hl9 hn9) se_54 (by decide) rfl rfl rfl rfl (Nat.le_of_ble_eq_true rfl) (fun r60 h60 q60 => ?_)
          obtain ⟨o9, a9, l9, rfl⟩ := q60
          show sk_S _ _ _ _ 63 _ _ _ _
          refine sk_S.goto (tgt := 4) (dd DX8_times 32 rfl) (by decide) ?_
          rcases y.2 with ⟨f1, f2⟩ | ⟨f1, f2⟩
          · have hlen := pP_len n 5 op (p + 1) o f1
            have hy := y.1
            have ho := hI.2.2.2.1
            rw [lp_yes hlv f1]
            refine sk_S.L (lp_times hρ htp ht hU hu hS hop hnd c _ _ _ (some (.int (tkT ρ tp p))) (by omega) y.1 ?_) rfl
            exact f2.lay o9 a9 l9 hl9 hn9 (by omega) (by omega)
          · rw [lp_no hlv f1]
            have f3 := f2.lay o9 a9 l9
            refine sk_S.mono (lf_times (by rw [f3.2.1]; decide)) ?_
            rintro r h1 ⟨rfl, rfl⟩
            exact ⟨⟨y.1, Or.inr ⟨f1, f3⟩⟩, rfl⟩
set_option maxRecDepth 100000 in
set_option maxHeartbeats 4000000 in
theorem ps_times {l : Launch} {E : sk_V} {h : sk_M} {ρ : Nat → Int32} {tp u n : Nat} (hρ : h 55 = ρ) (htp : ρ 7 = nI tp) (ht : tp ≤ 60) (hU : h 54 15 = nI u) (hu : u < 2) (hS : psK l E h ρ tp u n 5 MX8_one) : psK l E h ρ tp u (n + 1) 4 MX8_times := by
  intro d op p o g hop hp hnd hI
  rw [show 2 * (n + 1) + d + 2 = 2 * n + d + 4 from by omega]
  refine sk_K.of (by decide +kernel) (Nat.le_of_ble_eq_true rfl) ?_
  show sk_S l E (2 * n + d + 4) _ 0 [some (.ref 54), none] [] g _
  refine sk_S.aload_n (i := 0) (dd DX8_times 0 rfl) rfl rfl ?_
  refine sk_S.callV (dd DX8_times 1 rfl) rfl kX8_131 (hS (d + 1) op p o g hop hp (by unfold ndD at *; omega) hI) se_54 (by decide) rfl rfl rfl rfl (Nat.le_of_ble_eq_true rfl) (fun r1 h1 q1 => ?_)
  obtain ⟨y, rfl⟩ := q1
  show sk_S _ _ _ _ 4 _ _ _ _
  rcases y.2 with ⟨f1, f2⟩ | ⟨f1, f2⟩
  · rw [pP_yes (by decide) f1]
    exact lp_times hρ htp ht hU hu hS hop hnd 60 _ _ _ none (by omega) y.1 f2
  · rw [pP_no (by decide) f1]
    refine sk_S.mono (lf_times (by rw [f2.2.1]; decide)) ?_
    rintro r h1 ⟨rfl, rfl⟩
    exact ⟨⟨y.1, Or.inr ⟨f1, f2⟩⟩, rfl⟩
set_option maxRecDepth 100000 in
set_option maxHeartbeats 4000000 in
theorem lf_sum {l : Launch} {E : sk_V} {d : Nat} {g : sk_M} {x1 : Option Value} (hbad : ¬ g 54 14 = 0) : sk_S l E d MX8_sum 4 [some (.ref 54), x1] [] g (fun r h1 => g = h1 ∧ none = r) := by
  refine sk_S.aload_n (i := 0) (dd DX8_sum 2 rfl) rfl rfl ?_
  refine sk_S.geti (dd DX8_sum 3 rfl) rfl fX8_120 se_54 (by decide) rfl ?_
  refine sk_S.if_ne (tgt := 57) (dd DX8_sum 4 rfl) (by decide) (fun c8 => ?_) (fun c8 => absurd c8 hbad)
  refine sk_S.vret (dd DX8_sum 29 rfl) rfl ?_
  exact ⟨rfl, rfl⟩
set_option maxRecDepth 100000 in
set_option maxHeartbeats 4000000 in
theorem lp_sum {l : Launch} {E : sk_V} {h : sk_M} {ρ : Nat → Int32} {tp u n : Nat} (hρ : h 55 = ρ) (htp : ρ 7 = nI tp) (ht : tp ≤ 60) (hU : h 54 15 = nI u) (hu : u < 2) (hS : psK l E h ρ tp u n 4 MX8_times) {d op : Nat} (hop : op ≤ 5) (hnd : ndD op 3 ≤ n + 1) : ∀ (c p : Nat) (o : psO) (g : sk_M) (x1 : Option Value), 60 ≤ c + p → p ≤ tp → psI h g op p o → sk_S l E (2 * n + d + 4) MX8_sum 4 [some (.ref 54), x1] [] g (fun r h1 => psR h h1 tp op (lpP (pP (tkT ρ tp) u n 4 op) (tkT ρ tp) 3 c p o) ∧ none = r)
  | 0, p, o, g, x1, hc, hp, hI => by
    have e55 : g 55 = ρ := (hI.1.1 55 (by decide)).trans hρ
    have e12 : g 54 12 = nI p := hI.1.2.2.1
    refine sk_S.aload_n (i := 0) (dd DX8_sum 2 rfl) rfl rfl ?_
    refine sk_S.geti (dd DX8_sum 3 rfl) rfl fX8_120 se_54 (by decide) rfl ?_
    refine sk_S.if_ne (tgt := 57) (dd DX8_sum 4 rfl) (by decide) (fun c8 => absurd hI.2.1 c8) (fun c8 => ?_)
    refine sk_S.aload_n (i := 0) (dd DX8_sum 5 rfl) rfl rfl ?_
    refine sk_S.callV (dd DX8_sum 6 rfl) rfl kX8_116 (cM_look e55 htp ht e12 (by omega)) se_54 (by decide) rfl rfl rfl rfl (Nat.le_of_ble_eq_true rfl) (fun r12 h12 q12 => ?_)
    obtain ⟨rfl, rfl⟩ := q12
    show sk_S _ _ _ _ _ _ (.int _ :: _) _ _
    refine sk_S.bipush (v := 43) (dd DX8_sum 7 rfl) (by decide) ?_
    refine sk_S.icmp_eq (tgt := 29) (dd DX8_sum 8 rfl) (by decide) (fun c17 => absurd c17 (by rw [tk_no (by omega)]; decide)) (fun c17 => ?_)
    refine sk_S.aload_n (i := 0) (dd DX8_sum 9 rfl) rfl rfl ?_
    refine sk_S.callV (dd DX8_sum 10 rfl) rfl kX8_116 (cM_look e55 htp ht e12 (by omega)) se_54 (by decide) rfl rfl rfl rfl (Nat.le_of_ble_eq_true rfl) (fun r21 h21 q21 => ?_)
    obtain ⟨rfl, rfl⟩ := q21
    show sk_S _ _ _ _ _ _ (.int _ :: _) _ _
    refine sk_S.bipush (v := 45) (dd DX8_sum 11 rfl) (by decide) ?_
    refine sk_S.icmp_ne (tgt := 57) (dd DX8_sum 12 rfl) (by decide) (fun c26 => ?_) (fun c26 => absurd c26 (by rw [tk_no (by omega)]; decide))
    refine sk_S.vret (dd DX8_sum 29 rfl) rfl ?_
    exact ⟨⟨hp, Or.inl ⟨rfl, hI⟩⟩, rfl⟩
  | c + 1, p, o, g, x1, hc, hp, hI => by
    have e55 : g 55 = ρ := (hI.1.1 55 (by decide)).trans hρ
    have e12 : g 54 12 = nI p := hI.1.2.2.1
    refine sk_S.aload_n (i := 0) (dd DX8_sum 2 rfl) rfl rfl ?_
    refine sk_S.geti (dd DX8_sum 3 rfl) rfl fX8_120 se_54 (by decide) rfl ?_
    refine sk_S.if_ne (tgt := 57) (dd DX8_sum 4 rfl) (by decide) (fun c8 => absurd hI.2.1 c8) (fun c8 => ?_)
    refine sk_S.aload_n (i := 0) (dd DX8_sum 5 rfl) rfl rfl ?_
    refine sk_S.callV (dd DX8_sum 6 rfl) rfl kX8_116 (cM_look e55 htp ht e12 (by omega)) se_54 (by decide) rfl rfl rfl rfl (Nat.le_of_ble_eq_true rfl) (fun r12 h12 q12 => ?_)
    obtain ⟨rfl, rfl⟩ := q12
    show sk_S _ _ _ _ _ _ (.int _ :: _) _ _
    refine sk_S.bipush (v := 43) (dd DX8_sum 7 rfl) (by decide) ?_
    refine sk_S.icmp_eq (tgt := 29) (dd DX8_sum 8 rfl) (by decide) (fun c17 => ?_) (fun c17 => ?_)
    · have hlv : lvP (tkT ρ tp p) = 3 := lv_3.mpr (by rw [c17]; decide)
      have hlt : p < tp := tk_lt (g := ρ) (by rw [hlv]; decide)
      refine sk_S.aload_n (i := 0) (dd DX8_sum 13 rfl) rfl rfl ?_
      refine sk_S.callV (dd DX8_sum 14 rfl) rfl kX8_116 (cM_look e55 htp ht e12 (by omega)) se_54 (by decide) rfl rfl rfl rfl (Nat.le_of_ble_eq_true rfl) (fun r30 h30 q30 => ?_)
      obtain ⟨rfl, rfl⟩ := q30
      show sk_S _ _ _ _ _ _ (.int _ :: _) _ _
      refine sk_S.istore_n (i := 1) (dd DX8_sum 15 rfl) rfl (Nat.le_of_ble_eq_true rfl) rfl ?_
      refine sk_S.aload_n (i := 0) (dd DX8_sum 16 rfl) rfl rfl ?_
      refine sk_S.dup (dd DX8_sum 17 rfl) rfl ?_
      refine sk_S.geti (dd DX8_sum 18 rfl) rfl fX8_106 se_54 (by decide) rfl ?_
      refine sk_S.iconst (v := 1) (dd DX8_sum 19 rfl) (by decide) ?_
      refine sk_S.iadd (dd DX8_sum 20 rfl) ?_
      refine sk_S.putf (dd DX8_sum 21 rfl) rfl pX8_106 se_54 (by decide) rfl rfl rfl ?_
      refine sk_S.aload_n (i := 0) (dd DX8_sum 22 rfl) rfl rfl ?_
      refine sk_S.callV (dd DX8_sum 23 rfl) rfl kX8_147 (hS (d + 1) op (p + 1) o _ hop hlt (by unfold ndD at *; omega) hI.step) se_54 (by decide) rfl rfl rfl rfl (Nat.le_of_ble_eq_true rfl) (fun r45 h45 q45 => ?_)
      obtain ⟨y, rfl⟩ := q45
      obtain ⟨n9, hn9, hl9⟩ := y.laid ht
      show sk_S _ _ _ _ 48 _ _ _ _
      refine sk_S.aload_n (i := 0) (dd DX8_sum 24 rfl) rfl rfl ?_
      refine sk_S.iload_n (i := 1) (dd DX8_sum 25 rfl) rfl rfl ?_
      refine sk_S.iconst (v := 0) (dd DX8_sum 26 rfl) (by decide) ?_
      refine sk_S.callV (dd DX8_sum 27 rfl) rfl kX8_124 (cM_lays hl9 hn9) se_54 (by decide) rfl rfl rfl rfl (Nat.le_of_ble_eq_true rfl) (fun r51 h51 q51 => ?_)
      obtain ⟨o9, a9, l9, rfl⟩ := q51
      show sk_S _ _ _ _ 54 _ _ _ _
      refine sk_S.goto (tgt := 4) (dd DX8_sum 28 rfl) (by decide) ?_
      rcases y.2 with ⟨f1, f2⟩ | ⟨f1, f2⟩
      · have hlen := pP_len n 4 op (p + 1) o f1
        have hy := y.1
        have ho := hI.2.2.2.1
        rw [lp_yes hlv f1]
        refine sk_S.L (lp_sum hρ htp ht hU hu hS hop hnd c _ _ _ (some (.int (tkT ρ tp p))) (by omega) y.1 ?_) rfl
        exact f2.lay o9 a9 l9 hl9 hn9 (by omega) (by omega)
      · rw [lp_no hlv f1]
        have f3 := f2.lay o9 a9 l9
        refine sk_S.mono (lf_sum (by rw [f3.2.1]; decide)) ?_
        rintro r h1 ⟨rfl, rfl⟩
        exact ⟨⟨y.1, Or.inr ⟨f1, f3⟩⟩, rfl⟩
    · refine sk_S.aload_n (i := 0) (dd DX8_sum 9 rfl) rfl rfl ?_
      refine sk_S.callV (dd DX8_sum 10 rfl) rfl kX8_116 (cM_look e55 htp ht e12 (by omega)) se_54 (by decide) rfl rfl rfl rfl (Nat.le_of_ble_eq_true rfl) (fun r21 h21 q21 => ?_)
      obtain ⟨rfl, rfl⟩ := q21
      show sk_S _ _ _ _ _ _ (.int _ :: _) _ _
      refine sk_S.bipush (v := 45) (dd DX8_sum 11 rfl) (by decide) ?_
      refine sk_S.icmp_ne (tgt := 57) (dd DX8_sum 12 rfl) (by decide) (fun c26 => ?_) (fun c26 => ?_)
      · refine sk_S.vret (dd DX8_sum 29 rfl) rfl ?_
        have hlv : ¬ lvP (tkT ρ tp p) = 3 := fun q => by
          have q2 := lv_3.mp q
          simp only [List.mem_cons, List.not_mem_nil, or_false] at q2
          rcases q2 with q2 | q2
          · exact c17 q2
          · exact c26 q2
        rw [lp_out hlv]
        exact ⟨⟨hp, Or.inl ⟨rfl, hI⟩⟩, rfl⟩
      · have hlv : lvP (tkT ρ tp p) = 3 := lv_3.mpr (by rw [c26]; decide)
        have hlt : p < tp := tk_lt (g := ρ) (by rw [hlv]; decide)
        refine sk_S.aload_n (i := 0) (dd DX8_sum 13 rfl) rfl rfl ?_
        refine sk_S.callV (dd DX8_sum 14 rfl) rfl kX8_116 (cM_look e55 htp ht e12 (by omega)) se_54 (by decide) rfl rfl rfl rfl (Nat.le_of_ble_eq_true rfl) (fun r30 h30 q30 => ?_)
        obtain ⟨rfl, rfl⟩ := q30
        show sk_S _ _ _ _ _ _ (.int _ :: _) _ _
        refine sk_S.istore_n (i := 1) (dd DX8_sum 15 rfl) rfl (Nat.le_of_ble_eq_true rfl) rfl ?_
        refine sk_S.aload_n (i := 0) (dd DX8_sum 16 rfl) rfl rfl ?_
        refine sk_S.dup (dd DX8_sum 17 rfl) rfl ?_
        refine sk_S.geti (dd DX8_sum 18 rfl) rfl fX8_106 se_54 (by decide) rfl ?_
        refine sk_S.iconst (v := 1) (dd DX8_sum 19 rfl) (by decide) ?_
        refine sk_S.iadd (dd DX8_sum 20 rfl) ?_
        refine sk_S.putf (dd DX8_sum 21 rfl) rfl pX8_106 se_54 (by decide) rfl rfl rfl ?_
        refine sk_S.aload_n (i := 0) (dd DX8_sum 22 rfl) rfl rfl ?_
        refine sk_S.callV (dd DX8_sum 23 rfl) rfl kX8_147 (hS (d + 1) op (p + 1) o _ hop hlt (by unfold ndD at *; omega) hI.step) se_54 (by decide) rfl rfl rfl rfl (Nat.le_of_ble_eq_true rfl) (fun r45 h45 q45 => ?_)
        obtain ⟨y, rfl⟩ := q45
        obtain ⟨n9, hn9, hl9⟩ := y.laid ht
        show sk_S _ _ _ _ 48 _ _ _ _
        refine sk_S.aload_n (i := 0) (dd DX8_sum 24 rfl) rfl rfl ?_
        refine sk_S.iload_n (i := 1) (dd DX8_sum 25 rfl) rfl rfl ?_
        refine sk_S.iconst (v := 0) (dd DX8_sum 26 rfl) (by decide) ?_
        refine sk_S.callV (dd DX8_sum 27 rfl) rfl kX8_124 (cM_lays hl9 hn9) se_54 (by decide) rfl rfl rfl rfl (Nat.le_of_ble_eq_true rfl) (fun r51 h51 q51 => ?_)
        obtain ⟨o9, a9, l9, rfl⟩ := q51
        show sk_S _ _ _ _ 54 _ _ _ _
        refine sk_S.goto (tgt := 4) (dd DX8_sum 28 rfl) (by decide) ?_
        rcases y.2 with ⟨f1, f2⟩ | ⟨f1, f2⟩
        · have hlen := pP_len n 4 op (p + 1) o f1
          have hy := y.1
          have ho := hI.2.2.2.1
          rw [lp_yes hlv f1]
          refine sk_S.L (lp_sum hρ htp ht hU hu hS hop hnd c _ _ _ (some (.int (tkT ρ tp p))) (by omega) y.1 ?_) rfl
          exact f2.lay o9 a9 l9 hl9 hn9 (by omega) (by omega)
        · rw [lp_no hlv f1]
          have f3 := f2.lay o9 a9 l9
          refine sk_S.mono (lf_sum (by rw [f3.2.1]; decide)) ?_
          rintro r h1 ⟨rfl, rfl⟩
          exact ⟨⟨y.1, Or.inr ⟨f1, f3⟩⟩, rfl⟩
set_option maxRecDepth 100000 in
set_option maxHeartbeats 4000000 in
theorem ps_sum {l : Launch} {E : sk_V} {h : sk_M} {ρ : Nat → Int32} {tp u n : Nat} (hρ : h 55 = ρ) (htp : ρ 7 = nI tp) (ht : tp ≤ 60) (hU : h 54 15 = nI u) (hu : u < 2) (hS : psK l E h ρ tp u n 4 MX8_times) : psK l E h ρ tp u (n + 1) 3 MX8_sum := by
  intro d op p o g hop hp hnd hI
  rw [show 2 * (n + 1) + d + 2 = 2 * n + d + 4 from by omega]
  refine sk_K.of (by decide +kernel) (Nat.le_of_ble_eq_true rfl) ?_
  show sk_S l E (2 * n + d + 4) _ 0 [some (.ref 54), none] [] g _
  refine sk_S.aload_n (i := 0) (dd DX8_sum 0 rfl) rfl rfl ?_
  refine sk_S.callV (dd DX8_sum 1 rfl) rfl kX8_147 (hS (d + 1) op p o g hop hp (by unfold ndD at *; omega) hI) se_54 (by decide) rfl rfl rfl rfl (Nat.le_of_ble_eq_true rfl) (fun r1 h1 q1 => ?_)
  obtain ⟨y, rfl⟩ := q1
  show sk_S _ _ _ _ 4 _ _ _ _
  rcases y.2 with ⟨f1, f2⟩ | ⟨f1, f2⟩
  · rw [pP_yes (by decide) f1]
    exact lp_sum hρ htp ht hU hu hS hop hnd 60 _ _ _ none (by omega) y.1 f2
  · rw [pP_no (by decide) f1]
    refine sk_S.mono (lf_sum (by rw [f2.2.1]; decide)) ?_
    rintro r h1 ⟨rfl, rfl⟩
    exact ⟨⟨y.1, Or.inr ⟨f1, f2⟩⟩, rfl⟩
set_option maxRecDepth 100000 in
set_option maxHeartbeats 4000000 in
theorem lf_all {l : Launch} {E : sk_V} {d : Nat} {g : sk_M} (hbad : ¬ g 54 14 = 0) : sk_S l E d MX8_all 4 [some (.ref 54)] [] g (fun r h1 => g = h1 ∧ none = r) := by
  refine sk_S.aload_n (i := 0) (dd DX8_all 2 rfl) rfl rfl ?_
  refine sk_S.geti (dd DX8_all 3 rfl) rfl fX8_120 se_54 (by decide) rfl ?_
  refine sk_S.if_ne (tgt := 44) (dd DX8_all 4 rfl) (by decide) (fun c8 => ?_) (fun c8 => absurd c8 hbad)
  refine sk_S.vret (dd DX8_all 22 rfl) rfl ?_
  exact ⟨rfl, rfl⟩
set_option maxRecDepth 100000 in
set_option maxHeartbeats 4000000 in
theorem lp_all {l : Launch} {E : sk_V} {h : sk_M} {ρ : Nat → Int32} {tp u n : Nat} (hρ : h 55 = ρ) (htp : ρ 7 = nI tp) (ht : tp ≤ 60) (hU : h 54 15 = nI u) (hu : u < 2) (hS : psK l E h ρ tp u n 2 MX8_compares) {d op : Nat} (hop : op ≤ 5) (hnd : ndD op 1 ≤ n + 1) : ∀ (c p : Nat) (o : psO) (g : sk_M) , 60 ≤ c + p → p ≤ tp → psI h g op p o → sk_S l E (2 * n + d + 4) MX8_all 4 [some (.ref 54)] [] g (fun r h1 => psR h h1 tp op (lpP (pP (tkT ρ tp) u n 2 op) (tkT ρ tp) 1 c p o) ∧ none = r)
  | 0, p, o, g, hc, hp, hI => by
    have e55 : g 55 = ρ := (hI.1.1 55 (by decide)).trans hρ
    have e12 : g 54 12 = nI p := hI.1.2.2.1
    refine sk_S.aload_n (i := 0) (dd DX8_all 2 rfl) rfl rfl ?_
    refine sk_S.geti (dd DX8_all 3 rfl) rfl fX8_120 se_54 (by decide) rfl ?_
    refine sk_S.if_ne (tgt := 44) (dd DX8_all 4 rfl) (by decide) (fun c8 => absurd hI.2.1 c8) (fun c8 => ?_)
    refine sk_S.aload_n (i := 0) (dd DX8_all 5 rfl) rfl rfl ?_
    refine sk_S.callV (dd DX8_all 6 rfl) rfl kX8_116 (cM_look e55 htp ht e12 (by omega)) se_54 (by decide) rfl rfl rfl rfl (Nat.le_of_ble_eq_true rfl) (fun r12 h12 q12 => ?_)
    obtain ⟨rfl, rfl⟩ := q12
    show sk_S _ _ _ _ _ _ (.int _ :: _) _ _
    refine sk_S.bipush (v := 38) (dd DX8_all 7 rfl) (by decide) ?_
    refine sk_S.icmp_ne (tgt := 44) (dd DX8_all 8 rfl) (by decide) (fun c17 => ?_) (fun c17 => absurd c17 (by rw [tk_no (by omega)]; decide))
    refine sk_S.vret (dd DX8_all 22 rfl) rfl ?_
    exact ⟨⟨hp, Or.inl ⟨rfl, hI⟩⟩, rfl⟩
  | c + 1, p, o, g, hc, hp, hI => by
    have e55 : g 55 = ρ := (hI.1.1 55 (by decide)).trans hρ
    have e12 : g 54 12 = nI p := hI.1.2.2.1
    refine sk_S.aload_n (i := 0) (dd DX8_all 2 rfl) rfl rfl ?_
    refine sk_S.geti (dd DX8_all 3 rfl) rfl fX8_120 se_54 (by decide) rfl ?_
    refine sk_S.if_ne (tgt := 44) (dd DX8_all 4 rfl) (by decide) (fun c8 => absurd hI.2.1 c8) (fun c8 => ?_)
    refine sk_S.aload_n (i := 0) (dd DX8_all 5 rfl) rfl rfl ?_
    refine sk_S.callV (dd DX8_all 6 rfl) rfl kX8_116 (cM_look e55 htp ht e12 (by omega)) se_54 (by decide) rfl rfl rfl rfl (Nat.le_of_ble_eq_true rfl) (fun r12 h12 q12 => ?_)
    obtain ⟨rfl, rfl⟩ := q12
    show sk_S _ _ _ _ _ _ (.int _ :: _) _ _
    refine sk_S.bipush (v := 38) (dd DX8_all 7 rfl) (by decide) ?_
    refine sk_S.icmp_ne (tgt := 44) (dd DX8_all 8 rfl) (by decide) (fun c17 => ?_) (fun c17 => ?_)
    · refine sk_S.vret (dd DX8_all 22 rfl) rfl ?_
      have hlv : ¬ lvP (tkT ρ tp p) = 1 := fun q => by
        have q2 := lv_1.mp q
        simp only [List.mem_cons, List.not_mem_nil, or_false] at q2
        exact c17 q2
      rw [lp_out hlv]
      exact ⟨⟨hp, Or.inl ⟨rfl, hI⟩⟩, rfl⟩
    · have hlv : lvP (tkT ρ tp p) = 1 := lv_1.mpr (by rw [c17]; decide)
      have hlt : p < tp := tk_lt (g := ρ) (by rw [hlv]; decide)
      refine sk_S.aload_n (i := 0) (dd DX8_all 9 rfl) rfl rfl ?_
      refine sk_S.dup (dd DX8_all 10 rfl) rfl ?_
      refine sk_S.geti (dd DX8_all 11 rfl) rfl fX8_106 se_54 (by decide) rfl ?_
      refine sk_S.iconst (v := 1) (dd DX8_all 12 rfl) (by decide) ?_
      refine sk_S.iadd (dd DX8_all 13 rfl) ?_
      refine sk_S.putf (dd DX8_all 14 rfl) rfl pX8_106 se_54 (by decide) rfl rfl rfl ?_
      refine sk_S.aload_n (i := 0) (dd DX8_all 15 rfl) rfl rfl ?_
      refine sk_S.callV (dd DX8_all 16 rfl) rfl kX8_153 (hS (d + 1) op (p + 1) o _ hop hlt (by unfold ndD at *; omega) hI.step) se_54 (by decide) rfl rfl rfl rfl (Nat.le_of_ble_eq_true rfl) (fun r31 h31 q31 => ?_)
      obtain ⟨y, rfl⟩ := q31
      obtain ⟨n9, hn9, hl9⟩ := y.laid ht
      show sk_S _ _ _ _ 34 _ _ _ _
      refine sk_S.aload_n (i := 0) (dd DX8_all 17 rfl) rfl rfl ?_
      refine sk_S.bipush (v := 38) (dd DX8_all 18 rfl) (by decide) ?_
      refine sk_S.iconst (v := 0) (dd DX8_all 19 rfl) (by decide) ?_
      refine sk_S.callV (dd DX8_all 20 rfl) rfl kX8_124 (cM_lays hl9 hn9) se_54 (by decide) rfl rfl rfl rfl (Nat.le_of_ble_eq_true rfl) (fun r38 h38 q38 => ?_)
      obtain ⟨o9, a9, l9, rfl⟩ := q38
      show sk_S _ _ _ _ 41 _ _ _ _
      refine sk_S.goto (tgt := 4) (dd DX8_all 21 rfl) (by decide) ?_
      rcases y.2 with ⟨f1, f2⟩ | ⟨f1, f2⟩
      · have hlen := pP_len n 2 op (p + 1) o f1
        have hy := y.1
        have ho := hI.2.2.2.1
        rw [lp_yes hlv f1]
        refine sk_S.L (lp_all hρ htp ht hU hu hS hop hnd c _ _ _ (by omega) y.1 ?_) rfl
        rw [c17]
        exact f2.lay o9 a9 l9 hl9 hn9 (by omega) (by omega)
      · rw [lp_no hlv f1]
        have f3 := f2.lay o9 a9 l9
        refine sk_S.mono (lf_all (by rw [f3.2.1]; decide)) ?_
        rintro r h1 ⟨rfl, rfl⟩
        exact ⟨⟨y.1, Or.inr ⟨f1, f3⟩⟩, rfl⟩
set_option maxRecDepth 100000 in
set_option maxHeartbeats 4000000 in
theorem ps_all {l : Launch} {E : sk_V} {h : sk_M} {ρ : Nat → Int32} {tp u n : Nat} (hρ : h 55 = ρ) (htp : ρ 7 = nI tp) (ht : tp ≤ 60) (hU : h 54 15 = nI u) (hu : u < 2) (hS : psK l E h ρ tp u n 2 MX8_compares) : psK l E h ρ tp u (n + 1) 1 MX8_all := by
  intro d op p o g hop hp hnd hI
  rw [show 2 * (n + 1) + d + 2 = 2 * n + d + 4 from by omega]
  refine sk_K.of (by decide +kernel) (Nat.le_of_ble_eq_true rfl) ?_
  show sk_S l E (2 * n + d + 4) _ 0 [some (.ref 54)] [] g _
  refine sk_S.aload_n (i := 0) (dd DX8_all 0 rfl) rfl rfl ?_
  refine sk_S.callV (dd DX8_all 1 rfl) rfl kX8_153 (hS (d + 1) op p o g hop hp (by unfold ndD at *; omega) hI) se_54 (by decide) rfl rfl rfl rfl (Nat.le_of_ble_eq_true rfl) (fun r1 h1 q1 => ?_)
  obtain ⟨y, rfl⟩ := q1
  show sk_S _ _ _ _ 4 _ _ _ _
  rcases y.2 with ⟨f1, f2⟩ | ⟨f1, f2⟩
  · rw [pP_yes (by decide) f1]
    exact lp_all hρ htp ht hU hu hS hop hnd 60 _ _ _ (by omega) y.1 f2
  · rw [pP_no (by decide) f1]
    refine sk_S.mono (lf_all (by rw [f2.2.1]; decide)) ?_
    rintro r h1 ⟨rfl, rfl⟩
    exact ⟨⟨y.1, Or.inr ⟨f1, f2⟩⟩, rfl⟩
set_option maxRecDepth 100000 in
set_option maxHeartbeats 4000000 in
theorem lf_any {l : Launch} {E : sk_V} {d : Nat} {g : sk_M} (hbad : ¬ g 54 14 = 0) : sk_S l E d MX8_any 4 [some (.ref 54)] [] g (fun r h1 => g = h1 ∧ none = r) := by
  refine sk_S.aload_n (i := 0) (dd DX8_any 2 rfl) rfl rfl ?_
  refine sk_S.geti (dd DX8_any 3 rfl) rfl fX8_120 se_54 (by decide) rfl ?_
  refine sk_S.if_ne (tgt := 44) (dd DX8_any 4 rfl) (by decide) (fun c8 => ?_) (fun c8 => absurd c8 hbad)
  refine sk_S.vret (dd DX8_any 22 rfl) rfl ?_
  exact ⟨rfl, rfl⟩
set_option maxRecDepth 100000 in
set_option maxHeartbeats 4000000 in
theorem lp_any {l : Launch} {E : sk_V} {h : sk_M} {ρ : Nat → Int32} {tp u n : Nat} (hρ : h 55 = ρ) (htp : ρ 7 = nI tp) (ht : tp ≤ 60) (hU : h 54 15 = nI u) (hu : u < 2) (hS : psK l E h ρ tp u n 1 MX8_all) {d op : Nat} (hop : op ≤ 5) (hnd : ndD op 0 ≤ n + 1) : ∀ (c p : Nat) (o : psO) (g : sk_M) , 60 ≤ c + p → p ≤ tp → psI h g op p o → sk_S l E (2 * n + d + 4) MX8_any 4 [some (.ref 54)] [] g (fun r h1 => psR h h1 tp op (lpP (pP (tkT ρ tp) u n 1 op) (tkT ρ tp) 0 c p o) ∧ none = r)
  | 0, p, o, g, hc, hp, hI => by
    have e55 : g 55 = ρ := (hI.1.1 55 (by decide)).trans hρ
    have e12 : g 54 12 = nI p := hI.1.2.2.1
    refine sk_S.aload_n (i := 0) (dd DX8_any 2 rfl) rfl rfl ?_
    refine sk_S.geti (dd DX8_any 3 rfl) rfl fX8_120 se_54 (by decide) rfl ?_
    refine sk_S.if_ne (tgt := 44) (dd DX8_any 4 rfl) (by decide) (fun c8 => absurd hI.2.1 c8) (fun c8 => ?_)
    refine sk_S.aload_n (i := 0) (dd DX8_any 5 rfl) rfl rfl ?_
    refine sk_S.callV (dd DX8_any 6 rfl) rfl kX8_116 (cM_look e55 htp ht e12 (by omega)) se_54 (by decide) rfl rfl rfl rfl (Nat.le_of_ble_eq_true rfl) (fun r12 h12 q12 => ?_)
    obtain ⟨rfl, rfl⟩ := q12
    show sk_S _ _ _ _ _ _ (.int _ :: _) _ _
    refine sk_S.bipush (v := 124) (dd DX8_any 7 rfl) (by decide) ?_
    refine sk_S.icmp_ne (tgt := 44) (dd DX8_any 8 rfl) (by decide) (fun c17 => ?_) (fun c17 => absurd c17 (by rw [tk_no (by omega)]; decide))
    refine sk_S.vret (dd DX8_any 22 rfl) rfl ?_
    exact ⟨⟨hp, Or.inl ⟨rfl, hI⟩⟩, rfl⟩
  | c + 1, p, o, g, hc, hp, hI => by
    have e55 : g 55 = ρ := (hI.1.1 55 (by decide)).trans hρ
    have e12 : g 54 12 = nI p := hI.1.2.2.1
    refine sk_S.aload_n (i := 0) (dd DX8_any 2 rfl) rfl rfl ?_
    refine sk_S.geti (dd DX8_any 3 rfl) rfl fX8_120 se_54 (by decide) rfl ?_
    refine sk_S.if_ne (tgt := 44) (dd DX8_any 4 rfl) (by decide) (fun c8 => absurd hI.2.1 c8) (fun c8 => ?_)
    refine sk_S.aload_n (i := 0) (dd DX8_any 5 rfl) rfl rfl ?_
    refine sk_S.callV (dd DX8_any 6 rfl) rfl kX8_116 (cM_look e55 htp ht e12 (by omega)) se_54 (by decide) rfl rfl rfl rfl (Nat.le_of_ble_eq_true rfl) (fun r12 h12 q12 => ?_)
    obtain ⟨rfl, rfl⟩ := q12
    show sk_S _ _ _ _ _ _ (.int _ :: _) _ _
    refine sk_S.bipush (v := 124) (dd DX8_any 7 rfl) (by decide) ?_
    refine sk_S.icmp_ne (tgt := 44) (dd DX8_any 8 rfl) (by decide) (fun c17 => ?_) (fun c17 => ?_)
    · refine sk_S.vret (dd DX8_any 22 rfl) rfl ?_
      have hlv : ¬ lvP (tkT ρ tp p) = 0 := fun q => by
        have q2 := lv_00.mp q
        simp only [List.mem_cons, List.not_mem_nil, or_false] at q2
        exact c17 q2
      rw [lp_out hlv]
      exact ⟨⟨hp, Or.inl ⟨rfl, hI⟩⟩, rfl⟩
    · have hlv : lvP (tkT ρ tp p) = 0 := lv_00.mpr (by rw [c17]; decide)
      have hlt : p < tp := tk_lt (g := ρ) (by rw [hlv]; decide)
      refine sk_S.aload_n (i := 0) (dd DX8_any 9 rfl) rfl rfl ?_
      refine sk_S.dup (dd DX8_any 10 rfl) rfl ?_
      refine sk_S.geti (dd DX8_any 11 rfl) rfl fX8_106 se_54 (by decide) rfl ?_
      refine sk_S.iconst (v := 1) (dd DX8_any 12 rfl) (by decide) ?_
      refine sk_S.iadd (dd DX8_any 13 rfl) ?_
      refine sk_S.putf (dd DX8_any 14 rfl) rfl pX8_106 se_54 (by decide) rfl rfl rfl ?_
      refine sk_S.aload_n (i := 0) (dd DX8_any 15 rfl) rfl rfl ?_
      refine sk_S.callV (dd DX8_any 16 rfl) rfl kX8_156 (hS (d + 1) op (p + 1) o _ hop hlt (by unfold ndD at *; omega) hI.step) se_54 (by decide) rfl rfl rfl rfl (Nat.le_of_ble_eq_true rfl) (fun r31 h31 q31 => ?_)
      obtain ⟨y, rfl⟩ := q31
      obtain ⟨n9, hn9, hl9⟩ := y.laid ht
      show sk_S _ _ _ _ 34 _ _ _ _
      refine sk_S.aload_n (i := 0) (dd DX8_any 17 rfl) rfl rfl ?_
      refine sk_S.bipush (v := 124) (dd DX8_any 18 rfl) (by decide) ?_
      refine sk_S.iconst (v := 0) (dd DX8_any 19 rfl) (by decide) ?_
      refine sk_S.callV (dd DX8_any 20 rfl) rfl kX8_124 (cM_lays hl9 hn9) se_54 (by decide) rfl rfl rfl rfl (Nat.le_of_ble_eq_true rfl) (fun r38 h38 q38 => ?_)
      obtain ⟨o9, a9, l9, rfl⟩ := q38
      show sk_S _ _ _ _ 41 _ _ _ _
      refine sk_S.goto (tgt := 4) (dd DX8_any 21 rfl) (by decide) ?_
      rcases y.2 with ⟨f1, f2⟩ | ⟨f1, f2⟩
      · have hlen := pP_len n 1 op (p + 1) o f1
        have hy := y.1
        have ho := hI.2.2.2.1
        rw [lp_yes hlv f1]
        refine sk_S.L (lp_any hρ htp ht hU hu hS hop hnd c _ _ _ (by omega) y.1 ?_) rfl
        rw [c17]
        exact f2.lay o9 a9 l9 hl9 hn9 (by omega) (by omega)
      · rw [lp_no hlv f1]
        have f3 := f2.lay o9 a9 l9
        refine sk_S.mono (lf_any (by rw [f3.2.1]; decide)) ?_
        rintro r h1 ⟨rfl, rfl⟩
        exact ⟨⟨y.1, Or.inr ⟨f1, f3⟩⟩, rfl⟩
set_option maxRecDepth 100000 in
set_option maxHeartbeats 4000000 in
theorem ps_any {l : Launch} {E : sk_V} {h : sk_M} {ρ : Nat → Int32} {tp u n : Nat} (hρ : h 55 = ρ) (htp : ρ 7 = nI tp) (ht : tp ≤ 60) (hU : h 54 15 = nI u) (hu : u < 2) (hS : psK l E h ρ tp u n 1 MX8_all) : psK l E h ρ tp u (n + 1) 0 MX8_any := by
  intro d op p o g hop hp hnd hI
  rw [show 2 * (n + 1) + d + 2 = 2 * n + d + 4 from by omega]
  refine sk_K.of (by decide +kernel) (Nat.le_of_ble_eq_true rfl) ?_
  show sk_S l E (2 * n + d + 4) _ 0 [some (.ref 54)] [] g _
  refine sk_S.aload_n (i := 0) (dd DX8_any 0 rfl) rfl rfl ?_
  refine sk_S.callV (dd DX8_any 1 rfl) rfl kX8_156 (hS (d + 1) op p o g hop hp (by unfold ndD at *; omega) hI) se_54 (by decide) rfl rfl rfl rfl (Nat.le_of_ble_eq_true rfl) (fun r1 h1 q1 => ?_)
  obtain ⟨y, rfl⟩ := q1
  show sk_S _ _ _ _ 4 _ _ _ _
  rcases y.2 with ⟨f1, f2⟩ | ⟨f1, f2⟩
  · rw [pP_yes (by decide) f1]
    exact lp_any hρ htp ht hU hu hS hop hnd 60 _ _ _ (by omega) y.1 f2
  · rw [pP_no (by decide) f1]
    refine sk_S.mono (lf_any (by rw [f2.2.1]; decide)) ?_
    rintro r h1 ⟨rfl, rfl⟩
    exact ⟨⟨y.1, Or.inr ⟨f1, f2⟩⟩, rfl⟩
end M17
