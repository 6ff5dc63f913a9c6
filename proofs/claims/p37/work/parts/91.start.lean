section START
theorem nwL_7 : cn_nw RL 7 6 7 [.null, .null, .null, .null, .null, .null, .int 0] := ⟨RX7, TX7, tyX7, rfl, uX7, tyX7_ok, gg_at 100 (by decide +kernel), gg_at 101 (by decide +kernel), gg_at 83 (by decide +kernel), fun j hj => by
  rcases (by omega : j = 0 ∨ j = 1 ∨ j = 2 ∨ j = 3 ∨ j = 4 ∨ j = 5 ∨ j = 6) with rfl | rfl | rfl | rfl | rfl | rfl | rfl <;> rfl⟩
theorem ciL_9 : cn_ci RL 9 MX7_init := ⟨aX7_init, gg_at 83 (by decide +kernel), ⟨by decide, by decide, by decide +kernel⟩, by decide, rfl, rfl, gg_at 103 (by decide +kernel), Or.inl (gg_at 102 (by decide +kernel))⟩
theorem nwL_10 : cn_nw RL 10 7 20 [.null, .null, .int 0, .null, .null, .null, .null, .null, .null, .null, .null, .int 0, .int 0, .int 0, .int 0, .int 0, .null, .null, .int 0, .int 0] := ⟨RX8, TX8, tyX8, rfl, uX8, tyX8_ok, gg_at 798 (by decide +kernel), gg_at 799 (by decide +kernel), gg_at 91 (by decide +kernel), fun j hj => by
  rcases (by omega : j = 0 ∨ j = 1 ∨ j = 2 ∨ j = 3 ∨ j = 4 ∨ j = 5 ∨ j = 6 ∨ j = 7 ∨ j = 8 ∨ j = 9 ∨ j = 10 ∨ j = 11 ∨ j = 12 ∨ j = 13 ∨ j = 14 ∨ j = 15 ∨ j = 16 ∨ j = 17 ∨ j = 18 ∨ j = 19) with rfl | rfl | rfl | rfl | rfl | rfl | rfl | rfl | rfl | rfl | rfl | rfl | rfl | rfl | rfl | rfl | rfl | rfl | rfl | rfl <;> rfl⟩
theorem ciL_12 : cn_ci RL 12 MX8_init := ⟨aX8_init, gg_at 91 (by decide +kernel), ⟨by decide, by decide, by decide +kernel⟩, by decide, rfl, rfl, gg_at 801 (by decide +kernel), Or.inl (gg_at 800 (by decide +kernel))⟩
set_option maxRecDepth 100000 in
set_option maxHeartbeats 4000000 in
theorem con_L {l : Launch} {G : va_G} {T : Nat → ClassId} {S0 d b : Nat} : cn_S l G T S0 (d + 4) 67 2140 ML_law 0 [some (.ref b), none, none, none] [] (cw ([], 0, 0, 0) [] []) (fun ws pc1 L1 => ∃ a : Nat → Nat, ws = TLw T a ∧ pc1 = 16 ∧ L1 = [some (.ref b), some (.ref (a 0)), some (.ref (a 54)), none]) := by
  refine cn_S.new (own := RL) (c := 66) (n := 2133) (dd DL_law_p1 0 rfl) rfl nwL_7 (fun q0_0 => ?_)
  show cn_S _ _ _ _ _ 66 2133 _ 3 [some (.ref b), none, none, none] [.ref q0_0] (cw _ _ [_]) _
  refine cn_S.dup (dd DL_law_p1 1 rfl) ?_
  refine cn_S.init (c := 13) (n := 1090) (y := 0) (dd DL_law_p1 2 rfl) rfl ciL_9 con_X7 rfl rfl (Nat.le_of_ble_eq_true rfl) (fun f1 t1 hq => ?_)
  obtain ⟨q5_0_4_1, q6_0_9_1_4_1, q13_1_9_1_4_1, q21_2_9_1_4_1, q29_3_9_1_4_1, q38_4_9_1_4_1, q46_5_9_1_4_1, q83_6_9_1_4_1, q83_8_9_1_4_1, q83_10_9_1_4_1, q83_12_9_1_4_1, q83_14_9_1_4_1, q83_16_9_1_4_1, q109_18_9_1_4_1, q7_0_113_19_9_1_4_1, q15_1_113_19_9_1_4_1, q109_20_9_1_4_1, q7_0_113_21_9_1_4_1, q15_1_113_21_9_1_4_1, q16_2_4_1, q6_0_20_3_4_1, q13_1_20_3_4_1, q21_2_20_3_4_1, q29_3_20_3_4_1, q38_4_20_3_4_1, q46_5_20_3_4_1, q83_6_20_3_4_1, q83_8_20_3_4_1, q83_10_20_3_4_1, q83_12_20_3_4_1, q83_14_20_3_4_1, q83_16_20_3_4_1, q109_18_20_3_4_1, q7_0_113_19_20_3_4_1, q15_1_113_19_20_3_4_1, q109_20_20_3_4_1, q7_0_113_21_20_3_4_1, q15_1_113_21_20_3_4_1, q27_4_4_1, q7_0_31_5_4_1, q15_1_31_5_4_1, q38_6_4_1, q7_0_42_7_4_1, q50_8_4_1, q59_9_4_1, q76_10_4_1, q7_0_80_11_4_1, q76_12_4_1, q7_0_80_13_4_1, q76_14_4_1, q7_0_80_15_4_1, q76_16_4_1, q7_0_80_17_4_1, rfl, rfl⟩ := hq
  show cn_S _ _ _ _ _ 13 1090 _ 7 [some (.ref b), none, none, none] [.ref q0_0] (cw _ _ [(q0_0, .inr (6, [.ref q5_0_4_1, .ref q16_2_4_1, .ref q27_4_4_1, .ref q38_6_4_1, .ref q50_8_4_1, .ref q59_9_4_1, .int 0])), _, _, _, _, _, _, _, _, _, _, _, _, _, _, _, _, _, _, _, _, _, _, _, _, _, _, _, _, _, _, _, _, _, _, _, _, _, _, _, _, _, _, _, _, _, _, _, _, _, _, _, _, _]) _
  refine cn_S.astore_n (i := 1) (dd DL_law_p1 3 rfl) rfl (Nat.le_of_ble_eq_true rfl) rfl ?_
  show cn_S _ _ _ _ _ 13 1090 _ 8 [some (.ref b), some (.ref q0_0), none, none] [] _ _
  refine cn_S.new (own := RL) (c := 12) (n := 1070) (dd DL_law_p1 4 rfl) rfl nwL_10 (fun q8_2 => ?_)
  show cn_S _ _ _ _ _ 12 1070 _ 11 [some (.ref b), some (.ref q0_0), none, none] [.ref q8_2] (cw _ _ [_, _, _, _, _, _, _, _, _, _, _, _, _, _, _, _, _, _, _, _, _, _, _, _, _, _, _, _, _, _, _, _, _, _, _, _, _, _, _, _, _, _, _, _, _, _, _, _, _, _, _, _, _, _, _]) _
  refine cn_S.dup (dd DL_law_p1 5 rfl) ?_
  refine cn_S.init (c := 0) (n := 0) (y := 54) (dd DL_law_p1 6 rfl) rfl ciL_12 con_X8 rfl rfl (Nat.le_of_ble_eq_true rfl) (fun f1 t1 hq => ?_)
  obtain ⟨q8_0_12_3, q17_1_12_3, q25_2_12_3, q32_3_12_3, q39_4_12_3, q47_5_12_3, q55_6_12_3, q63_7_12_3, q70_8_12_3, q78_9_12_3, q86_10_12_3, q94_11_12_3, rfl, rfl⟩ := hq
  show cn_S _ _ _ _ _ 0 0 _ 15 [some (.ref b), some (.ref q0_0), none, none] [.ref q8_2] (cw _ _ [_, _, _, _, _, _, _, _, _, _, _, _, _, _, _, _, _, _, _, _, _, _, _, _, _, _, _, _, _, _, _, _, _, _, _, _, _, _, _, _, _, _, _, _, _, _, _, _, _, _, _, _, _, _, (q8_2, .inr (7, [.ref q8_0_12_3, .ref q17_1_12_3, .int 0, .ref q25_2_12_3, .ref q32_3_12_3, .ref q39_4_12_3, .ref q47_5_12_3, .ref q55_6_12_3, .ref q63_7_12_3, .ref q70_8_12_3, .ref q78_9_12_3, .int 0, .int 0, .int 0, .int 0, .int 0, .ref q86_10_12_3, .ref q94_11_12_3, .int 0, .int 0])), _, _, _, _, _, _, _, _, _, _, _, _]) _
  refine cn_S.astore_n (i := 2) (dd DL_law_p1 7 rfl) rfl (Nat.le_of_ble_eq_true rfl) rfl ?_
  show cn_S _ _ _ _ _ 0 0 _ 16 [some (.ref b), some (.ref q0_0), some (.ref q8_2), none] [] _ _
  exact cn_S.ret ⟨fun k => [q0_0, q5_0_4_1, q16_2_4_1, q27_4_4_1, q38_6_4_1, q50_8_4_1, q59_9_4_1, q76_10_4_1, q76_12_4_1, q76_14_4_1, q76_16_4_1, q7_0_80_11_4_1, q7_0_80_13_4_1, q7_0_80_15_4_1, q7_0_80_17_4_1, q7_0_31_5_4_1, q15_1_31_5_4_1, q7_0_42_7_4_1, q6_0_9_1_4_1, q13_1_9_1_4_1, q21_2_9_1_4_1, q29_3_9_1_4_1, q38_4_9_1_4_1, q46_5_9_1_4_1, q83_6_9_1_4_1, q83_8_9_1_4_1, q83_10_9_1_4_1, q83_12_9_1_4_1, q83_14_9_1_4_1, q83_16_9_1_4_1, q109_18_9_1_4_1, q109_20_9_1_4_1, q7_0_113_19_9_1_4_1, q7_0_113_21_9_1_4_1, q15_1_113_19_9_1_4_1, q15_1_113_21_9_1_4_1, q6_0_20_3_4_1, q13_1_20_3_4_1, q21_2_20_3_4_1, q29_3_20_3_4_1, q38_4_20_3_4_1, q46_5_20_3_4_1, q83_6_20_3_4_1, q83_8_20_3_4_1, q83_10_20_3_4_1, q83_12_20_3_4_1, q83_14_20_3_4_1, q83_16_20_3_4_1, q109_18_20_3_4_1, q109_20_20_3_4_1, q7_0_113_19_20_3_4_1, q7_0_113_21_20_3_4_1, q15_1_113_19_20_3_4_1, q15_1_113_21_20_3_4_1, q8_2, q8_0_12_3, q17_1_12_3, q25_2_12_3, q32_3_12_3, q39_4_12_3, q47_5_12_3, q55_6_12_3, q63_7_12_3, q70_8_12_3, q78_9_12_3, q86_10_12_3, q94_11_12_3].getD k 0, rfl, rfl, rfl⟩
set_option maxRecDepth 100000 in
set_option maxHeartbeats 4000000 in
theorem st_16 {l : Launch} {E : sk_V} {d : Nat} (h6 : sk_L E ≤ 3072) : sk_S l E (d + 201) ML_law 16 [some (.ref 67), some (.ref 0), some (.ref 54), none] [] h00 (fun r h1 => some (.int 1) = r) := by
  refine sk_S.iconst (v := 0) (dd DL_law_p1 8 rfl) (by decide) ?_
  refine sk_S.istore_n (i := 3) (dd DL_law_p1 9 rfl) rfl (Nat.le_of_ble_eq_true rfl) rfl ?_
  exact lz_loop h6 h00_inv
theorem whole_start {p : Program} {e : Env} {s : State} {m : MethodId} {below : List Frame} {meth : Method} {c : Code} (l : Launch) (hflags : l.flags = flags0) {b L : Nat} {xs : Nat → Int32} (hL : L ≤ 3072) (C0 : lw_At p s m meth c b L xs) : W p l e room_1 s m #[Value.ref b] below meth c s.heap [] 0 0 (lw_Z below #[Value.ref b] s) (entryFrame m ([Value.ref b] : List Value).toArray 4) := by
  obtain ⟨hx, hb, hr, hml, hown, hts, hX, hbl, hlocks, hgv⟩ := id C0
  have hs : ∀ c ∈ flL, c.before #[Value.ref b] s = true := flat_of_before _ hgv
  obtain ⟨G, T, hF⟩ := st_F hts
  obtain ⟨tA, fA, zA⟩ := st_A hs hts
  obtain ⟨tB, fB, zB⟩ := st_B hs hts
  obtain ⟨k70, v71, fS, fR⟩ := st_S hs hts
  obtain ⟨fC, fQ⟩ := st_C hs hts
  have gw : ∀ w ∈ gg_W, w.before #[Value.ref b] s = true := fun w h => hts w (List.mem_filter.mp h).1
  have hP0 : va_P G vwCl (cw ([], 0, 0, 0) [] []) s.heap := fun k q h => by simp [cw] at h
  have hD0 : va_D (cn_A s.heap.size) (cw ([], 0, 0, 0) [] []) := ⟨fun i j p q h => by simp [cw] at h, fun k q h => by simp [cw] at h⟩
  rw [lg_entry_eq]
  have hl0 := sk_in_l (E := idE) (as := [.ref b]) (n := 4) (Nat.le_of_ble_eq_true rfl)
  refine con_L (d := 0) (b := b) p e room_1 s m #[Value.ref b] below meth c 0 0 (lw_Z below #[Value.ref b] s) ⟨hx, hb, hml, hown, gw, hF, hr, hlocks, Nat.le_of_ble_eq_true rfl, Nat.le_of_ble_eq_true rfl, fun z => absurd z (by decide)⟩ (Nat.le_of_ble_eq_true rfl) (Nat.le_of_ble_eq_true rfl) ?_ s.heap [] _ hP0 hD0 va_S.rf hl0
  intro ws1 H locs pc1 L1 ls hq hP hD hS hl
  obtain ⟨a, rfl, rfl, rfl⟩ := hq
  refine va_forget hS.2.2 ?_
  generalize hE : E00 G T (fun k => if k = 67 then b else if k = 68 then tA else if k = 69 then tB else if k = 70 then k70 else if k = 71 then v71 else a k) L xs = E
  have ea : ∀ k, k < 67 → sk_a E k = a k := fun k hk => by
    rw [← hE]
    show (if k = 67 then b else if k = 68 then tA else if k = 69 then tB else if k = 70 then k70 else if k = 71 then v71 else a k) = a k
    rw [if_neg (by omega), if_neg (by omega), if_neg (by omega), if_neg (by omega), if_neg (by omega)]
  have eT : TLw T a = TLw T (fun k => if k = 67 then b else if k = 68 then tA else if k = 69 then tB else if k = 70 then k70 else if k = 71 then v71 else a k) := rfl
  rw [eT] at hP hD
  have hPW : va_P (sk_G E) vwCl (sk_W E h00) H := by rw [← hE]; exact st_P hP
  have hDW : va_D (cn_A s.heap.size) (sk_W E h00) := by rw [← hE]; exact st_D hD
  have hAn : ∀ q, sk_A E q → cn_A s.heap.size q := fun q hq => by
    obtain ⟨k, hk, rfl⟩ := hq
    exact hDW.2 k _ (sk_W_at hk)
  have hold : ∀ q, q < s.heap.size → ¬ sk_A E q := fun q h z => absurd h (Nat.not_lt.mpr (hAn q z))
  have hL9 : sk_L E = L := by rw [← hE]
  have hSE : va_S (sk_A E) s.heap H [] := ⟨hS.1, fun q h _ => hS.2.1 q h (fun z => absurd h (Nat.not_lt.mpr z)), fun q h => absurd h List.not_mem_nil⟩
  have hFE : sk_F E s := by
    refine ⟨?_, fun i j hi hj e => hDW.1 i j _ _ (sk_W_at hi) (sk_W_at hj) e, fun k n f e => ?_, fun q hq => ?_, ?_, ?_, fC.narrow hAn, fQ.narrow hAn, hF.2.1⟩
    · rw [← hE]; exact hF.1
    · subst hE
      match k, e with
      | 67, e =>
        cases e
        obtain ⟨scr, x1, x2, x3, x4, x5⟩ := hX
        exact ⟨scr, x1, x2, x3, by rw [x4]; exact Nat.le_refl _, by rw [x4], x5, hold b hbl⟩
      | 68, e => cases e; exact fA.narrow hAn
      | 69, e => cases e; exact fB.narrow hAn
    · subst hE
      simp only [st_K, List.mem_cons, List.not_mem_nil, or_false] at hq
      rcases hq with rfl | rfl
      · exact zA.narrow hAn
      · exact zB.narrow hAn
    · subst hE
      exact fS.narrow hAn
    · subst hE
      exact fR
  have hlE : sk_l E ls [some (.ref 67), some (.ref 0), some (.ref 54), none] := by
    refine ⟨hl.1, hl.2.1, fun i v hv => ?_⟩
    match i, hv with
    | 0, hv =>
      cases hv
      have := hl.2.2 0 (.ref b) rfl
      rw [← hE]
      exact this
    | 1, hv =>
      cases hv
      have := hl.2.2 1 (.ref (a 0)) rfl
      rw [show sk_v E (.ref 0) = .ref (a 0) from congrArg Value.ref (ea 0 (by decide))]
      exact this
    | 2, hv =>
      cases hv
      have := hl.2.2 2 (.ref (a 54)) rfl
      rw [show sk_v E (.ref 54) = .ref (a 54) from congrArg Value.ref (ea 54 (by decide))]
      exact this
    | 3, hv => cases hv
    | i + 4, hv => simp at hv
  have h16 := st_16 (l := l) (E := E) (d := 0) (by rw [hL9]; exact hL)
  refine h16 p e room_1 s m #[Value.ref b] below meth c _ _ (lw_Z below #[Value.ref b] s) ⟨hx, hb, hml, hown, gw, hFE, hr, hlocks, Nat.le_of_ble_eq_true rfl, Nat.le_of_ble_eq_true rfl⟩ (Nat.le_of_ble_eq_true rfl) (Nat.le_of_ble_eq_true rfl) ?_ H [] ls hPW hSE hlE
  intro r h1 H1 locs1 pc1 ls1 hq hP1 hS1 hret
  subst hq
  refine va_forget (fun q h => hAn _ (hS1.2.2 q h)) (W.widen (k := 600000) (n := 7302250) (Nat.le_of_ble_eq_true rfl) (Nat.le_of_ble_eq_true rfl) ?_)
  rcases hret with ⟨v, ty, hv, hty, hn, hd⟩ | ⟨hv, -⟩
  · cases hv
    exact lw_ret hx hb hr hlocks hd
  · cases hv
end START
